theorem dX0_init_0 : decode cX0_init 0 = .ok (.aload_n 0, 1) := by decide +kernel
theorem dX0_init_1 : decode cX0_init 1 = .ok (.invokespecial 3, 3) := by decide +kernel
theorem dX0_init_4 : decode cX0_init 4 = .ok (.aload_n 0, 1) := by decide +kernel
theorem dX0_init_5 : decode cX0_init 5 = .ok (.sipush 1536, 3) := by decide +kernel
theorem dX0_init_8 : decode cX0_init 8 = .ok (.newarray .int, 2) := by decide +kernel
theorem dX0_init_10 : decode cX0_init 10 = .ok (.putfield 11, 3) := by decide +kernel
theorem dX0_init_13 : decode cX0_init 13 = .ok (.aload_n 0, 1) := by decide +kernel
theorem dX0_init_14 : decode cX0_init 14 = .ok (.sipush 1536, 3) := by decide +kernel
theorem dX0_init_17 : decode cX0_init 17 = .ok (.newarray .int, 2) := by decide +kernel
theorem dX0_init_19 : decode cX0_init 19 = .ok (.putfield 15, 3) := by decide +kernel
theorem dX0_init_22 : decode cX0_init 22 = .ok (.aload_n 0, 1) := by decide +kernel
theorem dX0_init_23 : decode cX0_init 23 = .ok (.sipush 1536, 3) := by decide +kernel
theorem dX0_init_26 : decode cX0_init 26 = .ok (.newarray .boolean, 2) := by decide +kernel
theorem dX0_init_28 : decode cX0_init 28 = .ok (.putfield 18, 3) := by decide +kernel
theorem dX0_init_31 : decode cX0_init 31 = .ok (.aload_n 0, 1) := by decide +kernel
theorem dX0_init_32 : decode cX0_init 32 = .ok (.sipush 384, 3) := by decide +kernel
theorem dX0_init_35 : decode cX0_init 35 = .ok (.newarray .int, 2) := by decide +kernel
theorem dX0_init_37 : decode cX0_init 37 = .ok (.putfield 22, 3) := by decide +kernel
theorem dX0_init_40 : decode cX0_init 40 = .ok (.aload_n 0, 1) := by decide +kernel
theorem dX0_init_41 : decode cX0_init 41 = .ok (.sipush 384, 3) := by decide +kernel
theorem dX0_init_44 : decode cX0_init 44 = .ok (.newarray .int, 2) := by decide +kernel
theorem dX0_init_46 : decode cX0_init 46 = .ok (.putfield 25, 3) := by decide +kernel
theorem dX0_init_49 : decode cX0_init 49 = .ok (.aload_n 0, 1) := by decide +kernel
theorem dX0_init_50 : decode cX0_init 50 = .ok (.aload_n 1, 1) := by decide +kernel
theorem dX0_init_51 : decode cX0_init 51 = .ok (.putfield 28, 3) := by decide +kernel
theorem dX0_init_54 : decode cX0_init 54 = .ok (.return_, 1) := by decide +kernel
theorem dX0_fall_0 : decode cX0_fall 0 = .ok (.aload_n 0, 1) := by decide +kernel
theorem dX0_fall_1 : decode cX0_fall 1 = .ok (.iconst 0, 1) := by decide +kernel
theorem dX0_fall_2 : decode cX0_fall 2 = .ok (.putfield 32, 3) := by decide +kernel
theorem dX0_fall_5 : decode cX0_fall 5 = .ok (.return_, 1) := by decide +kernel
theorem dX0_has_0 : decode cX0_has 0 = .ok (.iload_n 1, 1) := by decide +kernel
theorem dX0_has_1 : decode cX0_has 1 = .ok (.iconst 0, 1) := by decide +kernel
theorem dX0_has_2 : decode cX0_has 2 = .ok (.aload_n 0, 1) := by decide +kernel
theorem dX0_has_3 : decode cX0_has 3 = .ok (.getfield 32, 3) := by decide +kernel
theorem dX0_has_6 : decode cX0_has 6 = .ok (.iconst 1, 1) := by decide +kernel
theorem dX0_has_7 : decode cX0_has 7 = .ok (.isub, 1) := by decide +kernel
theorem dX0_has_8 : decode cX0_has 8 = .ok (.invokestatic 36, 3) := by decide +kernel
theorem dX0_has_11 : decode cX0_has 11 = .ok (.ireturn, 1) := by decide +kernel
theorem dX0_areTwo_0 : decode cX0_areTwo 0 = .ok (.aload_n 0, 1) := by decide +kernel
theorem dX0_areTwo_1 : decode cX0_areTwo 1 = .ok (.iload_n 1, 1) := by decide +kernel
theorem dX0_areTwo_2 : decode cX0_areTwo 2 = .ok (.invokevirtual 40, 3) := by decide +kernel
theorem dX0_areTwo_5 : decode cX0_areTwo 5 = .ok (.ifCond .eq 20, 3) := by decide +kernel
theorem dX0_areTwo_8 : decode cX0_areTwo 8 = .ok (.aload_n 0, 1) := by decide +kernel
theorem dX0_areTwo_9 : decode cX0_areTwo 9 = .ok (.iload_n 2, 1) := by decide +kernel
theorem dX0_areTwo_10 : decode cX0_areTwo 10 = .ok (.invokevirtual 40, 3) := by decide +kernel
theorem dX0_areTwo_13 : decode cX0_areTwo 13 = .ok (.ifCond .eq 12, 3) := by decide +kernel
theorem dX0_areTwo_16 : decode cX0_areTwo 16 = .ok (.iload_n 1, 1) := by decide +kernel
theorem dX0_areTwo_17 : decode cX0_areTwo 17 = .ok (.iload_n 2, 1) := by decide +kernel
theorem dX0_areTwo_18 : decode cX0_areTwo 18 = .ok (.if_icmp .eq 7, 3) := by decide +kernel
theorem dX0_areTwo_21 : decode cX0_areTwo 21 = .ok (.iconst 1, 1) := by decide +kernel
theorem dX0_areTwo_22 : decode cX0_areTwo 22 = .ok (.goto 4, 3) := by decide +kernel
theorem dX0_areTwo_25 : decode cX0_areTwo 25 = .ok (.iconst 0, 1) := by decide +kernel
theorem dX0_areTwo_26 : decode cX0_areTwo 26 = .ok (.ireturn, 1) := by decide +kernel
theorem dX1_init_0 : decode cX1_init 0 = .ok (.aload_n 0, 1) := by decide +kernel
theorem dX1_init_1 : decode cX1_init 1 = .ok (.invokespecial 3, 3) := by decide +kernel
theorem dX1_init_4 : decode cX1_init 4 = .ok (.aload_n 0, 1) := by decide +kernel
theorem dX1_init_5 : decode cX1_init 5 = .ok (.bipush 24, 2) := by decide +kernel
theorem dX1_init_7 : decode cX1_init 7 = .ok (.newarray .int, 2) := by decide +kernel
theorem dX1_init_9 : decode cX1_init 9 = .ok (.putfield 9, 3) := by decide +kernel
theorem dX1_init_12 : decode cX1_init 12 = .ok (.aload_n 0, 1) := by decide +kernel
theorem dX1_init_13 : decode cX1_init 13 = .ok (.bipush 24, 2) := by decide +kernel
theorem dX1_init_15 : decode cX1_init 15 = .ok (.newarray .int, 2) := by decide +kernel
theorem dX1_init_17 : decode cX1_init 17 = .ok (.putfield 15, 3) := by decide +kernel
theorem dX1_init_20 : decode cX1_init 20 = .ok (.aload_n 0, 1) := by decide +kernel
theorem dX1_init_21 : decode cX1_init 21 = .ok (.bipush 24, 2) := by decide +kernel
theorem dX1_init_23 : decode cX1_init 23 = .ok (.newarray .boolean, 2) := by decide +kernel
theorem dX1_init_25 : decode cX1_init 25 = .ok (.putfield 18, 3) := by decide +kernel
theorem dX1_init_28 : decode cX1_init 28 = .ok (.aload_n 0, 1) := by decide +kernel
theorem dX1_init_29 : decode cX1_init 29 = .ok (.bipush 24, 2) := by decide +kernel
theorem dX1_init_31 : decode cX1_init 31 = .ok (.newarray .int, 2) := by decide +kernel
theorem dX1_init_33 : decode cX1_init 33 = .ok (.putfield 22, 3) := by decide +kernel
theorem dX1_init_36 : decode cX1_init 36 = .ok (.aload_n 0, 1) := by decide +kernel
theorem dX1_init_37 : decode cX1_init 37 = .ok (.aload_n 1, 1) := by decide +kernel
theorem dX1_init_38 : decode cX1_init 38 = .ok (.putfield 25, 3) := by decide +kernel
theorem dX1_init_41 : decode cX1_init 41 = .ok (.aload_n 0, 1) := by decide +kernel
theorem dX1_init_42 : decode cX1_init 42 = .ok (.aload_n 2, 1) := by decide +kernel
theorem dX1_init_43 : decode cX1_init 43 = .ok (.putfield 29, 3) := by decide +kernel
theorem dX1_init_46 : decode cX1_init 46 = .ok (.return_, 1) := by decide +kernel
theorem dX1_isToldUpTo_0 : decode cX1_isToldUpTo 0 = .ok (.iload_n 1, 1) := by decide +kernel
theorem dX1_isToldUpTo_1 : decode cX1_isToldUpTo 1 = .ok (.iconst 0, 1) := by decide +kernel
theorem dX1_isToldUpTo_2 : decode cX1_isToldUpTo 2 = .ok (.aload_n 0, 1) := by decide +kernel
theorem dX1_isToldUpTo_3 : decode cX1_isToldUpTo 3 = .ok (.getfield 25, 3) := by decide +kernel
theorem dX1_isToldUpTo_6 : decode cX1_isToldUpTo 6 = .ok (.getfield 33, 3) := by decide +kernel
theorem dX1_isToldUpTo_9 : decode cX1_isToldUpTo 9 = .ok (.iconst 1, 1) := by decide +kernel
theorem dX1_isToldUpTo_10 : decode cX1_isToldUpTo 10 = .ok (.isub, 1) := by decide +kernel
theorem dX1_isToldUpTo_11 : decode cX1_isToldUpTo 11 = .ok (.invokestatic 39, 3) := by decide +kernel
theorem dX1_isToldUpTo_14 : decode cX1_isToldUpTo 14 = .ok (.ifCond .ne 5, 3) := by decide +kernel
theorem dX1_isToldUpTo_17 : decode cX1_isToldUpTo 17 = .ok (.iconst 0, 1) := by decide +kernel
theorem dX1_isToldUpTo_18 : decode cX1_isToldUpTo 18 = .ok (.ireturn, 1) := by decide +kernel
theorem dX1_isToldUpTo_19 : decode cX1_isToldUpTo 19 = .ok (.iconst 0, 1) := by decide +kernel
theorem dX1_isToldUpTo_20 : decode cX1_isToldUpTo 20 = .ok (.istore_n 3, 1) := by decide +kernel
theorem dX1_isToldUpTo_21 : decode cX1_isToldUpTo 21 = .ok (.iload_n 3, 1) := by decide +kernel
theorem dX1_isToldUpTo_22 : decode cX1_isToldUpTo 22 = .ok (.iload_n 1, 1) := by decide +kernel
theorem dX1_isToldUpTo_23 : decode cX1_isToldUpTo 23 = .ok (.if_icmp .gt 23, 3) := by decide +kernel
theorem dX1_isToldUpTo_26 : decode cX1_isToldUpTo 26 = .ok (.aload_n 0, 1) := by decide +kernel
theorem dX1_isToldUpTo_27 : decode cX1_isToldUpTo 27 = .ok (.getfield 29, 3) := by decide +kernel
theorem dX1_isToldUpTo_30 : decode cX1_isToldUpTo 30 = .ok (.iload_n 3, 1) := by decide +kernel
theorem dX1_isToldUpTo_31 : decode cX1_isToldUpTo 31 = .ok (.iload_n 2, 1) := by decide +kernel
theorem dX1_isToldUpTo_32 : decode cX1_isToldUpTo 32 = .ok (.invokevirtual 43, 3) := by decide +kernel
theorem dX1_isToldUpTo_35 : decode cX1_isToldUpTo 35 = .ok (.ifCond .ne 5, 3) := by decide +kernel
theorem dX1_isToldUpTo_38 : decode cX1_isToldUpTo 38 = .ok (.iconst 0, 1) := by decide +kernel
theorem dX1_isToldUpTo_39 : decode cX1_isToldUpTo 39 = .ok (.ireturn, 1) := by decide +kernel
theorem dX1_isToldUpTo_40 : decode cX1_isToldUpTo 40 = .ok (.iinc 3 1, 3) := by decide +kernel
theorem dX1_isToldUpTo_43 : decode cX1_isToldUpTo 43 = .ok (.goto (-22), 3) := by decide +kernel
theorem dX1_isToldUpTo_46 : decode cX1_isToldUpTo 46 = .ok (.iconst 1, 1) := by decide +kernel
theorem dX1_isToldUpTo_47 : decode cX1_isToldUpTo 47 = .ok (.ireturn, 1) := by decide +kernel
theorem dX2_init_0 : decode cX2_init 0 = .ok (.aload_n 0, 1) := by decide +kernel
theorem dX2_init_1 : decode cX2_init 1 = .ok (.invokespecial 5, 3) := by decide +kernel
theorem dX2_init_4 : decode cX2_init 4 = .ok (.aload_n 0, 1) := by decide +kernel
theorem dX2_init_5 : decode cX2_init 5 = .ok (.bipush 24, 2) := by decide +kernel
theorem dX2_init_7 : decode cX2_init 7 = .ok (.newarray .int, 2) := by decide +kernel
theorem dX2_init_9 : decode cX2_init 9 = .ok (.putfield 11, 3) := by decide +kernel
theorem dX2_init_12 : decode cX2_init 12 = .ok (.aload_n 0, 1) := by decide +kernel
theorem dX2_init_13 : decode cX2_init 13 = .ok (.bipush 24, 2) := by decide +kernel
theorem dX2_init_15 : decode cX2_init 15 = .ok (.newarray .int, 2) := by decide +kernel
theorem dX2_init_17 : decode cX2_init 17 = .ok (.putfield 15, 3) := by decide +kernel
theorem dX2_init_20 : decode cX2_init 20 = .ok (.aload_n 0, 1) := by decide +kernel
theorem dX2_init_21 : decode cX2_init 21 = .ok (.bipush 24, 2) := by decide +kernel
theorem dX2_init_23 : decode cX2_init 23 = .ok (.newarray .boolean, 2) := by decide +kernel
theorem dX2_init_25 : decode cX2_init 25 = .ok (.putfield 18, 3) := by decide +kernel
theorem dX2_init_28 : decode cX2_init 28 = .ok (.aload_n 0, 1) := by decide +kernel
theorem dX2_init_29 : decode cX2_init 29 = .ok (.sipush 192, 3) := by decide +kernel
theorem dX2_init_32 : decode cX2_init 32 = .ok (.newarray .int, 2) := by decide +kernel
theorem dX2_init_34 : decode cX2_init 34 = .ok (.putfield 22, 3) := by decide +kernel
theorem dX2_init_37 : decode cX2_init 37 = .ok (.aload_n 0, 1) := by decide +kernel
theorem dX2_init_38 : decode cX2_init 38 = .ok (.bipush 8, 2) := by decide +kernel
theorem dX2_init_40 : decode cX2_init 40 = .ok (.newarray .long, 2) := by decide +kernel
theorem dX2_init_42 : decode cX2_init 42 = .ok (.putfield 25, 3) := by decide +kernel
theorem dX2_init_45 : decode cX2_init 45 = .ok (.aload_n 0, 1) := by decide +kernel
theorem dX2_init_46 : decode cX2_init 46 = .ok (.bipush 8, 2) := by decide +kernel
theorem dX2_init_48 : decode cX2_init 48 = .ok (.newarray .boolean, 2) := by decide +kernel
theorem dX2_init_50 : decode cX2_init 50 = .ok (.putfield 29, 3) := by decide +kernel
theorem dX2_init_53 : decode cX2_init 53 = .ok (.aload_n 0, 1) := by decide +kernel
theorem dX2_init_54 : decode cX2_init 54 = .ok (.bipush 8, 2) := by decide +kernel
theorem dX2_init_56 : decode cX2_init 56 = .ok (.newarray .int, 2) := by decide +kernel
theorem dX2_init_58 : decode cX2_init 58 = .ok (.putfield 32, 3) := by decide +kernel
theorem dX2_init_61 : decode cX2_init 61 = .ok (.aload_n 0, 1) := by decide +kernel
theorem dX2_init_62 : decode cX2_init 62 = .ok (.bipush 8, 2) := by decide +kernel
theorem dX2_init_64 : decode cX2_init 64 = .ok (.newarray .int, 2) := by decide +kernel
theorem dX2_init_66 : decode cX2_init 66 = .ok (.putfield 35, 3) := by decide +kernel
theorem dX2_init_69 : decode cX2_init 69 = .ok (.aload_n 0, 1) := by decide +kernel
theorem dX2_init_70 : decode cX2_init 70 = .ok (.ldc 38, 2) := by decide +kernel
theorem dX2_init_72 : decode cX2_init 72 = .ok (.newarray .byte, 2) := by decide +kernel
theorem dX2_init_74 : decode cX2_init 74 = .ok (.putfield 39, 3) := by decide +kernel
theorem dX2_init_77 : decode cX2_init 77 = .ok (.aload_n 0, 1) := by decide +kernel
theorem dX2_init_78 : decode cX2_init 78 = .ok (.sipush 3721, 3) := by decide +kernel
theorem dX2_init_81 : decode cX2_init 81 = .ok (.newarray .long, 2) := by decide +kernel
theorem dX2_init_83 : decode cX2_init 83 = .ok (.putfield 43, 3) := by decide +kernel
theorem dX2_init_86 : decode cX2_init 86 = .ok (.aload_n 0, 1) := by decide +kernel
theorem dX2_init_87 : decode cX2_init 87 = .ok (.sipush 3721, 3) := by decide +kernel
theorem dX2_init_90 : decode cX2_init 90 = .ok (.newarray .long, 2) := by decide +kernel
theorem dX2_init_92 : decode cX2_init 92 = .ok (.putfield 46, 3) := by decide +kernel
theorem dX2_init_95 : decode cX2_init 95 = .ok (.aload_n 0, 1) := by decide +kernel
theorem dX2_init_96 : decode cX2_init 96 = .ok (.aload_n 1, 1) := by decide +kernel
theorem dX2_init_97 : decode cX2_init 97 = .ok (.putfield 49, 3) := by decide +kernel
theorem dX2_init_100 : decode cX2_init 100 = .ok (.return_, 1) := by decide +kernel
theorem dX2_fits_0 : decode cX2_fits 0 = .ok (.iload_n 1, 1) := by decide +kernel
theorem dX2_fits_1 : decode cX2_fits 1 = .ok (.iconst 0, 1) := by decide +kernel
theorem dX2_fits_2 : decode cX2_fits 2 = .ok (.aload_n 0, 1) := by decide +kernel
theorem dX2_fits_3 : decode cX2_fits 3 = .ok (.getfield 49, 3) := by decide +kernel
theorem dX2_fits_6 : decode cX2_fits 6 = .ok (.getfield 53, 3) := by decide +kernel
theorem dX2_fits_9 : decode cX2_fits 9 = .ok (.iconst 1, 1) := by decide +kernel
theorem dX2_fits_10 : decode cX2_fits 10 = .ok (.isub, 1) := by decide +kernel
theorem dX2_fits_11 : decode cX2_fits 11 = .ok (.invokestatic 59, 3) := by decide +kernel
theorem dX2_fits_14 : decode cX2_fits 14 = .ok (.ifCond .eq 13, 3) := by decide +kernel
theorem dX2_fits_17 : decode cX2_fits 17 = .ok (.iload_n 2, 1) := by decide +kernel
theorem dX2_fits_18 : decode cX2_fits 18 = .ok (.iconst 0, 1) := by decide +kernel
theorem dX2_fits_19 : decode cX2_fits 19 = .ok (.bipush 40, 2) := by decide +kernel
theorem dX2_fits_21 : decode cX2_fits 21 = .ok (.invokestatic 59, 3) := by decide +kernel
theorem dX2_fits_24 : decode cX2_fits 24 = .ok (.ifCond .ne 5, 3) := by decide +kernel
theorem dX2_fits_27 : decode cX2_fits 27 = .ok (.iconst 0, 1) := by decide +kernel
theorem dX2_fits_28 : decode cX2_fits 28 = .ok (.ireturn, 1) := by decide +kernel
theorem dX2_fits_29 : decode cX2_fits 29 = .ok (.aload_n 0, 1) := by decide +kernel
theorem dX2_fits_30 : decode cX2_fits 30 = .ok (.getfield 32, 3) := by decide +kernel
theorem dX2_fits_33 : decode cX2_fits 33 = .ok (.iload_n 1, 1) := by decide +kernel
theorem dX2_fits_34 : decode cX2_fits 34 = .ok (.iaload, 1) := by decide +kernel
theorem dX2_fits_35 : decode cX2_fits 35 = .ok (.iload_n 2, 1) := by decide +kernel
theorem dX2_fits_36 : decode cX2_fits 36 = .ok (.if_icmp .ne 21, 3) := by decide +kernel
theorem dX2_fits_39 : decode cX2_fits 39 = .ok (.aload_n 0, 1) := by decide +kernel
theorem dX2_fits_40 : decode cX2_fits 40 = .ok (.getfield 35, 3) := by decide +kernel
theorem dX2_fits_43 : decode cX2_fits 43 = .ok (.iload_n 1, 1) := by decide +kernel
theorem dX2_fits_44 : decode cX2_fits 44 = .ok (.iaload, 1) := by decide +kernel
theorem dX2_fits_45 : decode cX2_fits 45 = .ok (.aload_n 0, 1) := by decide +kernel
theorem dX2_fits_46 : decode cX2_fits 46 = .ok (.getfield 49, 3) := by decide +kernel
theorem dX2_fits_49 : decode cX2_fits 49 = .ok (.getfield 63, 3) := by decide +kernel
theorem dX2_fits_52 : decode cX2_fits 52 = .ok (.iload_n 1, 1) := by decide +kernel
theorem dX2_fits_53 : decode cX2_fits 53 = .ok (.iaload, 1) := by decide +kernel
theorem dX2_fits_54 : decode cX2_fits 54 = .ok (.if_icmp .eq 51, 3) := by decide +kernel
theorem dX2_fits_57 : decode cX2_fits 57 = .ok (.aload_n 0, 1) := by decide +kernel
theorem dX2_fits_58 : decode cX2_fits 58 = .ok (.getfield 32, 3) := by decide +kernel
theorem dX2_fits_61 : decode cX2_fits 61 = .ok (.iload_n 1, 1) := by decide +kernel
theorem dX2_fits_62 : decode cX2_fits 62 = .ok (.iload_n 2, 1) := by decide +kernel
theorem dX2_fits_63 : decode cX2_fits 63 = .ok (.iastore, 1) := by decide +kernel
theorem dX2_fits_64 : decode cX2_fits 64 = .ok (.aload_n 0, 1) := by decide +kernel
theorem dX2_fits_65 : decode cX2_fits 65 = .ok (.getfield 35, 3) := by decide +kernel
theorem dX2_fits_68 : decode cX2_fits 68 = .ok (.iload_n 1, 1) := by decide +kernel
theorem dX2_fits_69 : decode cX2_fits 69 = .ok (.aload_n 0, 1) := by decide +kernel
theorem dX2_fits_70 : decode cX2_fits 70 = .ok (.getfield 49, 3) := by decide +kernel
theorem dX2_fits_73 : decode cX2_fits 73 = .ok (.getfield 63, 3) := by decide +kernel
theorem dX2_fits_76 : decode cX2_fits 76 = .ok (.iload_n 1, 1) := by decide +kernel
theorem dX2_fits_77 : decode cX2_fits 77 = .ok (.iaload, 1) := by decide +kernel
theorem dX2_fits_78 : decode cX2_fits 78 = .ok (.iastore, 1) := by decide +kernel
theorem dX2_fits_79 : decode cX2_fits 79 = .ok (.aload_n 0, 1) := by decide +kernel
theorem dX2_fits_80 : decode cX2_fits 80 = .ok (.getfield 29, 3) := by decide +kernel
theorem dX2_fits_83 : decode cX2_fits 83 = .ok (.iload_n 1, 1) := by decide +kernel
theorem dX2_fits_84 : decode cX2_fits 84 = .ok (.aload_n 0, 1) := by decide +kernel
theorem dX2_fits_85 : decode cX2_fits 85 = .ok (.iload_n 1, 1) := by decide +kernel
theorem dX2_fits_86 : decode cX2_fits 86 = .ok (.iload_n 2, 1) := by decide +kernel
theorem dX2_fits_87 : decode cX2_fits 87 = .ok (.invokevirtual 66, 3) := by decide +kernel
theorem dX2_fits_90 : decode cX2_fits 90 = .ok (.bastore, 1) := by decide +kernel
theorem dX2_fits_91 : decode cX2_fits 91 = .ok (.aload_n 0, 1) := by decide +kernel
theorem dX2_fits_92 : decode cX2_fits 92 = .ok (.getfield 29, 3) := by decide +kernel
theorem dX2_fits_95 : decode cX2_fits 95 = .ok (.iload_n 1, 1) := by decide +kernel
theorem dX2_fits_96 : decode cX2_fits 96 = .ok (.baload, 1) := by decide +kernel
theorem dX2_fits_97 : decode cX2_fits 97 = .ok (.ifCond .eq 8, 3) := by decide +kernel
theorem dX2_fits_100 : decode cX2_fits 100 = .ok (.aload_n 0, 1) := by decide +kernel
theorem dX2_fits_101 : decode cX2_fits 101 = .ok (.iload_n 1, 1) := by decide +kernel
theorem dX2_fits_102 : decode cX2_fits 102 = .ok (.invokevirtual 70, 3) := by decide +kernel
theorem dX2_fits_105 : decode cX2_fits 105 = .ok (.aload_n 0, 1) := by decide +kernel
theorem dX2_fits_106 : decode cX2_fits 106 = .ok (.getfield 29, 3) := by decide +kernel
theorem dX2_fits_109 : decode cX2_fits 109 = .ok (.iload_n 1, 1) := by decide +kernel
theorem dX2_fits_110 : decode cX2_fits 110 = .ok (.baload, 1) := by decide +kernel
theorem dX2_fits_111 : decode cX2_fits 111 = .ok (.ireturn, 1) := by decide +kernel
theorem dX3_init_0 : decode cX3_init 0 = .ok (.aload_n 0, 1) := by decide +kernel
theorem dX3_init_1 : decode cX3_init 1 = .ok (.invokespecial 3, 3) := by decide +kernel
theorem dX3_init_4 : decode cX3_init 4 = .ok (.aload_n 0, 1) := by decide +kernel
theorem dX3_init_5 : decode cX3_init 5 = .ok (.aload_n 1, 1) := by decide +kernel
theorem dX3_init_6 : decode cX3_init 6 = .ok (.putfield 9, 3) := by decide +kernel
theorem dX3_init_9 : decode cX3_init 9 = .ok (.return_, 1) := by decide +kernel
theorem dX4_init_0 : decode cX4_init 0 = .ok (.aload_n 0, 1) := by decide +kernel
theorem dX4_init_1 : decode cX4_init 1 = .ok (.invokespecial 3, 3) := by decide +kernel
theorem dX4_init_4 : decode cX4_init 4 = .ok (.aload_n 0, 1) := by decide +kernel
theorem dX4_init_5 : decode cX4_init 5 = .ok (.sipush 384, 3) := by decide +kernel
theorem dX4_init_8 : decode cX4_init 8 = .ok (.newarray .int, 2) := by decide +kernel
theorem dX4_init_10 : decode cX4_init 10 = .ok (.putfield 9, 3) := by decide +kernel
theorem dX4_init_13 : decode cX4_init 13 = .ok (.aload_n 0, 1) := by decide +kernel
theorem dX4_init_14 : decode cX4_init 14 = .ok (.sipush 384, 3) := by decide +kernel
theorem dX4_init_17 : decode cX4_init 17 = .ok (.newarray .int, 2) := by decide +kernel
theorem dX4_init_19 : decode cX4_init 19 = .ok (.putfield 15, 3) := by decide +kernel
theorem dX4_init_22 : decode cX4_init 22 = .ok (.aload_n 0, 1) := by decide +kernel
theorem dX4_init_23 : decode cX4_init 23 = .ok (.sipush 384, 3) := by decide +kernel
theorem dX4_init_26 : decode cX4_init 26 = .ok (.newarray .int, 2) := by decide +kernel
theorem dX4_init_28 : decode cX4_init 28 = .ok (.putfield 18, 3) := by decide +kernel
theorem dX4_init_31 : decode cX4_init 31 = .ok (.aload_n 0, 1) := by decide +kernel
theorem dX4_init_32 : decode cX4_init 32 = .ok (.sipush 384, 3) := by decide +kernel
theorem dX4_init_35 : decode cX4_init 35 = .ok (.newarray .boolean, 2) := by decide +kernel
theorem dX4_init_37 : decode cX4_init 37 = .ok (.putfield 21, 3) := by decide +kernel
theorem dX4_init_40 : decode cX4_init 40 = .ok (.aload_n 0, 1) := by decide +kernel
theorem dX4_init_41 : decode cX4_init 41 = .ok (.bipush 24, 2) := by decide +kernel
theorem dX4_init_43 : decode cX4_init 43 = .ok (.newarray .int, 2) := by decide +kernel
theorem dX4_init_45 : decode cX4_init 45 = .ok (.putfield 25, 3) := by decide +kernel
theorem dX4_init_48 : decode cX4_init 48 = .ok (.aload_n 0, 1) := by decide +kernel
theorem dX4_init_49 : decode cX4_init 49 = .ok (.bipush 8, 2) := by decide +kernel
theorem dX4_init_51 : decode cX4_init 51 = .ok (.newarray .int, 2) := by decide +kernel
theorem dX4_init_53 : decode cX4_init 53 = .ok (.putfield 28, 3) := by decide +kernel
theorem dX4_init_56 : decode cX4_init 56 = .ok (.aload_n 0, 1) := by decide +kernel
theorem dX4_init_57 : decode cX4_init 57 = .ok (.bipush 26, 2) := by decide +kernel
theorem dX4_init_59 : decode cX4_init 59 = .ok (.newarray .int, 2) := by decide +kernel
theorem dX4_init_61 : decode cX4_init 61 = .ok (.putfield 31, 3) := by decide +kernel
theorem dX4_init_64 : decode cX4_init 64 = .ok (.aload_n 0, 1) := by decide +kernel
theorem dX4_init_65 : decode cX4_init 65 = .ok (.iconst 1, 1) := by decide +kernel
theorem dX4_init_66 : decode cX4_init 66 = .ok (.putfield 34, 3) := by decide +kernel
theorem dX4_init_69 : decode cX4_init 69 = .ok (.return_, 1) := by decide +kernel
theorem dX4_stands_0 : decode cX4_stands 0 = .ok (.aload_n 0, 1) := by decide +kernel
theorem dX4_stands_1 : decode cX4_stands 1 = .ok (.getfield 38, 3) := by decide +kernel
theorem dX4_stands_4 : decode cX4_stands 4 = .ok (.ifCond .le 7, 3) := by decide +kernel
theorem dX4_stands_7 : decode cX4_stands 7 = .ok (.iconst 1, 1) := by decide +kernel
theorem dX4_stands_8 : decode cX4_stands 8 = .ok (.goto 4, 3) := by decide +kernel
theorem dX4_stands_11 : decode cX4_stands 11 = .ok (.iconst 0, 1) := by decide +kernel
theorem dX4_stands_12 : decode cX4_stands 12 = .ok (.ireturn, 1) := by decide +kernel
theorem dX4_rivetAt_0 : decode cX4_rivetAt 0 = .ok (.iload_n 1, 1) := by decide +kernel
theorem dX4_rivetAt_1 : decode cX4_rivetAt 1 = .ok (.iconst 0, 1) := by decide +kernel
theorem dX4_rivetAt_2 : decode cX4_rivetAt 2 = .ok (.aload_n 0, 1) := by decide +kernel
theorem dX4_rivetAt_3 : decode cX4_rivetAt 3 = .ok (.getfield 38, 3) := by decide +kernel
theorem dX4_rivetAt_6 : decode cX4_rivetAt 6 = .ok (.iconst 1, 1) := by decide +kernel
theorem dX4_rivetAt_7 : decode cX4_rivetAt 7 = .ok (.isub, 1) := by decide +kernel
theorem dX4_rivetAt_8 : decode cX4_rivetAt 8 = .ok (.invokestatic 41, 3) := by decide +kernel
theorem dX4_rivetAt_11 : decode cX4_rivetAt 11 = .ok (.ifCond .eq 26, 3) := by decide +kernel
theorem dX4_rivetAt_14 : decode cX4_rivetAt 14 = .ok (.iload_n 2, 1) := by decide +kernel
theorem dX4_rivetAt_15 : decode cX4_rivetAt 15 = .ok (.iconst 0, 1) := by decide +kernel
theorem dX4_rivetAt_16 : decode cX4_rivetAt 16 = .ok (.aload_n 0, 1) := by decide +kernel
theorem dX4_rivetAt_17 : decode cX4_rivetAt 17 = .ok (.getfield 45, 3) := by decide +kernel
theorem dX4_rivetAt_20 : decode cX4_rivetAt 20 = .ok (.iconst 1, 1) := by decide +kernel
theorem dX4_rivetAt_21 : decode cX4_rivetAt 21 = .ok (.isub, 1) := by decide +kernel
theorem dX4_rivetAt_22 : decode cX4_rivetAt 22 = .ok (.invokestatic 41, 3) := by decide +kernel
theorem dX4_rivetAt_25 : decode cX4_rivetAt 25 = .ok (.ifCond .eq 12, 3) := by decide +kernel
theorem dX4_rivetAt_28 : decode cX4_rivetAt 28 = .ok (.iload_n 3, 1) := by decide +kernel
theorem dX4_rivetAt_29 : decode cX4_rivetAt 29 = .ok (.iconst 0, 1) := by decide +kernel
theorem dX4_rivetAt_30 : decode cX4_rivetAt 30 = .ok (.iconst 1, 1) := by decide +kernel
theorem dX4_rivetAt_31 : decode cX4_rivetAt 31 = .ok (.invokestatic 41, 3) := by decide +kernel
theorem dX4_rivetAt_34 : decode cX4_rivetAt 34 = .ok (.ifCond .ne 5, 3) := by decide +kernel
theorem dX4_rivetAt_37 : decode cX4_rivetAt 37 = .ok (.iconst (-1), 1) := by decide +kernel
theorem dX4_rivetAt_38 : decode cX4_rivetAt 38 = .ok (.ireturn, 1) := by decide +kernel
theorem dX4_rivetAt_39 : decode cX4_rivetAt 39 = .ok (.iload_n 1, 1) := by decide +kernel
theorem dX4_rivetAt_40 : decode cX4_rivetAt 40 = .ok (.bipush 8, 2) := by decide +kernel
theorem dX4_rivetAt_42 : decode cX4_rivetAt 42 = .ok (.imul, 1) := by decide +kernel
theorem dX4_rivetAt_43 : decode cX4_rivetAt 43 = .ok (.iload_n 2, 1) := by decide +kernel
theorem dX4_rivetAt_44 : decode cX4_rivetAt 44 = .ok (.iadd, 1) := by decide +kernel
theorem dX4_rivetAt_45 : decode cX4_rivetAt 45 = .ok (.iconst 2, 1) := by decide +kernel
theorem dX4_rivetAt_46 : decode cX4_rivetAt 46 = .ok (.imul, 1) := by decide +kernel
theorem dX4_rivetAt_47 : decode cX4_rivetAt 47 = .ok (.iload_n 3, 1) := by decide +kernel
theorem dX4_rivetAt_48 : decode cX4_rivetAt 48 = .ok (.iadd, 1) := by decide +kernel
theorem dX4_rivetAt_49 : decode cX4_rivetAt 49 = .ok (.ireturn, 1) := by decide +kernel
theorem dX4_allStations_0 : decode cX4_allStations 0 = .ok (.iconst 1, 1) := by decide +kernel
theorem dX4_allStations_1 : decode cX4_allStations 1 = .ok (.aload_n 0, 1) := by decide +kernel
theorem dX4_allStations_2 : decode cX4_allStations 2 = .ok (.getfield 38, 3) := by decide +kernel
theorem dX4_allStations_5 : decode cX4_allStations 5 = .ok (.ishl, 1) := by decide +kernel
theorem dX4_allStations_6 : decode cX4_allStations 6 = .ok (.iconst 1, 1) := by decide +kernel
theorem dX4_allStations_7 : decode cX4_allStations 7 = .ok (.isub, 1) := by decide +kernel
theorem dX4_allStations_8 : decode cX4_allStations 8 = .ok (.ireturn, 1) := by decide +kernel
theorem dX4_raise_0 : decode cX4_raise 0 = .ok (.aload_n 0, 1) := by decide +kernel
theorem dX4_raise_1 : decode cX4_raise 1 = .ok (.iload_n 1, 1) := by decide +kernel
theorem dX4_raise_2 : decode cX4_raise 2 = .ok (.putfield 38, 3) := by decide +kernel
theorem dX4_raise_5 : decode cX4_raise 5 = .ok (.aload_n 0, 1) := by decide +kernel
theorem dX4_raise_6 : decode cX4_raise 6 = .ok (.iload_n 2, 1) := by decide +kernel
theorem dX4_raise_7 : decode cX4_raise 7 = .ok (.putfield 45, 3) := by decide +kernel
theorem dX4_raise_10 : decode cX4_raise 10 = .ok (.aload_n 0, 1) := by decide +kernel
theorem dX4_raise_11 : decode cX4_raise 11 = .ok (.iconst 0, 1) := by decide +kernel
theorem dX4_raise_12 : decode cX4_raise 12 = .ok (.putfield 49, 3) := by decide +kernel
theorem dX4_raise_15 : decode cX4_raise 15 = .ok (.aload_n 0, 1) := by decide +kernel
theorem dX4_raise_16 : decode cX4_raise 16 = .ok (.getfield 18, 3) := by decide +kernel
theorem dX4_raise_19 : decode cX4_raise 19 = .ok (.iconst 0, 1) := by decide +kernel
theorem dX4_raise_20 : decode cX4_raise 20 = .ok (.invokestatic 52, 3) := by decide +kernel
theorem dX4_raise_23 : decode cX4_raise 23 = .ok (.aload_n 0, 1) := by decide +kernel
theorem dX4_raise_24 : decode cX4_raise 24 = .ok (.getfield 31, 3) := by decide +kernel
theorem dX4_raise_27 : decode cX4_raise 27 = .ok (.iconst 0, 1) := by decide +kernel
theorem dX4_raise_28 : decode cX4_raise 28 = .ok (.invokestatic 52, 3) := by decide +kernel
theorem dX4_raise_31 : decode cX4_raise 31 = .ok (.iconst 0, 1) := by decide +kernel
theorem dX4_raise_32 : decode cX4_raise 32 = .ok (.istore 4, 2) := by decide +kernel
theorem dX4_raise_34 : decode cX4_raise 34 = .ok (.iload 4, 2) := by decide +kernel
theorem dX4_raise_36 : decode cX4_raise 36 = .ok (.aload_n 0, 1) := by decide +kernel
theorem dX4_raise_37 : decode cX4_raise 37 = .ok (.getfield 38, 3) := by decide +kernel
theorem dX4_raise_40 : decode cX4_raise 40 = .ok (.if_icmp .ge 53, 3) := by decide +kernel
theorem dX4_raise_43 : decode cX4_raise 43 = .ok (.iconst 0, 1) := by decide +kernel
theorem dX4_raise_44 : decode cX4_raise 44 = .ok (.istore 5, 2) := by decide +kernel
theorem dX4_raise_46 : decode cX4_raise 46 = .ok (.iload 5, 2) := by decide +kernel
theorem dX4_raise_48 : decode cX4_raise 48 = .ok (.aload_n 0, 1) := by decide +kernel
theorem dX4_raise_49 : decode cX4_raise 49 = .ok (.getfield 45, 3) := by decide +kernel
theorem dX4_raise_52 : decode cX4_raise 52 = .ok (.if_icmp .ge 35, 3) := by decide +kernel
theorem dX4_raise_55 : decode cX4_raise 55 = .ok (.iconst 0, 1) := by decide +kernel
theorem dX4_raise_56 : decode cX4_raise 56 = .ok (.istore 6, 2) := by decide +kernel
theorem dX4_raise_58 : decode cX4_raise 58 = .ok (.iload 6, 2) := by decide +kernel
theorem dX4_raise_60 : decode cX4_raise 60 = .ok (.iconst 2, 1) := by decide +kernel
theorem dX4_raise_61 : decode cX4_raise 61 = .ok (.if_icmp .ge 20, 3) := by decide +kernel
theorem dX4_raise_64 : decode cX4_raise 64 = .ok (.aload_n 0, 1) := by decide +kernel
theorem dX4_raise_65 : decode cX4_raise 65 = .ok (.iload 4, 2) := by decide +kernel
theorem dX4_raise_67 : decode cX4_raise 67 = .ok (.iload 5, 2) := by decide +kernel
theorem dX4_raise_69 : decode cX4_raise 69 = .ok (.iload 6, 2) := by decide +kernel
theorem dX4_raise_71 : decode cX4_raise 71 = .ok (.aload_n 3, 1) := by decide +kernel
theorem dX4_raise_72 : decode cX4_raise 72 = .ok (.invokevirtual 58, 3) := by decide +kernel
theorem dX4_raise_75 : decode cX4_raise 75 = .ok (.iinc 6 1, 3) := by decide +kernel
theorem dX4_raise_78 : decode cX4_raise 78 = .ok (.goto (-20), 3) := by decide +kernel
theorem dX4_raise_81 : decode cX4_raise 81 = .ok (.iinc 5 1, 3) := by decide +kernel
theorem dX4_raise_84 : decode cX4_raise 84 = .ok (.goto (-38), 3) := by decide +kernel
theorem dX4_raise_87 : decode cX4_raise 87 = .ok (.iinc 4 1, 3) := by decide +kernel
theorem dX4_raise_90 : decode cX4_raise 90 = .ok (.goto (-56), 3) := by decide +kernel
theorem dX4_raise_93 : decode cX4_raise 93 = .ok (.aload_n 0, 1) := by decide +kernel
theorem dX4_raise_94 : decode cX4_raise 94 = .ok (.invokevirtual 62, 3) := by decide +kernel
theorem dX4_raise_97 : decode cX4_raise 97 = .ok (.aload_n 0, 1) := by decide +kernel
theorem dX4_raise_98 : decode cX4_raise 98 = .ok (.getfield 38, 3) := by decide +kernel
theorem dX4_raise_101 : decode cX4_raise 101 = .ok (.aload_n 0, 1) := by decide +kernel
theorem dX4_raise_102 : decode cX4_raise 102 = .ok (.getfield 45, 3) := by decide +kernel
theorem dX4_raise_105 : decode cX4_raise 105 = .ok (.imul, 1) := by decide +kernel
theorem dX4_raise_106 : decode cX4_raise 106 = .ok (.iconst 2, 1) := by decide +kernel
theorem dX4_raise_107 : decode cX4_raise 107 = .ok (.imul, 1) := by decide +kernel
theorem dX4_raise_108 : decode cX4_raise 108 = .ok (.ireturn, 1) := by decide +kernel
theorem dX4_set_0 : decode cX4_set 0 = .ok (.aload_n 0, 1) := by decide +kernel
theorem dX4_set_1 : decode cX4_set 1 = .ok (.iload_n 1, 1) := by decide +kernel
theorem dX4_set_2 : decode cX4_set 2 = .ok (.iload_n 2, 1) := by decide +kernel
theorem dX4_set_3 : decode cX4_set 3 = .ok (.iload_n 3, 1) := by decide +kernel
theorem dX4_set_4 : decode cX4_set 4 = .ok (.invokevirtual 65, 3) := by decide +kernel
theorem dX4_set_7 : decode cX4_set 7 = .ok (.istore 5, 2) := by decide +kernel
theorem dX4_set_9 : decode cX4_set 9 = .ok (.iload 5, 2) := by decide +kernel
theorem dX4_set_11 : decode cX4_set 11 = .ok (.ifCond .ge 4, 3) := by decide +kernel
theorem dX4_set_14 : decode cX4_set 14 = .ok (.return_, 1) := by decide +kernel
theorem dX4_set_15 : decode cX4_set 15 = .ok (.aload_n 0, 1) := by decide +kernel
theorem dX4_set_16 : decode cX4_set 16 = .ok (.iload_n 1, 1) := by decide +kernel
theorem dX4_set_17 : decode cX4_set 17 = .ok (.iload_n 2, 1) := by decide +kernel
theorem dX4_set_18 : decode cX4_set 18 = .ok (.iload_n 3, 1) := by decide +kernel
theorem dX4_set_19 : decode cX4_set 19 = .ok (.invokevirtual 69, 3) := by decide +kernel
theorem dX4_set_22 : decode cX4_set 22 = .ok (.aload_n 0, 1) := by decide +kernel
theorem dX4_set_23 : decode cX4_set 23 = .ok (.getfield 9, 3) := by decide +kernel
theorem dX4_set_26 : decode cX4_set 26 = .ok (.iload 5, 2) := by decide +kernel
theorem dX4_set_28 : decode cX4_set 28 = .ok (.aload 4, 2) := by decide +kernel
theorem dX4_set_30 : decode cX4_set 30 = .ok (.bipush 121, 2) := by decide +kernel
theorem dX4_set_32 : decode cX4_set 32 = .ok (.aload_n 0, 1) := by decide +kernel
theorem dX4_set_33 : decode cX4_set 33 = .ok (.getfield 31, 3) := by decide +kernel
theorem dX4_set_36 : decode cX4_set 36 = .ok (.sipush (-3000), 3) := by decide +kernel
theorem dX4_set_39 : decode cX4_set 39 = .ok (.sipush 3000, 3) := by decide +kernel
theorem dX4_set_42 : decode cX4_set 42 = .ok (.invokevirtual 73, 3) := by decide +kernel
theorem dX4_set_45 : decode cX4_set 45 = .ok (.iastore, 1) := by decide +kernel
theorem dX4_set_46 : decode cX4_set 46 = .ok (.aload_n 0, 1) := by decide +kernel
theorem dX4_set_47 : decode cX4_set 47 = .ok (.getfield 15, 3) := by decide +kernel
theorem dX4_set_50 : decode cX4_set 50 = .ok (.iload 5, 2) := by decide +kernel
theorem dX4_set_52 : decode cX4_set 52 = .ok (.aload 4, 2) := by decide +kernel
theorem dX4_set_54 : decode cX4_set 54 = .ok (.bipush 122, 2) := by decide +kernel
theorem dX4_set_56 : decode cX4_set 56 = .ok (.aload_n 0, 1) := by decide +kernel
theorem dX4_set_57 : decode cX4_set 57 = .ok (.getfield 31, 3) := by decide +kernel
theorem dX4_set_60 : decode cX4_set 60 = .ok (.sipush (-3000), 3) := by decide +kernel
theorem dX4_set_63 : decode cX4_set 63 = .ok (.sipush 3000, 3) := by decide +kernel
theorem dX4_set_66 : decode cX4_set 66 = .ok (.invokevirtual 73, 3) := by decide +kernel
theorem dX4_set_69 : decode cX4_set 69 = .ok (.iastore, 1) := by decide +kernel
theorem dX4_set_70 : decode cX4_set 70 = .ok (.aload_n 0, 1) := by decide +kernel
theorem dX4_set_71 : decode cX4_set 71 = .ok (.getfield 21, 3) := by decide +kernel
theorem dX4_set_74 : decode cX4_set 74 = .ok (.iload 5, 2) := by decide +kernel
theorem dX4_set_76 : decode cX4_set 76 = .ok (.iconst 0, 1) := by decide +kernel
theorem dX4_set_77 : decode cX4_set 77 = .ok (.bastore, 1) := by decide +kernel
theorem dX4_set_78 : decode cX4_set 78 = .ok (.return_, 1) := by decide +kernel
theorem dX4_standAt_0 : decode cX4_standAt 0 = .ok (.aload_n 0, 1) := by decide +kernel
theorem dX4_standAt_1 : decode cX4_standAt 1 = .ok (.getfield 31, 3) := by decide +kernel
theorem dX4_standAt_4 : decode cX4_standAt 4 = .ok (.iconst 5, 1) := by decide +kernel
theorem dX4_standAt_5 : decode cX4_standAt 5 = .ok (.iload_n 1, 1) := by decide +kernel
theorem dX4_standAt_6 : decode cX4_standAt 6 = .ok (.iastore, 1) := by decide +kernel
theorem dX4_standAt_7 : decode cX4_standAt 7 = .ok (.aload_n 0, 1) := by decide +kernel
theorem dX4_standAt_8 : decode cX4_standAt 8 = .ok (.getfield 31, 3) := by decide +kernel
theorem dX4_standAt_11 : decode cX4_standAt 11 = .ok (.bipush 18, 2) := by decide +kernel
theorem dX4_standAt_13 : decode cX4_standAt 13 = .ok (.iload_n 2, 1) := by decide +kernel
theorem dX4_standAt_14 : decode cX4_standAt 14 = .ok (.iastore, 1) := by decide +kernel
theorem dX4_standAt_15 : decode cX4_standAt 15 = .ok (.aload_n 0, 1) := by decide +kernel
theorem dX4_standAt_16 : decode cX4_standAt 16 = .ok (.getfield 31, 3) := by decide +kernel
theorem dX4_standAt_19 : decode cX4_standAt 19 = .ok (.iconst 3, 1) := by decide +kernel
theorem dX4_standAt_20 : decode cX4_standAt 20 = .ok (.iload_n 3, 1) := by decide +kernel
theorem dX4_standAt_21 : decode cX4_standAt 21 = .ok (.iastore, 1) := by decide +kernel
theorem dX4_standAt_22 : decode cX4_standAt 22 = .ok (.aload_n 0, 1) := by decide +kernel
theorem dX4_standAt_23 : decode cX4_standAt 23 = .ok (.getfield 31, 3) := by decide +kernel
theorem dX4_standAt_26 : decode cX4_standAt 26 = .ok (.bipush 13, 2) := by decide +kernel
theorem dX4_standAt_28 : decode cX4_standAt 28 = .ok (.aload_n 0, 1) := by decide +kernel
theorem dX4_standAt_29 : decode cX4_standAt 29 = .ok (.getfield 38, 3) := by decide +kernel
theorem dX4_standAt_32 : decode cX4_standAt 32 = .ok (.iastore, 1) := by decide +kernel
theorem dX4_standAt_33 : decode cX4_standAt 33 = .ok (.aload_n 0, 1) := by decide +kernel
theorem dX4_standAt_34 : decode cX4_standAt 34 = .ok (.getfield 31, 3) := by decide +kernel
theorem dX4_standAt_37 : decode cX4_standAt 37 = .ok (.iconst 2, 1) := by decide +kernel
theorem dX4_standAt_38 : decode cX4_standAt 38 = .ok (.iload_n 1, 1) := by decide +kernel
theorem dX4_standAt_39 : decode cX4_standAt 39 = .ok (.aload_n 0, 1) := by decide +kernel
theorem dX4_standAt_40 : decode cX4_standAt 40 = .ok (.getfield 38, 3) := by decide +kernel
theorem dX4_standAt_43 : decode cX4_standAt 43 = .ok (.iconst 1, 1) := by decide +kernel
theorem dX4_standAt_44 : decode cX4_standAt 44 = .ok (.isub, 1) := by decide +kernel
theorem dX4_standAt_45 : decode cX4_standAt 45 = .ok (.iload_n 1, 1) := by decide +kernel
theorem dX4_standAt_46 : decode cX4_standAt 46 = .ok (.isub, 1) := by decide +kernel
theorem dX4_standAt_47 : decode cX4_standAt 47 = .ok (.invokestatic 79, 3) := by decide +kernel
theorem dX4_standAt_50 : decode cX4_standAt 50 = .ok (.iastore, 1) := by decide +kernel
theorem dX4_standAt_51 : decode cX4_standAt 51 = .ok (.aload_n 0, 1) := by decide +kernel
theorem dX4_standAt_52 : decode cX4_standAt 52 = .ok (.getfield 31, 3) := by decide +kernel
theorem dX4_standAt_55 : decode cX4_standAt 55 = .ok (.bipush 10, 2) := by decide +kernel
theorem dX4_standAt_57 : decode cX4_standAt 57 = .ok (.aload_n 0, 1) := by decide +kernel
theorem dX4_standAt_58 : decode cX4_standAt 58 = .ok (.getfield 45, 3) := by decide +kernel
theorem dX4_standAt_61 : decode cX4_standAt 61 = .ok (.iastore, 1) := by decide +kernel
theorem dX4_standAt_62 : decode cX4_standAt 62 = .ok (.return_, 1) := by decide +kernel
theorem dX4_cutAway_0 : decode cX4_cutAway 0 = .ok (.aload_n 0, 1) := by decide +kernel
theorem dX4_cutAway_1 : decode cX4_cutAway 1 = .ok (.iload_n 1, 1) := by decide +kernel
theorem dX4_cutAway_2 : decode cX4_cutAway 2 = .ok (.putfield 49, 3) := by decide +kernel
theorem dX4_cutAway_5 : decode cX4_cutAway 5 = .ok (.aload_n 0, 1) := by decide +kernel
theorem dX4_cutAway_6 : decode cX4_cutAway 6 = .ok (.invokevirtual 62, 3) := by decide +kernel
theorem dX4_cutAway_9 : decode cX4_cutAway 9 = .ok (.return_, 1) := by decide +kernel
theorem dX4_touchAll_0 : decode cX4_touchAll 0 = .ok (.iconst 0, 1) := by decide +kernel
theorem dX4_touchAll_1 : decode cX4_touchAll 1 = .ok (.istore_n 1, 1) := by decide +kernel
theorem dX4_touchAll_2 : decode cX4_touchAll 2 = .ok (.iload_n 1, 1) := by decide +kernel
theorem dX4_touchAll_3 : decode cX4_touchAll 3 = .ok (.bipush 8, 2) := by decide +kernel
theorem dX4_touchAll_5 : decode cX4_touchAll 5 = .ok (.if_icmp .ge 19, 3) := by decide +kernel
theorem dX4_touchAll_8 : decode cX4_touchAll 8 = .ok (.aload_n 0, 1) := by decide +kernel
theorem dX4_touchAll_9 : decode cX4_touchAll 9 = .ok (.getfield 28, 3) := by decide +kernel
theorem dX4_touchAll_12 : decode cX4_touchAll 12 = .ok (.iload_n 1, 1) := by decide +kernel
theorem dX4_touchAll_13 : decode cX4_touchAll 13 = .ok (.dup2, 1) := by decide +kernel
theorem dX4_touchAll_14 : decode cX4_touchAll 14 = .ok (.iaload, 1) := by decide +kernel
theorem dX4_touchAll_15 : decode cX4_touchAll 15 = .ok (.iconst 1, 1) := by decide +kernel
theorem dX4_touchAll_16 : decode cX4_touchAll 16 = .ok (.iadd, 1) := by decide +kernel
theorem dX4_touchAll_17 : decode cX4_touchAll 17 = .ok (.iastore, 1) := by decide +kernel
theorem dX4_touchAll_18 : decode cX4_touchAll 18 = .ok (.iinc 1 1, 3) := by decide +kernel
theorem dX4_touchAll_21 : decode cX4_touchAll 21 = .ok (.goto (-19), 3) := by decide +kernel
theorem dX4_touchAll_24 : decode cX4_touchAll 24 = .ok (.return_, 1) := by decide +kernel
theorem dX4_left_0 : decode cX4_left 0 = .ok (.iconst 0, 1) := by decide +kernel
theorem dX4_left_1 : decode cX4_left 1 = .ok (.istore_n 1, 1) := by decide +kernel
theorem dX4_left_2 : decode cX4_left 2 = .ok (.iconst 0, 1) := by decide +kernel
theorem dX4_left_3 : decode cX4_left 3 = .ok (.istore_n 2, 1) := by decide +kernel
theorem dX4_left_4 : decode cX4_left 4 = .ok (.iload_n 2, 1) := by decide +kernel
theorem dX4_left_5 : decode cX4_left 5 = .ok (.aload_n 0, 1) := by decide +kernel
theorem dX4_left_6 : decode cX4_left 6 = .ok (.getfield 38, 3) := by decide +kernel
theorem dX4_left_9 : decode cX4_left 9 = .ok (.if_icmp .ge 73, 3) := by decide +kernel
theorem dX4_left_12 : decode cX4_left 12 = .ok (.iconst 0, 1) := by decide +kernel
theorem dX4_left_13 : decode cX4_left 13 = .ok (.istore_n 3, 1) := by decide +kernel
theorem dX4_left_14 : decode cX4_left 14 = .ok (.iload_n 3, 1) := by decide +kernel
theorem dX4_left_15 : decode cX4_left 15 = .ok (.aload_n 0, 1) := by decide +kernel
theorem dX4_left_16 : decode cX4_left 16 = .ok (.getfield 45, 3) := by decide +kernel
theorem dX4_left_19 : decode cX4_left 19 = .ok (.if_icmp .ge 57, 3) := by decide +kernel
theorem dX4_left_22 : decode cX4_left 22 = .ok (.iconst 0, 1) := by decide +kernel
theorem dX4_left_23 : decode cX4_left 23 = .ok (.istore 4, 2) := by decide +kernel
theorem dX4_left_25 : decode cX4_left 25 = .ok (.iload 4, 2) := by decide +kernel
theorem dX4_left_27 : decode cX4_left 27 = .ok (.iconst 2, 1) := by decide +kernel
theorem dX4_left_28 : decode cX4_left 28 = .ok (.if_icmp .ge 42, 3) := by decide +kernel
theorem dX4_left_31 : decode cX4_left 31 = .ok (.aload_n 0, 1) := by decide +kernel
theorem dX4_left_32 : decode cX4_left 32 = .ok (.iload_n 2, 1) := by decide +kernel
theorem dX4_left_33 : decode cX4_left 33 = .ok (.iload_n 3, 1) := by decide +kernel
theorem dX4_left_34 : decode cX4_left 34 = .ok (.iload 4, 2) := by decide +kernel
theorem dX4_left_36 : decode cX4_left 36 = .ok (.invokevirtual 65, 3) := by decide +kernel
theorem dX4_left_39 : decode cX4_left 39 = .ok (.istore 5, 2) := by decide +kernel
theorem dX4_left_41 : decode cX4_left 41 = .ok (.iload_n 1, 1) := by decide +kernel
theorem dX4_left_42 : decode cX4_left 42 = .ok (.iload 5, 2) := by decide +kernel
theorem dX4_left_44 : decode cX4_left 44 = .ok (.ifCond .lt 13, 3) := by decide +kernel
theorem dX4_left_47 : decode cX4_left 47 = .ok (.aload_n 0, 1) := by decide +kernel
theorem dX4_left_48 : decode cX4_left 48 = .ok (.getfield 21, 3) := by decide +kernel
theorem dX4_left_51 : decode cX4_left 51 = .ok (.iload 5, 2) := by decide +kernel
theorem dX4_left_53 : decode cX4_left 53 = .ok (.baload, 1) := by decide +kernel
theorem dX4_left_54 : decode cX4_left 54 = .ok (.ifCond .eq 7, 3) := by decide +kernel
theorem dX4_left_57 : decode cX4_left 57 = .ok (.iconst 0, 1) := by decide +kernel
theorem dX4_left_58 : decode cX4_left 58 = .ok (.goto 4, 3) := by decide +kernel
theorem dX4_left_61 : decode cX4_left 61 = .ok (.iconst 1, 1) := by decide +kernel
theorem dX4_left_62 : decode cX4_left 62 = .ok (.iadd, 1) := by decide +kernel
theorem dX4_left_63 : decode cX4_left 63 = .ok (.istore_n 1, 1) := by decide +kernel
theorem dX4_left_64 : decode cX4_left 64 = .ok (.iinc 4 1, 3) := by decide +kernel
theorem dX4_left_67 : decode cX4_left 67 = .ok (.goto (-42), 3) := by decide +kernel
theorem dX4_left_70 : decode cX4_left 70 = .ok (.iinc 3 1, 3) := by decide +kernel
theorem dX4_left_73 : decode cX4_left 73 = .ok (.goto (-59), 3) := by decide +kernel
theorem dX4_left_76 : decode cX4_left 76 = .ok (.iinc 2 1, 3) := by decide +kernel
theorem dX4_left_79 : decode cX4_left 79 = .ok (.goto (-75), 3) := by decide +kernel
theorem dX4_left_82 : decode cX4_left 82 = .ok (.iload_n 1, 1) := by decide +kernel
theorem dX4_left_83 : decode cX4_left 83 = .ok (.ireturn, 1) := by decide +kernel
theorem dX5_init_0 : decode cX5_init 0 = .ok (.aload_n 0, 1) := by decide +kernel
theorem dX5_init_1 : decode cX5_init 1 = .ok (.invokespecial 3, 3) := by decide +kernel
theorem dX5_init_4 : decode cX5_init 4 = .ok (.aload_n 0, 1) := by decide +kernel
theorem dX5_init_5 : decode cX5_init 5 = .ok (.bipush 100, 2) := by decide +kernel
theorem dX5_init_7 : decode cX5_init 7 = .ok (.newarray .int, 2) := by decide +kernel
theorem dX5_init_9 : decode cX5_init 9 = .ok (.putfield 9, 3) := by decide +kernel
theorem dX5_init_12 : decode cX5_init 12 = .ok (.aload_n 0, 1) := by decide +kernel
theorem dX5_init_13 : decode cX5_init 13 = .ok (.aload_n 1, 1) := by decide +kernel
theorem dX5_init_14 : decode cX5_init 14 = .ok (.putfield 15, 3) := by decide +kernel
theorem dX5_init_17 : decode cX5_init 17 = .ok (.return_, 1) := by decide +kernel
theorem dX6_init_0 : decode cX6_init 0 = .ok (.aload_n 0, 1) := by decide +kernel
theorem dX6_init_1 : decode cX6_init 1 = .ok (.invokespecial 1, 3) := by decide +kernel
theorem dX6_init_4 : decode cX6_init 4 = .ok (.aload_n 0, 1) := by decide +kernel
theorem dX6_init_5 : decode cX6_init 5 = .ok (.bipush 72, 2) := by decide +kernel
theorem dX6_init_7 : decode cX6_init 7 = .ok (.newarray .int, 2) := by decide +kernel
theorem dX6_init_9 : decode cX6_init 9 = .ok (.putfield 9, 3) := by decide +kernel
theorem dX6_init_12 : decode cX6_init 12 = .ok (.return_, 1) := by decide +kernel
theorem dX6_put_0 : decode cX6_put 0 = .ok (.aload_n 0, 1) := by decide +kernel
theorem dX6_put_1 : decode cX6_put 1 = .ok (.getfield 9, 3) := by decide +kernel
theorem dX6_put_4 : decode cX6_put 4 = .ok (.iload_n 2, 1) := by decide +kernel
theorem dX6_put_5 : decode cX6_put 5 = .ok (.bipush 12, 2) := by decide +kernel
theorem dX6_put_7 : decode cX6_put 7 = .ok (.imul, 1) := by decide +kernel
theorem dX6_put_8 : decode cX6_put 8 = .ok (.iload_n 1, 1) := by decide +kernel
theorem dX6_put_9 : decode cX6_put 9 = .ok (.iadd, 1) := by decide +kernel
theorem dX6_put_10 : decode cX6_put 10 = .ok (.iload_n 3, 1) := by decide +kernel
theorem dX6_put_11 : decode cX6_put 11 = .ok (.iastore, 1) := by decide +kernel
theorem dX6_put_12 : decode cX6_put 12 = .ok (.return_, 1) := by decide +kernel
theorem dX6_seek_0 : decode cX6_seek 0 = .ok (.aload_n 0, 1) := by decide +kernel
theorem dX6_seek_1 : decode cX6_seek 1 = .ok (.iconst (-1), 1) := by decide +kernel
theorem dX6_seek_2 : decode cX6_seek 2 = .ok (.putfield 13, 3) := by decide +kernel
theorem dX6_seek_5 : decode cX6_seek 5 = .ok (.aload_n 0, 1) := by decide +kernel
theorem dX6_seek_6 : decode cX6_seek 6 = .ok (.iconst 0, 1) := by decide +kernel
theorem dX6_seek_7 : decode cX6_seek 7 = .ok (.putfield 17, 3) := by decide +kernel
theorem dX6_seek_10 : decode cX6_seek 10 = .ok (.aload_n 0, 1) := by decide +kernel
theorem dX6_seek_11 : decode cX6_seek 11 = .ok (.iconst 0, 1) := by decide +kernel
theorem dX6_seek_12 : decode cX6_seek 12 = .ok (.putfield 20, 3) := by decide +kernel
theorem dX6_seek_15 : decode cX6_seek 15 = .ok (.iconst 0, 1) := by decide +kernel
theorem dX6_seek_16 : decode cX6_seek 16 = .ok (.istore_n 3, 1) := by decide +kernel
theorem dX6_seek_17 : decode cX6_seek 17 = .ok (.iload_n 3, 1) := by decide +kernel
theorem dX6_seek_18 : decode cX6_seek 18 = .ok (.iload_n 2, 1) := by decide +kernel
theorem dX6_seek_19 : decode cX6_seek 19 = .ok (.iadd, 1) := by decide +kernel
theorem dX6_seek_20 : decode cX6_seek 20 = .ok (.bipush 6, 2) := by decide +kernel
theorem dX6_seek_22 : decode cX6_seek 22 = .ok (.if_icmp .gt 43, 3) := by decide +kernel
theorem dX6_seek_25 : decode cX6_seek 25 = .ok (.iconst 0, 1) := by decide +kernel
theorem dX6_seek_26 : decode cX6_seek 26 = .ok (.istore 4, 2) := by decide +kernel
theorem dX6_seek_28 : decode cX6_seek 28 = .ok (.iload 4, 2) := by decide +kernel
theorem dX6_seek_30 : decode cX6_seek 30 = .ok (.iload_n 1, 1) := by decide +kernel
theorem dX6_seek_31 : decode cX6_seek 31 = .ok (.iadd, 1) := by decide +kernel
theorem dX6_seek_32 : decode cX6_seek 32 = .ok (.bipush 12, 2) := by decide +kernel
theorem dX6_seek_34 : decode cX6_seek 34 = .ok (.if_icmp .gt 25, 3) := by decide +kernel
theorem dX6_seek_37 : decode cX6_seek 37 = .ok (.aload_n 0, 1) := by decide +kernel
theorem dX6_seek_38 : decode cX6_seek 38 = .ok (.iload 4, 2) := by decide +kernel
theorem dX6_seek_40 : decode cX6_seek 40 = .ok (.iload_n 3, 1) := by decide +kernel
theorem dX6_seek_41 : decode cX6_seek 41 = .ok (.aload_n 0, 1) := by decide +kernel
theorem dX6_seek_42 : decode cX6_seek 42 = .ok (.iload 4, 2) := by decide +kernel
theorem dX6_seek_44 : decode cX6_seek 44 = .ok (.iload_n 3, 1) := by decide +kernel
theorem dX6_seek_45 : decode cX6_seek 45 = .ok (.iload_n 1, 1) := by decide +kernel
theorem dX6_seek_46 : decode cX6_seek 46 = .ok (.iload_n 2, 1) := by decide +kernel
theorem dX6_seek_47 : decode cX6_seek 47 = .ok (.invokevirtual 23, 3) := by decide +kernel
theorem dX6_seek_50 : decode cX6_seek 50 = .ok (.invokevirtual 27, 3) := by decide +kernel
theorem dX6_seek_53 : decode cX6_seek 53 = .ok (.iinc 4 1, 3) := by decide +kernel
theorem dX6_seek_56 : decode cX6_seek 56 = .ok (.goto (-28), 3) := by decide +kernel
theorem dX6_seek_59 : decode cX6_seek 59 = .ok (.iinc 3 1, 3) := by decide +kernel
theorem dX6_seek_62 : decode cX6_seek 62 = .ok (.goto (-45), 3) := by decide +kernel
theorem dX6_seek_65 : decode cX6_seek 65 = .ok (.return_, 1) := by decide +kernel
theorem dX6_weigh_0 : decode cX6_weigh 0 = .ok (.aload_n 0, 1) := by decide +kernel
theorem dX6_weigh_1 : decode cX6_weigh 1 = .ok (.dup, 1) := by decide +kernel
theorem dX6_weigh_2 : decode cX6_weigh 2 = .ok (.getfield 20, 3) := by decide +kernel
theorem dX6_weigh_5 : decode cX6_weigh 5 = .ok (.iconst 1, 1) := by decide +kernel
theorem dX6_weigh_6 : decode cX6_weigh 6 = .ok (.iadd, 1) := by decide +kernel
theorem dX6_weigh_7 : decode cX6_weigh 7 = .ok (.putfield 20, 3) := by decide +kernel
theorem dX6_weigh_10 : decode cX6_weigh 10 = .ok (.iload_n 3, 1) := by decide +kernel
theorem dX6_weigh_11 : decode cX6_weigh 11 = .ok (.aload_n 0, 1) := by decide +kernel
theorem dX6_weigh_12 : decode cX6_weigh 12 = .ok (.getfield 13, 3) := by decide +kernel
theorem dX6_weigh_15 : decode cX6_weigh 15 = .ok (.if_icmp .le 23, 3) := by decide +kernel
theorem dX6_weigh_18 : decode cX6_weigh 18 = .ok (.aload_n 0, 1) := by decide +kernel
theorem dX6_weigh_19 : decode cX6_weigh 19 = .ok (.iload_n 3, 1) := by decide +kernel
theorem dX6_weigh_20 : decode cX6_weigh 20 = .ok (.putfield 13, 3) := by decide +kernel
theorem dX6_weigh_23 : decode cX6_weigh 23 = .ok (.aload_n 0, 1) := by decide +kernel
theorem dX6_weigh_24 : decode cX6_weigh 24 = .ok (.iload_n 1, 1) := by decide +kernel
theorem dX6_weigh_25 : decode cX6_weigh 25 = .ok (.putfield 31, 3) := by decide +kernel
theorem dX6_weigh_28 : decode cX6_weigh 28 = .ok (.aload_n 0, 1) := by decide +kernel
theorem dX6_weigh_29 : decode cX6_weigh 29 = .ok (.iload_n 2, 1) := by decide +kernel
theorem dX6_weigh_30 : decode cX6_weigh 30 = .ok (.putfield 34, 3) := by decide +kernel
theorem dX6_weigh_33 : decode cX6_weigh 33 = .ok (.aload_n 0, 1) := by decide +kernel
theorem dX6_weigh_34 : decode cX6_weigh 34 = .ok (.iconst 0, 1) := by decide +kernel
theorem dX6_weigh_35 : decode cX6_weigh 35 = .ok (.putfield 17, 3) := by decide +kernel
theorem dX6_weigh_38 : decode cX6_weigh 38 = .ok (.aload_n 0, 1) := by decide +kernel
theorem dX6_weigh_39 : decode cX6_weigh 39 = .ok (.dup, 1) := by decide +kernel
theorem dX6_weigh_40 : decode cX6_weigh 40 = .ok (.getfield 17, 3) := by decide +kernel
theorem dX6_weigh_43 : decode cX6_weigh 43 = .ok (.iload_n 3, 1) := by decide +kernel
theorem dX6_weigh_44 : decode cX6_weigh 44 = .ok (.aload_n 0, 1) := by decide +kernel
theorem dX6_weigh_45 : decode cX6_weigh 45 = .ok (.getfield 13, 3) := by decide +kernel
theorem dX6_weigh_48 : decode cX6_weigh 48 = .ok (.if_icmp .ne 7, 3) := by decide +kernel
theorem dX6_weigh_51 : decode cX6_weigh 51 = .ok (.iconst 1, 1) := by decide +kernel
theorem dX6_weigh_52 : decode cX6_weigh 52 = .ok (.goto 4, 3) := by decide +kernel
theorem dX6_weigh_55 : decode cX6_weigh 55 = .ok (.iconst 0, 1) := by decide +kernel
theorem dX6_weigh_56 : decode cX6_weigh 56 = .ok (.iadd, 1) := by decide +kernel
theorem dX6_weigh_57 : decode cX6_weigh 57 = .ok (.putfield 17, 3) := by decide +kernel
theorem dX6_weigh_60 : decode cX6_weigh 60 = .ok (.return_, 1) := by decide +kernel
theorem dX6_amount_0 : decode cX6_amount 0 = .ok (.iconst 0, 1) := by decide +kernel
theorem dX6_amount_1 : decode cX6_amount 1 = .ok (.istore 5, 2) := by decide +kernel
theorem dX6_amount_3 : decode cX6_amount 3 = .ok (.iload_n 2, 1) := by decide +kernel
theorem dX6_amount_4 : decode cX6_amount 4 = .ok (.istore 6, 2) := by decide +kernel
theorem dX6_amount_6 : decode cX6_amount 6 = .ok (.iload 6, 2) := by decide +kernel
theorem dX6_amount_8 : decode cX6_amount 8 = .ok (.iload_n 2, 1) := by decide +kernel
theorem dX6_amount_9 : decode cX6_amount 9 = .ok (.iload 4, 2) := by decide +kernel
theorem dX6_amount_11 : decode cX6_amount 11 = .ok (.iadd, 1) := by decide +kernel
theorem dX6_amount_12 : decode cX6_amount 12 = .ok (.if_icmp .ge 44, 3) := by decide +kernel
theorem dX6_amount_15 : decode cX6_amount 15 = .ok (.iload_n 1, 1) := by decide +kernel
theorem dX6_amount_16 : decode cX6_amount 16 = .ok (.istore 7, 2) := by decide +kernel
theorem dX6_amount_18 : decode cX6_amount 18 = .ok (.iload 7, 2) := by decide +kernel
theorem dX6_amount_20 : decode cX6_amount 20 = .ok (.iload_n 1, 1) := by decide +kernel
theorem dX6_amount_21 : decode cX6_amount 21 = .ok (.iload_n 3, 1) := by decide +kernel
theorem dX6_amount_22 : decode cX6_amount 22 = .ok (.iadd, 1) := by decide +kernel
theorem dX6_amount_23 : decode cX6_amount 23 = .ok (.if_icmp .ge 27, 3) := by decide +kernel
theorem dX6_amount_26 : decode cX6_amount 26 = .ok (.iload 5, 2) := by decide +kernel
theorem dX6_amount_28 : decode cX6_amount 28 = .ok (.aload_n 0, 1) := by decide +kernel
theorem dX6_amount_29 : decode cX6_amount 29 = .ok (.getfield 9, 3) := by decide +kernel
theorem dX6_amount_32 : decode cX6_amount 32 = .ok (.iload 6, 2) := by decide +kernel
theorem dX6_amount_34 : decode cX6_amount 34 = .ok (.bipush 12, 2) := by decide +kernel
theorem dX6_amount_36 : decode cX6_amount 36 = .ok (.imul, 1) := by decide +kernel
theorem dX6_amount_37 : decode cX6_amount 37 = .ok (.iload 7, 2) := by decide +kernel
theorem dX6_amount_39 : decode cX6_amount 39 = .ok (.iadd, 1) := by decide +kernel
theorem dX6_amount_40 : decode cX6_amount 40 = .ok (.iaload, 1) := by decide +kernel
theorem dX6_amount_41 : decode cX6_amount 41 = .ok (.iadd, 1) := by decide +kernel
theorem dX6_amount_42 : decode cX6_amount 42 = .ok (.istore 5, 2) := by decide +kernel
theorem dX6_amount_44 : decode cX6_amount 44 = .ok (.iinc 7 1, 3) := by decide +kernel
theorem dX6_amount_47 : decode cX6_amount 47 = .ok (.goto (-29), 3) := by decide +kernel
theorem dX6_amount_50 : decode cX6_amount 50 = .ok (.iinc 6 1, 3) := by decide +kernel
theorem dX6_amount_53 : decode cX6_amount 53 = .ok (.goto (-47), 3) := by decide +kernel
theorem dX6_amount_56 : decode cX6_amount 56 = .ok (.iload 5, 2) := by decide +kernel
theorem dX6_amount_58 : decode cX6_amount 58 = .ok (.ireturn, 1) := by decide +kernel
theorem dX7_init_0 : decode cX7_init 0 = .ok (.aload_n 0, 1) := by decide +kernel
theorem dX7_init_1 : decode cX7_init 1 = .ok (.invokespecial 3, 3) := by decide +kernel
theorem dX7_init_4 : decode cX7_init 4 = .ok (.aload_n 0, 1) := by decide +kernel
theorem dX7_init_5 : decode cX7_init 5 = .ok (.bipush 36, 2) := by decide +kernel
theorem dX7_init_7 : decode cX7_init 7 = .ok (.newarray .int, 2) := by decide +kernel
theorem dX7_init_9 : decode cX7_init 9 = .ok (.putfield 11, 3) := by decide +kernel
theorem dX7_init_12 : decode cX7_init 12 = .ok (.aload_n 0, 1) := by decide +kernel
theorem dX7_init_13 : decode cX7_init 13 = .ok (.bipush 6, 2) := by decide +kernel
theorem dX7_init_15 : decode cX7_init 15 = .ok (.newarray .boolean, 2) := by decide +kernel
theorem dX7_init_17 : decode cX7_init 17 = .ok (.putfield 15, 3) := by decide +kernel
theorem dX7_init_20 : decode cX7_init 20 = .ok (.aload_n 0, 1) := by decide +kernel
theorem dX7_init_21 : decode cX7_init 21 = .ok (.bipush 6, 2) := by decide +kernel
theorem dX7_init_23 : decode cX7_init 23 = .ok (.newarray .int, 2) := by decide +kernel
theorem dX7_init_25 : decode cX7_init 25 = .ok (.dup, 1) := by decide +kernel
theorem dX7_init_26 : decode cX7_init 26 = .ok (.iconst 0, 1) := by decide +kernel
theorem dX7_init_27 : decode cX7_init 27 = .ok (.iconst (-1), 1) := by decide +kernel
theorem dX7_init_28 : decode cX7_init 28 = .ok (.iastore, 1) := by decide +kernel
theorem dX7_init_29 : decode cX7_init 29 = .ok (.dup, 1) := by decide +kernel
theorem dX7_init_30 : decode cX7_init 30 = .ok (.iconst 1, 1) := by decide +kernel
theorem dX7_init_31 : decode cX7_init 31 = .ok (.iconst (-1), 1) := by decide +kernel
theorem dX7_init_32 : decode cX7_init 32 = .ok (.iastore, 1) := by decide +kernel
theorem dX7_init_33 : decode cX7_init 33 = .ok (.dup, 1) := by decide +kernel
theorem dX7_init_34 : decode cX7_init 34 = .ok (.iconst 2, 1) := by decide +kernel
theorem dX7_init_35 : decode cX7_init 35 = .ok (.iconst (-1), 1) := by decide +kernel
theorem dX7_init_36 : decode cX7_init 36 = .ok (.iastore, 1) := by decide +kernel
theorem dX7_init_37 : decode cX7_init 37 = .ok (.dup, 1) := by decide +kernel
theorem dX7_init_38 : decode cX7_init 38 = .ok (.iconst 3, 1) := by decide +kernel
theorem dX7_init_39 : decode cX7_init 39 = .ok (.iconst (-1), 1) := by decide +kernel
theorem dX7_init_40 : decode cX7_init 40 = .ok (.iastore, 1) := by decide +kernel
theorem dX7_init_41 : decode cX7_init 41 = .ok (.dup, 1) := by decide +kernel
theorem dX7_init_42 : decode cX7_init 42 = .ok (.iconst 4, 1) := by decide +kernel
theorem dX7_init_43 : decode cX7_init 43 = .ok (.iconst (-1), 1) := by decide +kernel
theorem dX7_init_44 : decode cX7_init 44 = .ok (.iastore, 1) := by decide +kernel
theorem dX7_init_45 : decode cX7_init 45 = .ok (.dup, 1) := by decide +kernel
theorem dX7_init_46 : decode cX7_init 46 = .ok (.iconst 5, 1) := by decide +kernel
theorem dX7_init_47 : decode cX7_init 47 = .ok (.iconst (-1), 1) := by decide +kernel
theorem dX7_init_48 : decode cX7_init 48 = .ok (.iastore, 1) := by decide +kernel
theorem dX7_init_49 : decode cX7_init 49 = .ok (.putfield 19, 3) := by decide +kernel
theorem dX7_init_52 : decode cX7_init 52 = .ok (.return_, 1) := by decide +kernel
theorem dX7_tell_0 : decode cX7_tell 0 = .ok (.aload_n 0, 1) := by decide +kernel
theorem dX7_tell_1 : decode cX7_tell 1 = .ok (.getfield 11, 3) := by decide +kernel
theorem dX7_tell_4 : decode cX7_tell 4 = .ok (.iload_n 1, 1) := by decide +kernel
theorem dX7_tell_5 : decode cX7_tell 5 = .ok (.bipush 6, 2) := by decide +kernel
theorem dX7_tell_7 : decode cX7_tell 7 = .ok (.imul, 1) := by decide +kernel
theorem dX7_tell_8 : decode cX7_tell 8 = .ok (.iload_n 2, 1) := by decide +kernel
theorem dX7_tell_9 : decode cX7_tell 9 = .ok (.iadd, 1) := by decide +kernel
theorem dX7_tell_10 : decode cX7_tell 10 = .ok (.iload_n 3, 1) := by decide +kernel
theorem dX7_tell_11 : decode cX7_tell 11 = .ok (.iastore, 1) := by decide +kernel
theorem dX7_tell_12 : decode cX7_tell 12 = .ok (.aload_n 0, 1) := by decide +kernel
theorem dX7_tell_13 : decode cX7_tell 13 = .ok (.getfield 15, 3) := by decide +kernel
theorem dX7_tell_16 : decode cX7_tell 16 = .ok (.iload_n 1, 1) := by decide +kernel
theorem dX7_tell_17 : decode cX7_tell 17 = .ok (.iconst 1, 1) := by decide +kernel
theorem dX7_tell_18 : decode cX7_tell 18 = .ok (.bastore, 1) := by decide +kernel
theorem dX7_tell_19 : decode cX7_tell 19 = .ok (.return_, 1) := by decide +kernel
theorem dX7_told_0 : decode cX7_told 0 = .ok (.iconst 0, 1) := by decide +kernel
theorem dX7_told_1 : decode cX7_told 1 = .ok (.istore_n 1, 1) := by decide +kernel
theorem dX7_told_2 : decode cX7_told 2 = .ok (.iconst 0, 1) := by decide +kernel
theorem dX7_told_3 : decode cX7_told 3 = .ok (.istore_n 2, 1) := by decide +kernel
theorem dX7_told_4 : decode cX7_told 4 = .ok (.iload_n 2, 1) := by decide +kernel
theorem dX7_told_5 : decode cX7_told 5 = .ok (.bipush 6, 2) := by decide +kernel
theorem dX7_told_7 : decode cX7_told 7 = .ok (.if_icmp .ge 26, 3) := by decide +kernel
theorem dX7_told_10 : decode cX7_told 10 = .ok (.iload_n 1, 1) := by decide +kernel
theorem dX7_told_11 : decode cX7_told 11 = .ok (.aload_n 0, 1) := by decide +kernel
theorem dX7_told_12 : decode cX7_told 12 = .ok (.getfield 15, 3) := by decide +kernel
theorem dX7_told_15 : decode cX7_told 15 = .ok (.iload_n 2, 1) := by decide +kernel
theorem dX7_told_16 : decode cX7_told 16 = .ok (.baload, 1) := by decide +kernel
theorem dX7_told_17 : decode cX7_told 17 = .ok (.ifCond .eq 7, 3) := by decide +kernel
theorem dX7_told_20 : decode cX7_told 20 = .ok (.iconst 1, 1) := by decide +kernel
theorem dX7_told_21 : decode cX7_told 21 = .ok (.goto 4, 3) := by decide +kernel
theorem dX7_told_24 : decode cX7_told 24 = .ok (.iconst 0, 1) := by decide +kernel
theorem dX7_told_25 : decode cX7_told 25 = .ok (.iadd, 1) := by decide +kernel
theorem dX7_told_26 : decode cX7_told 26 = .ok (.istore_n 1, 1) := by decide +kernel
theorem dX7_told_27 : decode cX7_told 27 = .ok (.iinc 2 1, 3) := by decide +kernel
theorem dX7_told_30 : decode cX7_told 30 = .ok (.goto (-26), 3) := by decide +kernel
theorem dX7_told_33 : decode cX7_told 33 = .ok (.iload_n 1, 1) := by decide +kernel
theorem dX7_told_34 : decode cX7_told 34 = .ok (.ireturn, 1) := by decide +kernel
theorem dX7_together_0 : decode cX7_together 0 = .ok (.lconst 0, 1) := by decide +kernel
theorem dX7_together_1 : decode cX7_together 1 = .ok (.lstore_n 1, 1) := by decide +kernel
theorem dX7_together_2 : decode cX7_together 2 = .ok (.iconst 0, 1) := by decide +kernel
theorem dX7_together_3 : decode cX7_together 3 = .ok (.istore_n 3, 1) := by decide +kernel
theorem dX7_together_4 : decode cX7_together 4 = .ok (.iload_n 3, 1) := by decide +kernel
theorem dX7_together_5 : decode cX7_together 5 = .ok (.bipush 6, 2) := by decide +kernel
theorem dX7_together_7 : decode cX7_together 7 = .ok (.if_icmp .ge 30, 3) := by decide +kernel
theorem dX7_together_10 : decode cX7_together 10 = .ok (.lload_n 1, 1) := by decide +kernel
theorem dX7_together_11 : decode cX7_together 11 = .ok (.aload_n 0, 1) := by decide +kernel
theorem dX7_together_12 : decode cX7_together 12 = .ok (.getfield 15, 3) := by decide +kernel
theorem dX7_together_15 : decode cX7_together 15 = .ok (.iload_n 3, 1) := by decide +kernel
theorem dX7_together_16 : decode cX7_together 16 = .ok (.baload, 1) := by decide +kernel
theorem dX7_together_17 : decode cX7_together 17 = .ok (.ifCond .eq 11, 3) := by decide +kernel
theorem dX7_together_20 : decode cX7_together 20 = .ok (.aload_n 0, 1) := by decide +kernel
theorem dX7_together_21 : decode cX7_together 21 = .ok (.iload_n 3, 1) := by decide +kernel
theorem dX7_together_22 : decode cX7_together 22 = .ok (.invokevirtual 22, 3) := by decide +kernel
theorem dX7_together_25 : decode cX7_together 25 = .ok (.goto 4, 3) := by decide +kernel
theorem dX7_together_28 : decode cX7_together 28 = .ok (.lconst 0, 1) := by decide +kernel
theorem dX7_together_29 : decode cX7_together 29 = .ok (.ladd, 1) := by decide +kernel
theorem dX7_together_30 : decode cX7_together 30 = .ok (.lstore_n 1, 1) := by decide +kernel
theorem dX7_together_31 : decode cX7_together 31 = .ok (.iinc 3 1, 3) := by decide +kernel
theorem dX7_together_34 : decode cX7_together 34 = .ok (.goto (-30), 3) := by decide +kernel
theorem dX7_together_37 : decode cX7_together 37 = .ok (.lload_n 1, 1) := by decide +kernel
theorem dX7_together_38 : decode cX7_together 38 = .ok (.lreturn, 1) := by decide +kernel
theorem dX8_init_0 : decode cX8_init 0 = .ok (.aload_n 0, 1) := by decide +kernel
theorem dX8_init_1 : decode cX8_init 1 = .ok (.invokespecial 3, 3) := by decide +kernel
theorem dX8_init_4 : decode cX8_init 4 = .ok (.aload_n 0, 1) := by decide +kernel
theorem dX8_init_5 : decode cX8_init 5 = .ok (.sipush 220, 3) := by decide +kernel
theorem dX8_init_8 : decode cX8_init 8 = .ok (.newarray .byte, 2) := by decide +kernel
theorem dX8_init_10 : decode cX8_init 10 = .ok (.putfield 9, 3) := by decide +kernel
theorem dX8_init_13 : decode cX8_init 13 = .ok (.return_, 1) := by decide +kernel
theorem dX8_hasRoom_0 : decode cX8_hasRoom 0 = .ok (.iload_n 1, 1) := by decide +kernel
theorem dX8_hasRoom_1 : decode cX8_hasRoom 1 = .ok (.aload_n 0, 1) := by decide +kernel
theorem dX8_hasRoom_2 : decode cX8_hasRoom 2 = .ok (.getfield 9, 3) := by decide +kernel
theorem dX8_hasRoom_5 : decode cX8_hasRoom 5 = .ok (.arraylength, 1) := by decide +kernel
theorem dX8_hasRoom_6 : decode cX8_hasRoom 6 = .ok (.aload_n 0, 1) := by decide +kernel
theorem dX8_hasRoom_7 : decode cX8_hasRoom 7 = .ok (.getfield 15, 3) := by decide +kernel
theorem dX8_hasRoom_10 : decode cX8_hasRoom 10 = .ok (.isub, 1) := by decide +kernel
theorem dX8_hasRoom_11 : decode cX8_hasRoom 11 = .ok (.if_icmp .gt 7, 3) := by decide +kernel
theorem dX8_hasRoom_14 : decode cX8_hasRoom 14 = .ok (.iconst 1, 1) := by decide +kernel
theorem dX8_hasRoom_15 : decode cX8_hasRoom 15 = .ok (.goto 4, 3) := by decide +kernel
theorem dX8_hasRoom_18 : decode cX8_hasRoom 18 = .ok (.iconst 0, 1) := by decide +kernel
theorem dX8_hasRoom_19 : decode cX8_hasRoom 19 = .ok (.ireturn, 1) := by decide +kernel
theorem dX8_put_0 : decode cX8_put 0 = .ok (.bipush 24, 2) := by decide +kernel
theorem dX8_put_2 : decode cX8_put 2 = .ok (.istore_n 2, 1) := by decide +kernel
theorem dX8_put_3 : decode cX8_put 3 = .ok (.iload_n 2, 1) := by decide +kernel
theorem dX8_put_4 : decode cX8_put 4 = .ok (.ifCond .lt 44, 3) := by decide +kernel
theorem dX8_put_7 : decode cX8_put 7 = .ok (.aload_n 0, 1) := by decide +kernel
theorem dX8_put_8 : decode cX8_put 8 = .ok (.getfield 15, 3) := by decide +kernel
theorem dX8_put_11 : decode cX8_put 11 = .ok (.aload_n 0, 1) := by decide +kernel
theorem dX8_put_12 : decode cX8_put 12 = .ok (.getfield 9, 3) := by decide +kernel
theorem dX8_put_15 : decode cX8_put 15 = .ok (.arraylength, 1) := by decide +kernel
theorem dX8_put_16 : decode cX8_put 16 = .ok (.if_icmp .ge 32, 3) := by decide +kernel
theorem dX8_put_19 : decode cX8_put 19 = .ok (.aload_n 0, 1) := by decide +kernel
theorem dX8_put_20 : decode cX8_put 20 = .ok (.getfield 9, 3) := by decide +kernel
theorem dX8_put_23 : decode cX8_put 23 = .ok (.aload_n 0, 1) := by decide +kernel
theorem dX8_put_24 : decode cX8_put 24 = .ok (.getfield 15, 3) := by decide +kernel
theorem dX8_put_27 : decode cX8_put 27 = .ok (.iload_n 1, 1) := by decide +kernel
theorem dX8_put_28 : decode cX8_put 28 = .ok (.iload_n 2, 1) := by decide +kernel
theorem dX8_put_29 : decode cX8_put 29 = .ok (.iushr, 1) := by decide +kernel
theorem dX8_put_30 : decode cX8_put 30 = .ok (.i2b, 1) := by decide +kernel
theorem dX8_put_31 : decode cX8_put 31 = .ok (.bastore, 1) := by decide +kernel
theorem dX8_put_32 : decode cX8_put 32 = .ok (.aload_n 0, 1) := by decide +kernel
theorem dX8_put_33 : decode cX8_put 33 = .ok (.dup, 1) := by decide +kernel
theorem dX8_put_34 : decode cX8_put 34 = .ok (.getfield 15, 3) := by decide +kernel
theorem dX8_put_37 : decode cX8_put 37 = .ok (.iconst 1, 1) := by decide +kernel
theorem dX8_put_38 : decode cX8_put 38 = .ok (.iadd, 1) := by decide +kernel
theorem dX8_put_39 : decode cX8_put 39 = .ok (.putfield 15, 3) := by decide +kernel
theorem dX8_put_42 : decode cX8_put 42 = .ok (.iinc 2 (-8), 3) := by decide +kernel
theorem dX8_put_45 : decode cX8_put 45 = .ok (.goto (-42), 3) := by decide +kernel
theorem dX8_put_48 : decode cX8_put 48 = .ok (.return_, 1) := by decide +kernel
theorem dX9_init_0 : decode cX9_init 0 = .ok (.aload_n 0, 1) := by decide +kernel
theorem dX9_init_1 : decode cX9_init 1 = .ok (.invokespecial 3, 3) := by decide +kernel
theorem dX9_init_4 : decode cX9_init 4 = .ok (.aload_n 0, 1) := by decide +kernel
theorem dX9_init_5 : decode cX9_init 5 = .ok (.sipush 200, 3) := by decide +kernel
theorem dX9_init_8 : decode cX9_init 8 = .ok (.newarray .int, 2) := by decide +kernel
theorem dX9_init_10 : decode cX9_init 10 = .ok (.putfield 9, 3) := by decide +kernel
theorem dX9_init_13 : decode cX9_init 13 = .ok (.aload_n 0, 1) := by decide +kernel
theorem dX9_init_14 : decode cX9_init 14 = .ok (.bipush 32, 2) := by decide +kernel
theorem dX9_init_16 : decode cX9_init 16 = .ok (.newarray .int, 2) := by decide +kernel
theorem dX9_init_18 : decode cX9_init 18 = .ok (.putfield 15, 3) := by decide +kernel
theorem dX9_init_21 : decode cX9_init 21 = .ok (.aload_n 0, 1) := by decide +kernel
theorem dX9_init_22 : decode cX9_init 22 = .ok (.bipush 14, 2) := by decide +kernel
theorem dX9_init_24 : decode cX9_init 24 = .ok (.newarray .int, 2) := by decide +kernel
theorem dX9_init_26 : decode cX9_init 26 = .ok (.putfield 18, 3) := by decide +kernel
theorem dX9_init_29 : decode cX9_init 29 = .ok (.aload_n 0, 1) := by decide +kernel
theorem dX9_init_30 : decode cX9_init 30 = .ok (.bipush 14, 2) := by decide +kernel
theorem dX9_init_32 : decode cX9_init 32 = .ok (.newarray .int, 2) := by decide +kernel
theorem dX9_init_34 : decode cX9_init 34 = .ok (.putfield 21, 3) := by decide +kernel
theorem dX9_init_37 : decode cX9_init 37 = .ok (.aload_n 0, 1) := by decide +kernel
theorem dX9_init_38 : decode cX9_init 38 = .ok (.bipush 14, 2) := by decide +kernel
theorem dX9_init_40 : decode cX9_init 40 = .ok (.newarray .int, 2) := by decide +kernel
theorem dX9_init_42 : decode cX9_init 42 = .ok (.putfield 24, 3) := by decide +kernel
theorem dX9_init_45 : decode cX9_init 45 = .ok (.return_, 1) := by decide +kernel
theorem dX9_value_0 : decode cX9_value 0 = .ok (.iconst 0, 1) := by decide +kernel
theorem dX9_value_1 : decode cX9_value 1 = .ok (.istore 5, 2) := by decide +kernel
theorem dX9_value_3 : decode cX9_value 3 = .ok (.iload 5, 2) := by decide +kernel
theorem dX9_value_5 : decode cX9_value 5 = .ok (.aload_n 0, 1) := by decide +kernel
theorem dX9_value_6 : decode cX9_value 6 = .ok (.getfield 31, 3) := by decide +kernel
theorem dX9_value_9 : decode cX9_value 9 = .ok (.if_icmp .ge 54, 3) := by decide +kernel
theorem dX9_value_12 : decode cX9_value 12 = .ok (.aload_n 0, 1) := by decide +kernel
theorem dX9_value_13 : decode cX9_value 13 = .ok (.getfield 18, 3) := by decide +kernel
theorem dX9_value_16 : decode cX9_value 16 = .ok (.iload 5, 2) := by decide +kernel
theorem dX9_value_18 : decode cX9_value 18 = .ok (.iaload, 1) := by decide +kernel
theorem dX9_value_19 : decode cX9_value 19 = .ok (.iload_n 1, 1) := by decide +kernel
theorem dX9_value_20 : decode cX9_value 20 = .ok (.if_icmp .ne 37, 3) := by decide +kernel
theorem dX9_value_23 : decode cX9_value 23 = .ok (.aload_n 0, 1) := by decide +kernel
theorem dX9_value_24 : decode cX9_value 24 = .ok (.aload_n 0, 1) := by decide +kernel
theorem dX9_value_25 : decode cX9_value 25 = .ok (.getfield 24, 3) := by decide +kernel
theorem dX9_value_28 : decode cX9_value 28 = .ok (.iload 5, 2) := by decide +kernel
theorem dX9_value_30 : decode cX9_value 30 = .ok (.iaload, 1) := by decide +kernel
theorem dX9_value_31 : decode cX9_value 31 = .ok (.aload_n 2, 1) := by decide +kernel
theorem dX9_value_32 : decode cX9_value 32 = .ok (.invokevirtual 34, 3) := by decide +kernel
theorem dX9_value_35 : decode cX9_value 35 = .ok (.ifCond .eq 22, 3) := by decide +kernel
theorem dX9_value_38 : decode cX9_value 38 = .ok (.aload_n 0, 1) := by decide +kernel
theorem dX9_value_39 : decode cX9_value 39 = .ok (.aload_n 0, 1) := by decide +kernel
theorem dX9_value_40 : decode cX9_value 40 = .ok (.getfield 21, 3) := by decide +kernel
theorem dX9_value_43 : decode cX9_value 43 = .ok (.iload 5, 2) := by decide +kernel
theorem dX9_value_45 : decode cX9_value 45 = .ok (.iaload, 1) := by decide +kernel
theorem dX9_value_46 : decode cX9_value 46 = .ok (.aload_n 2, 1) := by decide +kernel
theorem dX9_value_47 : decode cX9_value 47 = .ok (.invokevirtual 34, 3) := by decide +kernel
theorem dX9_value_50 : decode cX9_value 50 = .ok (.iload_n 3, 1) := by decide +kernel
theorem dX9_value_51 : decode cX9_value 51 = .ok (.iload 4, 2) := by decide +kernel
theorem dX9_value_53 : decode cX9_value 53 = .ok (.invokestatic 38, 3) := by decide +kernel
theorem dX9_value_56 : decode cX9_value 56 = .ok (.ireturn, 1) := by decide +kernel
theorem dX9_value_57 : decode cX9_value 57 = .ok (.iinc 5 1, 3) := by decide +kernel
theorem dX9_value_60 : decode cX9_value 60 = .ok (.goto (-57), 3) := by decide +kernel
theorem dX9_value_63 : decode cX9_value 63 = .ok (.iconst 0, 1) := by decide +kernel
theorem dX9_value_64 : decode cX9_value 64 = .ok (.ireturn, 1) := by decide +kernel
theorem dX10_init_0 : decode cX10_init 0 = .ok (.aload_n 0, 1) := by decide +kernel
theorem dX10_init_1 : decode cX10_init 1 = .ok (.invokespecial 3, 3) := by decide +kernel
theorem dX10_init_4 : decode cX10_init 4 = .ok (.aload_n 0, 1) := by decide +kernel
theorem dX10_init_5 : decode cX10_init 5 = .ok (.bipush 48, 2) := by decide +kernel
theorem dX10_init_7 : decode cX10_init 7 = .ok (.newarray .int, 2) := by decide +kernel
theorem dX10_init_9 : decode cX10_init 9 = .ok (.putfield 9, 3) := by decide +kernel
theorem dX10_init_12 : decode cX10_init 12 = .ok (.aload_n 0, 1) := by decide +kernel
theorem dX10_init_13 : decode cX10_init 13 = .ok (.aload_n 1, 1) := by decide +kernel
theorem dX10_init_14 : decode cX10_init 14 = .ok (.putfield 15, 3) := by decide +kernel
theorem dX10_init_17 : decode cX10_init 17 = .ok (.return_, 1) := by decide +kernel
theorem dX10_fall_0 : decode cX10_fall 0 = .ok (.aload_n 0, 1) := by decide +kernel
theorem dX10_fall_1 : decode cX10_fall 1 = .ok (.getfield 9, 3) := by decide +kernel
theorem dX10_fall_4 : decode cX10_fall 4 = .ok (.iconst (-1), 1) := by decide +kernel
theorem dX10_fall_5 : decode cX10_fall 5 = .ok (.invokestatic 19, 3) := by decide +kernel
theorem dX10_fall_8 : decode cX10_fall 8 = .ok (.return_, 1) := by decide +kernel
theorem dX11_init_0 : decode cX11_init 0 = .ok (.aload_n 0, 1) := by decide +kernel
theorem dX11_init_1 : decode cX11_init 1 = .ok (.invokespecial 1, 3) := by decide +kernel
theorem dX11_init_4 : decode cX11_init 4 = .ok (.aload_n 0, 1) := by decide +kernel
theorem dX11_init_5 : decode cX11_init 5 = .ok (.new 7, 3) := by decide +kernel
theorem dX11_init_8 : decode cX11_init 8 = .ok (.dup, 1) := by decide +kernel
theorem dX11_init_9 : decode cX11_init 9 = .ok (.invokespecial 9, 3) := by decide +kernel
theorem dX11_init_12 : decode cX11_init 12 = .ok (.putfield 10, 3) := by decide +kernel
theorem dX11_init_15 : decode cX11_init 15 = .ok (.aload_n 0, 1) := by decide +kernel
theorem dX11_init_16 : decode cX11_init 16 = .ok (.new 16, 3) := by decide +kernel
theorem dX11_init_19 : decode cX11_init 19 = .ok (.dup, 1) := by decide +kernel
theorem dX11_init_20 : decode cX11_init 20 = .ok (.aload_n 0, 1) := by decide +kernel
theorem dX11_init_21 : decode cX11_init 21 = .ok (.getfield 10, 3) := by decide +kernel
theorem dX11_init_24 : decode cX11_init 24 = .ok (.invokespecial 18, 3) := by decide +kernel
theorem dX11_init_27 : decode cX11_init 27 = .ok (.putfield 21, 3) := by decide +kernel
theorem dX11_init_30 : decode cX11_init 30 = .ok (.aload_n 0, 1) := by decide +kernel
theorem dX11_init_31 : decode cX11_init 31 = .ok (.iconst 4, 1) := by decide +kernel
theorem dX11_init_32 : decode cX11_init 32 = .ok (.anewarray 25, 3) := by decide +kernel
theorem dX11_init_35 : decode cX11_init 35 = .ok (.dup, 1) := by decide +kernel
theorem dX11_init_36 : decode cX11_init 36 = .ok (.iconst 0, 1) := by decide +kernel
theorem dX11_init_37 : decode cX11_init 37 = .ok (.new 25, 3) := by decide +kernel
theorem dX11_init_40 : decode cX11_init 40 = .ok (.dup, 1) := by decide +kernel
theorem dX11_init_41 : decode cX11_init 41 = .ok (.invokespecial 27, 3) := by decide +kernel
theorem dX11_init_44 : decode cX11_init 44 = .ok (.aastore, 1) := by decide +kernel
theorem dX11_init_45 : decode cX11_init 45 = .ok (.dup, 1) := by decide +kernel
theorem dX11_init_46 : decode cX11_init 46 = .ok (.iconst 1, 1) := by decide +kernel
theorem dX11_init_47 : decode cX11_init 47 = .ok (.new 25, 3) := by decide +kernel
theorem dX11_init_50 : decode cX11_init 50 = .ok (.dup, 1) := by decide +kernel
theorem dX11_init_51 : decode cX11_init 51 = .ok (.invokespecial 27, 3) := by decide +kernel
theorem dX11_init_54 : decode cX11_init 54 = .ok (.aastore, 1) := by decide +kernel
theorem dX11_init_55 : decode cX11_init 55 = .ok (.dup, 1) := by decide +kernel
theorem dX11_init_56 : decode cX11_init 56 = .ok (.iconst 2, 1) := by decide +kernel
theorem dX11_init_57 : decode cX11_init 57 = .ok (.new 25, 3) := by decide +kernel
theorem dX11_init_60 : decode cX11_init 60 = .ok (.dup, 1) := by decide +kernel
theorem dX11_init_61 : decode cX11_init 61 = .ok (.invokespecial 27, 3) := by decide +kernel
theorem dX11_init_64 : decode cX11_init 64 = .ok (.aastore, 1) := by decide +kernel
theorem dX11_init_65 : decode cX11_init 65 = .ok (.dup, 1) := by decide +kernel
theorem dX11_init_66 : decode cX11_init 66 = .ok (.iconst 3, 1) := by decide +kernel
theorem dX11_init_67 : decode cX11_init 67 = .ok (.new 25, 3) := by decide +kernel
theorem dX11_init_70 : decode cX11_init 70 = .ok (.dup, 1) := by decide +kernel
theorem dX11_init_71 : decode cX11_init 71 = .ok (.invokespecial 27, 3) := by decide +kernel
theorem dX11_init_74 : decode cX11_init 74 = .ok (.aastore, 1) := by decide +kernel
theorem dX11_init_75 : decode cX11_init 75 = .ok (.putfield 28, 3) := by decide +kernel
theorem dX11_init_78 : decode cX11_init 78 = .ok (.aload_n 0, 1) := by decide +kernel
theorem dX11_init_79 : decode cX11_init 79 = .ok (.bipush 26, 2) := by decide +kernel
theorem dX11_init_81 : decode cX11_init 81 = .ok (.newarray .int, 2) := by decide +kernel
theorem dX11_init_83 : decode cX11_init 83 = .ok (.putfield 32, 3) := by decide +kernel
theorem dX11_init_86 : decode cX11_init 86 = .ok (.aload_n 0, 1) := by decide +kernel
theorem dX11_init_87 : decode cX11_init 87 = .ok (.new 36, 3) := by decide +kernel
theorem dX11_init_90 : decode cX11_init 90 = .ok (.dup, 1) := by decide +kernel
theorem dX11_init_91 : decode cX11_init 91 = .ok (.invokespecial 38, 3) := by decide +kernel
theorem dX11_init_94 : decode cX11_init 94 = .ok (.putfield 39, 3) := by decide +kernel
theorem dX11_init_97 : decode cX11_init 97 = .ok (.aload_n 0, 1) := by decide +kernel
theorem dX11_init_98 : decode cX11_init 98 = .ok (.new 43, 3) := by decide +kernel
theorem dX11_init_101 : decode cX11_init 101 = .ok (.dup, 1) := by decide +kernel
theorem dX11_init_102 : decode cX11_init 102 = .ok (.aload_n 0, 1) := by decide +kernel
theorem dX11_init_103 : decode cX11_init 103 = .ok (.getfield 39, 3) := by decide +kernel
theorem dX11_init_106 : decode cX11_init 106 = .ok (.invokespecial 45, 3) := by decide +kernel
theorem dX11_init_109 : decode cX11_init 109 = .ok (.putfield 48, 3) := by decide +kernel
theorem dX11_init_112 : decode cX11_init 112 = .ok (.aload_n 0, 1) := by decide +kernel
theorem dX11_init_113 : decode cX11_init 113 = .ok (.new 52, 3) := by decide +kernel
theorem dX11_init_116 : decode cX11_init 116 = .ok (.dup, 1) := by decide +kernel
theorem dX11_init_117 : decode cX11_init 117 = .ok (.aload_n 0, 1) := by decide +kernel
theorem dX11_init_118 : decode cX11_init 118 = .ok (.getfield 39, 3) := by decide +kernel
theorem dX11_init_121 : decode cX11_init 121 = .ok (.invokespecial 54, 3) := by decide +kernel
theorem dX11_init_124 : decode cX11_init 124 = .ok (.putfield 55, 3) := by decide +kernel
theorem dX11_init_127 : decode cX11_init 127 = .ok (.aload_n 0, 1) := by decide +kernel
theorem dX11_init_128 : decode cX11_init 128 = .ok (.new 59, 3) := by decide +kernel
theorem dX11_init_131 : decode cX11_init 131 = .ok (.dup, 1) := by decide +kernel
theorem dX11_init_132 : decode cX11_init 132 = .ok (.aload_n 0, 1) := by decide +kernel
theorem dX11_init_133 : decode cX11_init 133 = .ok (.getfield 39, 3) := by decide +kernel
theorem dX11_init_136 : decode cX11_init 136 = .ok (.aload_n 0, 1) := by decide +kernel
theorem dX11_init_137 : decode cX11_init 137 = .ok (.getfield 55, 3) := by decide +kernel
theorem dX11_init_140 : decode cX11_init 140 = .ok (.invokespecial 61, 3) := by decide +kernel
theorem dX11_init_143 : decode cX11_init 143 = .ok (.putfield 64, 3) := by decide +kernel
theorem dX11_init_146 : decode cX11_init 146 = .ok (.aload_n 0, 1) := by decide +kernel
theorem dX11_init_147 : decode cX11_init 147 = .ok (.new 68, 3) := by decide +kernel
theorem dX11_init_150 : decode cX11_init 150 = .ok (.dup, 1) := by decide +kernel
theorem dX11_init_151 : decode cX11_init 151 = .ok (.aload_n 0, 1) := by decide +kernel
theorem dX11_init_152 : decode cX11_init 152 = .ok (.getfield 39, 3) := by decide +kernel
theorem dX11_init_155 : decode cX11_init 155 = .ok (.invokespecial 70, 3) := by decide +kernel
theorem dX11_init_158 : decode cX11_init 158 = .ok (.putfield 71, 3) := by decide +kernel
theorem dX11_init_161 : decode cX11_init 161 = .ok (.aload_n 0, 1) := by decide +kernel
theorem dX11_init_162 : decode cX11_init 162 = .ok (.new 75, 3) := by decide +kernel
theorem dX11_init_165 : decode cX11_init 165 = .ok (.dup, 1) := by decide +kernel
theorem dX11_init_166 : decode cX11_init 166 = .ok (.aload_n 0, 1) := by decide +kernel
theorem dX11_init_167 : decode cX11_init 167 = .ok (.getfield 39, 3) := by decide +kernel
theorem dX11_init_170 : decode cX11_init 170 = .ok (.invokespecial 77, 3) := by decide +kernel
theorem dX11_init_173 : decode cX11_init 173 = .ok (.putfield 78, 3) := by decide +kernel
theorem dX11_init_176 : decode cX11_init 176 = .ok (.aload_n 0, 1) := by decide +kernel
theorem dX11_init_177 : decode cX11_init 177 = .ok (.new 82, 3) := by decide +kernel
theorem dX11_init_180 : decode cX11_init 180 = .ok (.dup, 1) := by decide +kernel
theorem dX11_init_181 : decode cX11_init 181 = .ok (.invokespecial 84, 3) := by decide +kernel
theorem dX11_init_184 : decode cX11_init 184 = .ok (.putfield 85, 3) := by decide +kernel
theorem dX11_init_187 : decode cX11_init 187 = .ok (.aload_n 0, 1) := by decide +kernel
theorem dX11_init_188 : decode cX11_init 188 = .ok (.new 89, 3) := by decide +kernel
theorem dX11_init_191 : decode cX11_init 191 = .ok (.dup, 1) := by decide +kernel
theorem dX11_init_192 : decode cX11_init 192 = .ok (.invokespecial 91, 3) := by decide +kernel
theorem dX11_init_195 : decode cX11_init 195 = .ok (.putfield 92, 3) := by decide +kernel
theorem dX11_init_198 : decode cX11_init 198 = .ok (.aload_n 0, 1) := by decide +kernel
theorem dX11_init_199 : decode cX11_init 199 = .ok (.bipush 100, 2) := by decide +kernel
theorem dX11_init_201 : decode cX11_init 201 = .ok (.putfield 96, 3) := by decide +kernel
theorem dX11_init_204 : decode cX11_init 204 = .ok (.return_, 1) := by decide +kernel
theorem dX11_pitch_0 : decode cX11_pitch 0 = .ok (.iload_n 1, 1) := by decide +kernel
theorem dX11_pitch_1 : decode cX11_pitch 1 = .ok (.iconst 1, 1) := by decide +kernel
theorem dX11_pitch_2 : decode cX11_pitch 2 = .ok (.sipush 1000, 3) := by decide +kernel
theorem dX11_pitch_5 : decode cX11_pitch 5 = .ok (.invokestatic 100, 3) := by decide +kernel
theorem dX11_pitch_8 : decode cX11_pitch 8 = .ok (.ifCond .ne 5, 3) := by decide +kernel
theorem dX11_pitch_11 : decode cX11_pitch 11 = .ok (.iconst 0, 1) := by decide +kernel
theorem dX11_pitch_12 : decode cX11_pitch 12 = .ok (.ireturn, 1) := by decide +kernel
theorem dX11_pitch_13 : decode cX11_pitch 13 = .ok (.aload_n 0, 1) := by decide +kernel
theorem dX11_pitch_14 : decode cX11_pitch 14 = .ok (.iload_n 1, 1) := by decide +kernel
theorem dX11_pitch_15 : decode cX11_pitch 15 = .ok (.putfield 96, 3) := by decide +kernel
theorem dX11_pitch_18 : decode cX11_pitch 18 = .ok (.iconst 1, 1) := by decide +kernel
theorem dX11_pitch_19 : decode cX11_pitch 19 = .ok (.ireturn, 1) := by decide +kernel
theorem dX11_seed_0 : decode cX11_seed 0 = .ok (.iload_n 1, 1) := by decide +kernel
theorem dX11_seed_1 : decode cX11_seed 1 = .ok (.iconst 0, 1) := by decide +kernel
theorem dX11_seed_2 : decode cX11_seed 2 = .ok (.ldc 104, 2) := by decide +kernel
theorem dX11_seed_4 : decode cX11_seed 4 = .ok (.invokestatic 100, 3) := by decide +kernel
theorem dX11_seed_7 : decode cX11_seed 7 = .ok (.ifCond .ne 5, 3) := by decide +kernel
theorem dX11_seed_10 : decode cX11_seed 10 = .ok (.iconst 0, 1) := by decide +kernel
theorem dX11_seed_11 : decode cX11_seed 11 = .ok (.ireturn, 1) := by decide +kernel
theorem dX11_seed_12 : decode cX11_seed 12 = .ok (.aload_n 0, 1) := by decide +kernel
theorem dX11_seed_13 : decode cX11_seed 13 = .ok (.getfield 39, 3) := by decide +kernel
theorem dX11_seed_16 : decode cX11_seed 16 = .ok (.iload_n 1, 1) := by decide +kernel
theorem dX11_seed_17 : decode cX11_seed 17 = .ok (.putfield 105, 3) := by decide +kernel
theorem dX11_seed_20 : decode cX11_seed 20 = .ok (.iconst 1, 1) := by decide +kernel
theorem dX11_seed_21 : decode cX11_seed 21 = .ok (.ireturn, 1) := by decide +kernel
theorem dX11_feed_0 : decode cX11_feed 0 = .ok (.aload_n 0, 1) := by decide +kernel
theorem dX11_feed_1 : decode cX11_feed 1 = .ok (.getfield 10, 3) := by decide +kernel
theorem dX11_feed_4 : decode cX11_feed 4 = .ok (.bipush 20, 2) := by decide +kernel
theorem dX11_feed_6 : decode cX11_feed 6 = .ok (.invokevirtual 108, 3) := by decide +kernel
theorem dX11_feed_9 : decode cX11_feed 9 = .ok (.ifCond .ne 5, 3) := by decide +kernel
theorem dX11_feed_12 : decode cX11_feed 12 = .ok (.iconst (-1), 1) := by decide +kernel
theorem dX11_feed_13 : decode cX11_feed 13 = .ok (.ireturn, 1) := by decide +kernel
theorem dX11_feed_14 : decode cX11_feed 14 = .ok (.aload_n 0, 1) := by decide +kernel
theorem dX11_feed_15 : decode cX11_feed 15 = .ok (.getfield 10, 3) := by decide +kernel
theorem dX11_feed_18 : decode cX11_feed 18 = .ok (.iload_n 1, 1) := by decide +kernel
theorem dX11_feed_19 : decode cX11_feed 19 = .ok (.invokevirtual 112, 3) := by decide +kernel
theorem dX11_feed_22 : decode cX11_feed 22 = .ok (.aload_n 0, 1) := by decide +kernel
theorem dX11_feed_23 : decode cX11_feed 23 = .ok (.getfield 10, 3) := by decide +kernel
theorem dX11_feed_26 : decode cX11_feed 26 = .ok (.iload_n 2, 1) := by decide +kernel
theorem dX11_feed_27 : decode cX11_feed 27 = .ok (.invokevirtual 112, 3) := by decide +kernel
theorem dX11_feed_30 : decode cX11_feed 30 = .ok (.aload_n 0, 1) := by decide +kernel
theorem dX11_feed_31 : decode cX11_feed 31 = .ok (.getfield 10, 3) := by decide +kernel
theorem dX11_feed_34 : decode cX11_feed 34 = .ok (.iload_n 3, 1) := by decide +kernel
theorem dX11_feed_35 : decode cX11_feed 35 = .ok (.invokevirtual 112, 3) := by decide +kernel
theorem dX11_feed_38 : decode cX11_feed 38 = .ok (.aload_n 0, 1) := by decide +kernel
theorem dX11_feed_39 : decode cX11_feed 39 = .ok (.getfield 10, 3) := by decide +kernel
theorem dX11_feed_42 : decode cX11_feed 42 = .ok (.iload 4, 2) := by decide +kernel
theorem dX11_feed_44 : decode cX11_feed 44 = .ok (.invokevirtual 112, 3) := by decide +kernel
theorem dX11_feed_47 : decode cX11_feed 47 = .ok (.aload_n 0, 1) := by decide +kernel
theorem dX11_feed_48 : decode cX11_feed 48 = .ok (.getfield 10, 3) := by decide +kernel
theorem dX11_feed_51 : decode cX11_feed 51 = .ok (.iload 5, 2) := by decide +kernel
theorem dX11_feed_53 : decode cX11_feed 53 = .ok (.invokevirtual 112, 3) := by decide +kernel
theorem dX11_feed_56 : decode cX11_feed 56 = .ok (.aload_n 0, 1) := by decide +kernel
theorem dX11_feed_57 : decode cX11_feed 57 = .ok (.getfield 10, 3) := by decide +kernel
theorem dX11_feed_60 : decode cX11_feed 60 = .ok (.getfield 116, 3) := by decide +kernel
theorem dX11_feed_63 : decode cX11_feed 63 = .ok (.ireturn, 1) := by decide +kernel
theorem dX11_rule_0 : decode cX11_rule 0 = .ok (.aload_n 0, 1) := by decide +kernel
theorem dX11_rule_1 : decode cX11_rule 1 = .ok (.iconst 0, 1) := by decide +kernel
theorem dX11_rule_2 : decode cX11_rule 2 = .ok (.iload_n 1, 1) := by decide +kernel
theorem dX11_rule_3 : decode cX11_rule 3 = .ok (.ldc 119, 2) := by decide +kernel
theorem dX11_rule_5 : decode cX11_rule 5 = .ok (.invokevirtual 121, 3) := by decide +kernel
theorem dX11_rule_8 : decode cX11_rule 8 = .ok (.ireturn, 1) := by decide +kernel
theorem dX11_sand_0 : decode cX11_sand 0 = .ok (.aload_n 0, 1) := by decide +kernel
theorem dX11_sand_1 : decode cX11_sand 1 = .ok (.iconst 1, 1) := by decide +kernel
theorem dX11_sand_2 : decode cX11_sand 2 = .ok (.iload_n 1, 1) := by decide +kernel
theorem dX11_sand_3 : decode cX11_sand 3 = .ok (.ldc 125, 2) := by decide +kernel
theorem dX11_sand_5 : decode cX11_sand 5 = .ok (.invokevirtual 121, 3) := by decide +kernel
theorem dX11_sand_8 : decode cX11_sand 8 = .ok (.ireturn, 1) := by decide +kernel
theorem dX11_stain_0 : decode cX11_stain 0 = .ok (.aload_n 0, 1) := by decide +kernel
theorem dX11_stain_1 : decode cX11_stain 1 = .ok (.iconst 2, 1) := by decide +kernel
theorem dX11_stain_2 : decode cX11_stain 2 = .ok (.iload_n 1, 1) := by decide +kernel
theorem dX11_stain_3 : decode cX11_stain 3 = .ok (.ldc 127, 2) := by decide +kernel
theorem dX11_stain_5 : decode cX11_stain 5 = .ok (.invokevirtual 121, 3) := by decide +kernel
theorem dX11_stain_8 : decode cX11_stain 8 = .ok (.ireturn, 1) := by decide +kernel
theorem dX11_readText_0 : decode cX11_readText 0 = .ok (.iload_n 2, 1) := by decide +kernel
theorem dX11_readText_1 : decode cX11_readText 1 = .ok (.iconst 1, 1) := by decide +kernel
theorem dX11_readText_2 : decode cX11_readText 2 = .ok (.sipush 200, 3) := by decide +kernel
theorem dX11_readText_5 : decode cX11_readText 5 = .ok (.invokestatic 100, 3) := by decide +kernel
theorem dX11_readText_8 : decode cX11_readText 8 = .ok (.ifCond .eq 14, 3) := by decide +kernel
theorem dX11_readText_11 : decode cX11_readText 11 = .ok (.iload_n 2, 1) := by decide +kernel
theorem dX11_readText_12 : decode cX11_readText 12 = .ok (.aload_n 0, 1) := by decide +kernel
theorem dX11_readText_13 : decode cX11_readText 13 = .ok (.getfield 10, 3) := by decide +kernel
theorem dX11_readText_16 : decode cX11_readText 16 = .ok (.getfield 116, 3) := by decide +kernel
theorem dX11_readText_19 : decode cX11_readText 19 = .ok (.if_icmp .le 5, 3) := by decide +kernel
theorem dX11_readText_22 : decode cX11_readText 22 = .ok (.iconst (-1), 1) := by decide +kernel
theorem dX11_readText_23 : decode cX11_readText 23 = .ok (.ireturn, 1) := by decide +kernel
theorem dX11_readText_24 : decode cX11_readText 24 = .ok (.aload_n 0, 1) := by decide +kernel
theorem dX11_readText_25 : decode cX11_readText 25 = .ok (.getfield 28, 3) := by decide +kernel
theorem dX11_readText_28 : decode cX11_readText 28 = .ok (.iconst 3, 1) := by decide +kernel
theorem dX11_readText_29 : decode cX11_readText 29 = .ok (.aaload, 1) := by decide +kernel
theorem dX11_readText_30 : decode cX11_readText 30 = .ok (.astore 4, 2) := by decide +kernel
theorem dX11_readText_32 : decode cX11_readText 32 = .ok (.aload_n 0, 1) := by decide +kernel
theorem dX11_readText_33 : decode cX11_readText 33 = .ok (.getfield 21, 3) := by decide +kernel
theorem dX11_readText_36 : decode cX11_readText 36 = .ok (.iload_n 2, 1) := by decide +kernel
theorem dX11_readText_37 : decode cX11_readText 37 = .ok (.aload_n 3, 1) := by decide +kernel
theorem dX11_readText_38 : decode cX11_readText 38 = .ok (.aload 4, 2) := by decide +kernel
theorem dX11_readText_40 : decode cX11_readText 40 = .ok (.invokevirtual 129, 3) := by decide +kernel
theorem dX11_readText_43 : decode cX11_readText 43 = .ok (.istore 5, 2) := by decide +kernel
theorem dX11_readText_45 : decode cX11_readText 45 = .ok (.aload_n 0, 1) := by decide +kernel
theorem dX11_readText_46 : decode cX11_readText 46 = .ok (.getfield 10, 3) := by decide +kernel
theorem dX11_readText_49 : decode cX11_readText 49 = .ok (.invokevirtual 133, 3) := by decide +kernel
theorem dX11_readText_52 : decode cX11_readText 52 = .ok (.iload 5, 2) := by decide +kernel
theorem dX11_readText_54 : decode cX11_readText 54 = .ok (.ifCond .le 23, 3) := by decide +kernel
theorem dX11_readText_57 : decode cX11_readText 57 = .ok (.aload_n 0, 1) := by decide +kernel
theorem dX11_readText_58 : decode cX11_readText 58 = .ok (.getfield 28, 3) := by decide +kernel
theorem dX11_readText_61 : decode cX11_readText 61 = .ok (.iconst 3, 1) := by decide +kernel
theorem dX11_readText_62 : decode cX11_readText 62 = .ok (.aload_n 0, 1) := by decide +kernel
theorem dX11_readText_63 : decode cX11_readText 63 = .ok (.getfield 28, 3) := by decide +kernel
theorem dX11_readText_66 : decode cX11_readText 66 = .ok (.iload_n 1, 1) := by decide +kernel
theorem dX11_readText_67 : decode cX11_readText 67 = .ok (.aaload, 1) := by decide +kernel
theorem dX11_readText_68 : decode cX11_readText 68 = .ok (.aastore, 1) := by decide +kernel
theorem dX11_readText_69 : decode cX11_readText 69 = .ok (.aload_n 0, 1) := by decide +kernel
theorem dX11_readText_70 : decode cX11_readText 70 = .ok (.getfield 28, 3) := by decide +kernel
theorem dX11_readText_73 : decode cX11_readText 73 = .ok (.iload_n 1, 1) := by decide +kernel
theorem dX11_readText_74 : decode cX11_readText 74 = .ok (.aload 4, 2) := by decide +kernel
theorem dX11_readText_76 : decode cX11_readText 76 = .ok (.aastore, 1) := by decide +kernel
theorem dX11_readText_77 : decode cX11_readText 77 = .ok (.iload 5, 2) := by decide +kernel
theorem dX11_readText_79 : decode cX11_readText 79 = .ok (.ireturn, 1) := by decide +kernel
theorem dX11_build_0 : decode cX11_build 0 = .ok (.iload_n 1, 1) := by decide +kernel
theorem dX11_build_1 : decode cX11_build 1 = .ok (.iconst 3, 1) := by decide +kernel
theorem dX11_build_2 : decode cX11_build 2 = .ok (.bipush 24, 2) := by decide +kernel
theorem dX11_build_4 : decode cX11_build 4 = .ok (.invokestatic 100, 3) := by decide +kernel
theorem dX11_build_7 : decode cX11_build 7 = .ok (.ifCond .eq 13, 3) := by decide +kernel
theorem dX11_build_10 : decode cX11_build 10 = .ok (.iload_n 2, 1) := by decide +kernel
theorem dX11_build_11 : decode cX11_build 11 = .ok (.iconst 1, 1) := by decide +kernel
theorem dX11_build_12 : decode cX11_build 12 = .ok (.bipush 8, 2) := by decide +kernel
theorem dX11_build_14 : decode cX11_build 14 = .ok (.invokestatic 100, 3) := by decide +kernel
theorem dX11_build_17 : decode cX11_build 17 = .ok (.ifCond .ne 5, 3) := by decide +kernel
theorem dX11_build_20 : decode cX11_build 20 = .ok (.iconst (-1), 1) := by decide +kernel
theorem dX11_build_21 : decode cX11_build 21 = .ok (.ireturn, 1) := by decide +kernel
theorem dX11_build_22 : decode cX11_build 22 = .ok (.aload_n 0, 1) := by decide +kernel
theorem dX11_build_23 : decode cX11_build 23 = .ok (.getfield 48, 3) := by decide +kernel
theorem dX11_build_26 : decode cX11_build 26 = .ok (.invokevirtual 136, 3) := by decide +kernel
theorem dX11_build_29 : decode cX11_build 29 = .ok (.aload_n 0, 1) := by decide +kernel
theorem dX11_build_30 : decode cX11_build 30 = .ok (.getfield 78, 3) := by decide +kernel
theorem dX11_build_33 : decode cX11_build 33 = .ok (.invokevirtual 139, 3) := by decide +kernel
theorem dX11_build_36 : decode cX11_build 36 = .ok (.aload_n 0, 1) := by decide +kernel
theorem dX11_build_37 : decode cX11_build 37 = .ok (.getfield 39, 3) := by decide +kernel
theorem dX11_build_40 : decode cX11_build 40 = .ok (.iload_n 1, 1) := by decide +kernel
theorem dX11_build_41 : decode cX11_build 41 = .ok (.iload_n 2, 1) := by decide +kernel
theorem dX11_build_42 : decode cX11_build 42 = .ok (.aload_n 0, 1) := by decide +kernel
theorem dX11_build_43 : decode cX11_build 43 = .ok (.getfield 28, 3) := by decide +kernel
theorem dX11_build_46 : decode cX11_build 46 = .ok (.iconst 0, 1) := by decide +kernel
theorem dX11_build_47 : decode cX11_build 47 = .ok (.aaload, 1) := by decide +kernel
theorem dX11_build_48 : decode cX11_build 48 = .ok (.invokevirtual 140, 3) := by decide +kernel
theorem dX11_build_51 : decode cX11_build 51 = .ok (.ireturn, 1) := by decide +kernel
theorem dX11_mound_0 : decode cX11_mound 0 = .ok (.iload_n 1, 1) := by decide +kernel
theorem dX11_mound_1 : decode cX11_mound 1 = .ok (.iconst 0, 1) := by decide +kernel
theorem dX11_mound_2 : decode cX11_mound 2 = .ok (.bipush 23, 2) := by decide +kernel
theorem dX11_mound_4 : decode cX11_mound 4 = .ok (.invokestatic 100, 3) := by decide +kernel
theorem dX11_mound_7 : decode cX11_mound 7 = .ok (.ifCond .eq 14, 3) := by decide +kernel
theorem dX11_mound_10 : decode cX11_mound 10 = .ok (.iload_n 2, 1) := by decide +kernel
theorem dX11_mound_11 : decode cX11_mound 11 = .ok (.iconst 0, 1) := by decide +kernel
theorem dX11_mound_12 : decode cX11_mound 12 = .ok (.sipush 1000, 3) := by decide +kernel
theorem dX11_mound_15 : decode cX11_mound 15 = .ok (.invokestatic 100, 3) := by decide +kernel
theorem dX11_mound_18 : decode cX11_mound 18 = .ok (.ifCond .ne 5, 3) := by decide +kernel
theorem dX11_mound_21 : decode cX11_mound 21 = .ok (.iconst 0, 1) := by decide +kernel
theorem dX11_mound_22 : decode cX11_mound 22 = .ok (.ireturn, 1) := by decide +kernel
theorem dX11_mound_23 : decode cX11_mound 23 = .ok (.aload_n 0, 1) := by decide +kernel
theorem dX11_mound_24 : decode cX11_mound 24 = .ok (.getfield 39, 3) := by decide +kernel
theorem dX11_mound_27 : decode cX11_mound 27 = .ok (.getfield 144, 3) := by decide +kernel
theorem dX11_mound_30 : decode cX11_mound 30 = .ok (.iload_n 1, 1) := by decide +kernel
theorem dX11_mound_31 : decode cX11_mound 31 = .ok (.iload_n 2, 1) := by decide +kernel
theorem dX11_mound_32 : decode cX11_mound 32 = .ok (.iastore, 1) := by decide +kernel
theorem dX11_mound_33 : decode cX11_mound 33 = .ok (.iconst 1, 1) := by decide +kernel
theorem dX11_mound_34 : decode cX11_mound 34 = .ok (.ireturn, 1) := by decide +kernel
theorem dX11_bury_0 : decode cX11_bury 0 = .ok (.aload_n 0, 1) := by decide +kernel
theorem dX11_bury_1 : decode cX11_bury 1 = .ok (.getfield 39, 3) := by decide +kernel
theorem dX11_bury_4 : decode cX11_bury 4 = .ok (.invokevirtual 147, 3) := by decide +kernel
theorem dX11_bury_7 : decode cX11_bury 7 = .ok (.ifCond .eq 13, 3) := by decide +kernel
theorem dX11_bury_10 : decode cX11_bury 10 = .ok (.iload_n 1, 1) := by decide +kernel
theorem dX11_bury_11 : decode cX11_bury 11 = .ok (.iconst 1, 1) := by decide +kernel
theorem dX11_bury_12 : decode cX11_bury 12 = .ok (.bipush 9, 2) := by decide +kernel
theorem dX11_bury_14 : decode cX11_bury 14 = .ok (.invokestatic 100, 3) := by decide +kernel
theorem dX11_bury_17 : decode cX11_bury 17 = .ok (.ifCond .ne 5, 3) := by decide +kernel
theorem dX11_bury_20 : decode cX11_bury 20 = .ok (.iconst (-1), 1) := by decide +kernel
theorem dX11_bury_21 : decode cX11_bury 21 = .ok (.ireturn, 1) := by decide +kernel
theorem dX11_bury_22 : decode cX11_bury 22 = .ok (.aload_n 0, 1) := by decide +kernel
theorem dX11_bury_23 : decode cX11_bury 23 = .ok (.getfield 39, 3) := by decide +kernel
theorem dX11_bury_26 : decode cX11_bury 26 = .ok (.iload_n 1, 1) := by decide +kernel
theorem dX11_bury_27 : decode cX11_bury 27 = .ok (.aload_n 0, 1) := by decide +kernel
theorem dX11_bury_28 : decode cX11_bury 28 = .ok (.getfield 28, 3) := by decide +kernel
theorem dX11_bury_31 : decode cX11_bury 31 = .ok (.iconst 1, 1) := by decide +kernel
theorem dX11_bury_32 : decode cX11_bury 32 = .ok (.aaload, 1) := by decide +kernel
theorem dX11_bury_33 : decode cX11_bury 33 = .ok (.invokevirtual 151, 3) := by decide +kernel
theorem dX11_bury_36 : decode cX11_bury 36 = .ok (.aload_n 0, 1) := by decide +kernel
theorem dX11_bury_37 : decode cX11_bury 37 = .ok (.getfield 39, 3) := by decide +kernel
theorem dX11_bury_40 : decode cX11_bury 40 = .ok (.invokevirtual 155, 3) := by decide +kernel
theorem dX11_bury_43 : decode cX11_bury 43 = .ok (.ireturn, 1) := by decide +kernel
theorem dX11_lies_0 : decode cX11_lies 0 = .ok (.aload_n 0, 1) := by decide +kernel
theorem dX11_lies_1 : decode cX11_lies 1 = .ok (.getfield 39, 3) := by decide +kernel
theorem dX11_lies_4 : decode cX11_lies 4 = .ok (.iload_n 1, 1) := by decide +kernel
theorem dX11_lies_5 : decode cX11_lies 5 = .ok (.iload_n 2, 1) := by decide +kernel
theorem dX11_lies_6 : decode cX11_lies 6 = .ok (.iload_n 3, 1) := by decide +kernel
theorem dX11_lies_7 : decode cX11_lies 7 = .ok (.invokevirtual 159, 3) := by decide +kernel
theorem dX11_lies_10 : decode cX11_lies 10 = .ok (.istore 6, 2) := by decide +kernel
theorem dX11_lies_12 : decode cX11_lies 12 = .ok (.iload 6, 2) := by decide +kernel
theorem dX11_lies_14 : decode cX11_lies 14 = .ok (.ifCond .lt 31, 3) := by decide +kernel
theorem dX11_lies_17 : decode cX11_lies 17 = .ok (.iload 4, 2) := by decide +kernel
theorem dX11_lies_19 : decode cX11_lies 19 = .ok (.sipush (-3000), 3) := by decide +kernel
theorem dX11_lies_22 : decode cX11_lies 22 = .ok (.sipush 3000, 3) := by decide +kernel
theorem dX11_lies_25 : decode cX11_lies 25 = .ok (.invokestatic 100, 3) := by decide +kernel
theorem dX11_lies_28 : decode cX11_lies 28 = .ok (.ifCond .eq 17, 3) := by decide +kernel
theorem dX11_lies_31 : decode cX11_lies 31 = .ok (.iload 5, 2) := by decide +kernel
theorem dX11_lies_33 : decode cX11_lies 33 = .ok (.sipush (-3000), 3) := by decide +kernel
theorem dX11_lies_36 : decode cX11_lies 36 = .ok (.sipush 3000, 3) := by decide +kernel
theorem dX11_lies_39 : decode cX11_lies 39 = .ok (.invokestatic 100, 3) := by decide +kernel
theorem dX11_lies_42 : decode cX11_lies 42 = .ok (.ifCond .ne 5, 3) := by decide +kernel
theorem dX11_lies_45 : decode cX11_lies 45 = .ok (.iconst 0, 1) := by decide +kernel
theorem dX11_lies_46 : decode cX11_lies 46 = .ok (.ireturn, 1) := by decide +kernel
theorem dX11_lies_47 : decode cX11_lies 47 = .ok (.aload_n 0, 1) := by decide +kernel
theorem dX11_lies_48 : decode cX11_lies 48 = .ok (.getfield 39, 3) := by decide +kernel
theorem dX11_lies_51 : decode cX11_lies 51 = .ok (.iload 6, 2) := by decide +kernel
theorem dX11_lies_53 : decode cX11_lies 53 = .ok (.iload_n 2, 1) := by decide +kernel
theorem dX11_lies_54 : decode cX11_lies 54 = .ok (.iload 4, 2) := by decide +kernel
theorem dX11_lies_56 : decode cX11_lies 56 = .ok (.iload 5, 2) := by decide +kernel
theorem dX11_lies_58 : decode cX11_lies 58 = .ok (.invokevirtual 163, 3) := by decide +kernel
theorem dX11_lies_61 : decode cX11_lies 61 = .ok (.iconst 1, 1) := by decide +kernel
theorem dX11_lies_62 : decode cX11_lies 62 = .ok (.ireturn, 1) := by decide +kernel
theorem dX11_gone_0 : decode cX11_gone 0 = .ok (.aload_n 0, 1) := by decide +kernel
theorem dX11_gone_1 : decode cX11_gone 1 = .ok (.getfield 39, 3) := by decide +kernel
theorem dX11_gone_4 : decode cX11_gone 4 = .ok (.iload_n 1, 1) := by decide +kernel
theorem dX11_gone_5 : decode cX11_gone 5 = .ok (.iload_n 2, 1) := by decide +kernel
theorem dX11_gone_6 : decode cX11_gone 6 = .ok (.iload_n 3, 1) := by decide +kernel
theorem dX11_gone_7 : decode cX11_gone 7 = .ok (.invokevirtual 159, 3) := by decide +kernel
theorem dX11_gone_10 : decode cX11_gone 10 = .ok (.istore 4, 2) := by decide +kernel
theorem dX11_gone_12 : decode cX11_gone 12 = .ok (.iload 4, 2) := by decide +kernel
theorem dX11_gone_14 : decode cX11_gone 14 = .ok (.ifCond .lt 16, 3) := by decide +kernel
theorem dX11_gone_17 : decode cX11_gone 17 = .ok (.aload_n 0, 1) := by decide +kernel
theorem dX11_gone_18 : decode cX11_gone 18 = .ok (.getfield 39, 3) := by decide +kernel
theorem dX11_gone_21 : decode cX11_gone 21 = .ok (.getfield 167, 3) := by decide +kernel
theorem dX11_gone_24 : decode cX11_gone 24 = .ok (.iload 4, 2) := by decide +kernel
theorem dX11_gone_26 : decode cX11_gone 26 = .ok (.baload, 1) := by decide +kernel
theorem dX11_gone_27 : decode cX11_gone 27 = .ok (.ifCond .eq 5, 3) := by decide +kernel
theorem dX11_gone_30 : decode cX11_gone 30 = .ok (.iconst 0, 1) := by decide +kernel
theorem dX11_gone_31 : decode cX11_gone 31 = .ok (.ireturn, 1) := by decide +kernel
theorem dX11_gone_32 : decode cX11_gone 32 = .ok (.aload_n 0, 1) := by decide +kernel
theorem dX11_gone_33 : decode cX11_gone 33 = .ok (.getfield 39, 3) := by decide +kernel
theorem dX11_gone_36 : decode cX11_gone 36 = .ok (.iload 4, 2) := by decide +kernel
theorem dX11_gone_38 : decode cX11_gone 38 = .ok (.iload_n 2, 1) := by decide +kernel
theorem dX11_gone_39 : decode cX11_gone 39 = .ok (.invokevirtual 171, 3) := by decide +kernel
theorem dX11_gone_42 : decode cX11_gone 42 = .ok (.iconst 1, 1) := by decide +kernel
theorem dX11_gone_43 : decode cX11_gone 43 = .ok (.ireturn, 1) := by decide +kernel
theorem dX11_rivet_0 : decode cX11_rivet 0 = .ok (.aload_n 0, 1) := by decide +kernel
theorem dX11_rivet_1 : decode cX11_rivet 1 = .ok (.getfield 39, 3) := by decide +kernel
theorem dX11_rivet_4 : decode cX11_rivet 4 = .ok (.iload_n 1, 1) := by decide +kernel
theorem dX11_rivet_5 : decode cX11_rivet 5 = .ok (.iload_n 2, 1) := by decide +kernel
theorem dX11_rivet_6 : decode cX11_rivet 6 = .ok (.iload_n 3, 1) := by decide +kernel
theorem dX11_rivet_7 : decode cX11_rivet 7 = .ok (.invokevirtual 159, 3) := by decide +kernel
theorem dX11_rivet_10 : decode cX11_rivet 10 = .ok (.istore 5, 2) := by decide +kernel
theorem dX11_rivet_12 : decode cX11_rivet 12 = .ok (.iload 5, 2) := by decide +kernel
theorem dX11_rivet_14 : decode cX11_rivet 14 = .ok (.ifCond .ge 7, 3) := by decide +kernel
theorem dX11_rivet_17 : decode cX11_rivet 17 = .ok (.sipush (-10000), 3) := by decide +kernel
theorem dX11_rivet_20 : decode cX11_rivet 20 = .ok (.ireturn, 1) := by decide +kernel
theorem dX11_rivet_21 : decode cX11_rivet 21 = .ok (.iload 4, 2) := by decide +kernel
theorem dX11_rivet_23 : decode cX11_rivet 23 = .ok (.tableswitch 104 0 4 #[33, 44, 55, 74, 85], 33) := by decide +kernel
theorem dX11_rivet_56 : decode cX11_rivet 56 = .ok (.aload_n 0, 1) := by decide +kernel
theorem dX11_rivet_57 : decode cX11_rivet 57 = .ok (.getfield 39, 3) := by decide +kernel
theorem dX11_rivet_60 : decode cX11_rivet 60 = .ok (.getfield 175, 3) := by decide +kernel
theorem dX11_rivet_63 : decode cX11_rivet 63 = .ok (.iload 5, 2) := by decide +kernel
theorem dX11_rivet_65 : decode cX11_rivet 65 = .ok (.iaload, 1) := by decide +kernel
theorem dX11_rivet_66 : decode cX11_rivet 66 = .ok (.ireturn, 1) := by decide +kernel
theorem dX11_rivet_67 : decode cX11_rivet 67 = .ok (.aload_n 0, 1) := by decide +kernel
theorem dX11_rivet_68 : decode cX11_rivet 68 = .ok (.getfield 39, 3) := by decide +kernel
theorem dX11_rivet_71 : decode cX11_rivet 71 = .ok (.getfield 178, 3) := by decide +kernel
theorem dX11_rivet_74 : decode cX11_rivet 74 = .ok (.iload 5, 2) := by decide +kernel
theorem dX11_rivet_76 : decode cX11_rivet 76 = .ok (.iaload, 1) := by decide +kernel
theorem dX11_rivet_77 : decode cX11_rivet 77 = .ok (.ireturn, 1) := by decide +kernel
theorem dX11_rivet_78 : decode cX11_rivet 78 = .ok (.aload_n 0, 1) := by decide +kernel
theorem dX11_rivet_79 : decode cX11_rivet 79 = .ok (.getfield 39, 3) := by decide +kernel
theorem dX11_rivet_82 : decode cX11_rivet 82 = .ok (.getfield 167, 3) := by decide +kernel
theorem dX11_rivet_85 : decode cX11_rivet 85 = .ok (.iload 5, 2) := by decide +kernel
theorem dX11_rivet_87 : decode cX11_rivet 87 = .ok (.baload, 1) := by decide +kernel
theorem dX11_rivet_88 : decode cX11_rivet 88 = .ok (.ifCond .eq 7, 3) := by decide +kernel
theorem dX11_rivet_91 : decode cX11_rivet 91 = .ok (.iconst 1, 1) := by decide +kernel
theorem dX11_rivet_92 : decode cX11_rivet 92 = .ok (.goto 4, 3) := by decide +kernel
theorem dX11_rivet_95 : decode cX11_rivet 95 = .ok (.iconst 0, 1) := by decide +kernel
theorem dX11_rivet_96 : decode cX11_rivet 96 = .ok (.ireturn, 1) := by decide +kernel
theorem dX11_rivet_97 : decode cX11_rivet 97 = .ok (.aload_n 0, 1) := by decide +kernel
theorem dX11_rivet_98 : decode cX11_rivet 98 = .ok (.getfield 39, 3) := by decide +kernel
theorem dX11_rivet_101 : decode cX11_rivet 101 = .ok (.getfield 181, 3) := by decide +kernel
theorem dX11_rivet_104 : decode cX11_rivet 104 = .ok (.iload 5, 2) := by decide +kernel
theorem dX11_rivet_106 : decode cX11_rivet 106 = .ok (.iaload, 1) := by decide +kernel
theorem dX11_rivet_107 : decode cX11_rivet 107 = .ok (.ireturn, 1) := by decide +kernel
theorem dX11_rivet_108 : decode cX11_rivet 108 = .ok (.aload_n 0, 1) := by decide +kernel
theorem dX11_rivet_109 : decode cX11_rivet 109 = .ok (.getfield 39, 3) := by decide +kernel
theorem dX11_rivet_112 : decode cX11_rivet 112 = .ok (.iload 5, 2) := by decide +kernel
theorem dX11_rivet_114 : decode cX11_rivet 114 = .ok (.iload_n 1, 1) := by decide +kernel
theorem dX11_rivet_115 : decode cX11_rivet 115 = .ok (.invokevirtual 184, 3) := by decide +kernel
theorem dX11_rivet_118 : decode cX11_rivet 118 = .ok (.ifCond .eq 7, 3) := by decide +kernel
theorem dX11_rivet_121 : decode cX11_rivet 121 = .ok (.iconst 1, 1) := by decide +kernel
theorem dX11_rivet_122 : decode cX11_rivet 122 = .ok (.goto 4, 3) := by decide +kernel
theorem dX11_rivet_125 : decode cX11_rivet 125 = .ok (.iconst 0, 1) := by decide +kernel
theorem dX11_rivet_126 : decode cX11_rivet 126 = .ok (.ireturn, 1) := by decide +kernel
theorem dX11_rivet_127 : decode cX11_rivet 127 = .ok (.sipush (-10000), 3) := by decide +kernel
theorem dX11_rivet_130 : decode cX11_rivet 130 = .ok (.ireturn, 1) := by decide +kernel
theorem dX11_cut_0 : decode cX11_cut 0 = .ok (.iload_n 1, 1) := by decide +kernel
theorem dX11_cut_1 : decode cX11_cut 1 = .ok (.aload_n 0, 1) := by decide +kernel
theorem dX11_cut_2 : decode cX11_cut 2 = .ok (.getfield 39, 3) := by decide +kernel
theorem dX11_cut_5 : decode cX11_cut 5 = .ok (.invokevirtual 188, 3) := by decide +kernel
theorem dX11_cut_8 : decode cX11_cut 8 = .ok (.iconst (-1), 1) := by decide +kernel
theorem dX11_cut_9 : decode cX11_cut 9 = .ok (.ixor, 1) := by decide +kernel
theorem dX11_cut_10 : decode cX11_cut 10 = .ok (.iand, 1) := by decide +kernel
theorem dX11_cut_11 : decode cX11_cut 11 = .ok (.ifCond .eq 5, 3) := by decide +kernel
theorem dX11_cut_14 : decode cX11_cut 14 = .ok (.iconst 0, 1) := by decide +kernel
theorem dX11_cut_15 : decode cX11_cut 15 = .ok (.ireturn, 1) := by decide +kernel
theorem dX11_cut_16 : decode cX11_cut 16 = .ok (.aload_n 0, 1) := by decide +kernel
theorem dX11_cut_17 : decode cX11_cut 17 = .ok (.getfield 39, 3) := by decide +kernel
theorem dX11_cut_20 : decode cX11_cut 20 = .ok (.iload_n 1, 1) := by decide +kernel
theorem dX11_cut_21 : decode cX11_cut 21 = .ok (.invokevirtual 191, 3) := by decide +kernel
theorem dX11_cut_24 : decode cX11_cut 24 = .ok (.iconst 1, 1) := by decide +kernel
theorem dX11_cut_25 : decode cX11_cut 25 = .ok (.ireturn, 1) := by decide +kernel
theorem dX11_drawing_0 : decode cX11_drawing 0 = .ok (.aload_n 0, 1) := by decide +kernel
theorem dX11_drawing_1 : decode cX11_drawing 1 = .ok (.getfield 39, 3) := by decide +kernel
theorem dX11_drawing_4 : decode cX11_drawing 4 = .ok (.invokevirtual 147, 3) := by decide +kernel
theorem dX11_drawing_7 : decode cX11_drawing 7 = .ok (.ifCond .eq 14, 3) := by decide +kernel
theorem dX11_drawing_10 : decode cX11_drawing 10 = .ok (.iload_n 1, 1) := by decide +kernel
theorem dX11_drawing_11 : decode cX11_drawing 11 = .ok (.iconst 0, 1) := by decide +kernel
theorem dX11_drawing_12 : decode cX11_drawing 12 = .ok (.sipush 2100, 3) := by decide +kernel
theorem dX11_drawing_15 : decode cX11_drawing 15 = .ok (.invokestatic 100, 3) := by decide +kernel
theorem dX11_drawing_18 : decode cX11_drawing 18 = .ok (.ifCond .ne 5, 3) := by decide +kernel
theorem dX11_drawing_21 : decode cX11_drawing 21 = .ok (.iconst (-1), 1) := by decide +kernel
theorem dX11_drawing_22 : decode cX11_drawing 22 = .ok (.ireturn, 1) := by decide +kernel
theorem dX11_drawing_23 : decode cX11_drawing 23 = .ok (.aload_n 0, 1) := by decide +kernel
theorem dX11_drawing_24 : decode cX11_drawing 24 = .ok (.getfield 48, 3) := by decide +kernel
theorem dX11_drawing_27 : decode cX11_drawing 27 = .ok (.invokevirtual 194, 3) := by decide +kernel
theorem dX11_drawing_30 : decode cX11_drawing 30 = .ok (.ireturn, 1) := by decide +kernel
theorem dX11_mark_0 : decode cX11_mark 0 = .ok (.aload_n 0, 1) := by decide +kernel
theorem dX11_mark_1 : decode cX11_mark 1 = .ok (.getfield 39, 3) := by decide +kernel
theorem dX11_mark_4 : decode cX11_mark 4 = .ok (.iload_n 2, 1) := by decide +kernel
theorem dX11_mark_5 : decode cX11_mark 5 = .ok (.iload_n 3, 1) := by decide +kernel
theorem dX11_mark_6 : decode cX11_mark 6 = .ok (.iload 4, 2) := by decide +kernel
theorem dX11_mark_8 : decode cX11_mark 8 = .ok (.invokevirtual 159, 3) := by decide +kernel
theorem dX11_mark_11 : decode cX11_mark 11 = .ok (.istore 7, 2) := by decide +kernel
theorem dX11_mark_13 : decode cX11_mark 13 = .ok (.iload 7, 2) := by decide +kernel
theorem dX11_mark_15 : decode cX11_mark 15 = .ok (.ifCond .lt 42, 3) := by decide +kernel
theorem dX11_mark_18 : decode cX11_mark 18 = .ok (.aload_n 0, 1) := by decide +kernel
