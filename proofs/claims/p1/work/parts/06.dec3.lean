theorem dX12_isBent_33 : decode cX12_isBent 33 = .ok (.if_icmp .eq 43, 3) := by decide +kernel
theorem dX12_isBent_36 : decode cX12_isBent 36 = .ok (.aload_n 0, 1) := by decide +kernel
theorem dX12_isBent_37 : decode cX12_isBent 37 = .ok (.getfield 118, 3) := by decide +kernel
theorem dX12_isBent_40 : decode cX12_isBent 40 = .ok (.iload_n 1, 1) := by decide +kernel
theorem dX12_isBent_41 : decode cX12_isBent 41 = .ok (.aload_n 0, 1) := by decide +kernel
theorem dX12_isBent_42 : decode cX12_isBent 42 = .ok (.iload_n 1, 1) := by decide +kernel
theorem dX12_isBent_43 : decode cX12_isBent 43 = .ok (.iload_n 2, 1) := by decide +kernel
theorem dX12_isBent_44 : decode cX12_isBent 44 = .ok (.invokevirtual 487, 3) := by decide +kernel
theorem dX12_isBent_47 : decode cX12_isBent 47 = .ok (.bastore, 1) := by decide +kernel
theorem dX12_isBent_48 : decode cX12_isBent 48 = .ok (.aload_n 0, 1) := by decide +kernel
theorem dX12_isBent_49 : decode cX12_isBent 49 = .ok (.getfield 118, 3) := by decide +kernel
theorem dX12_isBent_52 : decode cX12_isBent 52 = .ok (.iload_n 1, 1) := by decide +kernel
theorem dX12_isBent_53 : decode cX12_isBent 53 = .ok (.baload, 1) := by decide +kernel
theorem dX12_isBent_54 : decode cX12_isBent 54 = .ok (.ifCond .eq 8, 3) := by decide +kernel
theorem dX12_isBent_57 : decode cX12_isBent 57 = .ok (.aload_n 0, 1) := by decide +kernel
theorem dX12_isBent_58 : decode cX12_isBent 58 = .ok (.iload_n 1, 1) := by decide +kernel
theorem dX12_isBent_59 : decode cX12_isBent 59 = .ok (.invokevirtual 508, 3) := by decide +kernel
theorem dX12_isBent_62 : decode cX12_isBent 62 = .ok (.aload_n 0, 1) := by decide +kernel
theorem dX12_isBent_63 : decode cX12_isBent 63 = .ok (.getfield 115, 3) := by decide +kernel
theorem dX12_isBent_66 : decode cX12_isBent 66 = .ok (.iload_n 1, 1) := by decide +kernel
theorem dX12_isBent_67 : decode cX12_isBent 67 = .ok (.iconst 1, 1) := by decide +kernel
theorem dX12_isBent_68 : decode cX12_isBent 68 = .ok (.bastore, 1) := by decide +kernel
theorem dX12_isBent_69 : decode cX12_isBent 69 = .ok (.aload_n 0, 1) := by decide +kernel
theorem dX12_isBent_70 : decode cX12_isBent 70 = .ok (.getfield 112, 3) := by decide +kernel
theorem dX12_isBent_73 : decode cX12_isBent 73 = .ok (.iload_n 1, 1) := by decide +kernel
theorem dX12_isBent_74 : decode cX12_isBent 74 = .ok (.iload_n 2, 1) := by decide +kernel
theorem dX12_isBent_75 : decode cX12_isBent 75 = .ok (.iastore, 1) := by decide +kernel
theorem dX12_isBent_76 : decode cX12_isBent 76 = .ok (.aload_n 0, 1) := by decide +kernel
theorem dX12_isBent_77 : decode cX12_isBent 77 = .ok (.getfield 118, 3) := by decide +kernel
theorem dX12_isBent_80 : decode cX12_isBent 80 = .ok (.iload_n 1, 1) := by decide +kernel
theorem dX12_isBent_81 : decode cX12_isBent 81 = .ok (.baload, 1) := by decide +kernel
theorem dX12_isBent_82 : decode cX12_isBent 82 = .ok (.ireturn, 1) := by decide +kernel
theorem dX12_batten_0 : decode cX12_batten 0 = .ok (.iload_n 3, 1) := by decide +kernel
theorem dX12_batten_1 : decode cX12_batten 1 = .ok (.iconst (-1), 1) := by decide +kernel
theorem dX12_batten_2 : decode cX12_batten 2 = .ok (.if_icmp .eq 11, 3) := by decide +kernel
theorem dX12_batten_5 : decode cX12_batten 5 = .ok (.aload_n 0, 1) := by decide +kernel
theorem dX12_batten_6 : decode cX12_batten 6 = .ok (.iload_n 3, 1) := by decide +kernel
theorem dX12_batten_7 : decode cX12_batten 7 = .ok (.invokevirtual 344, 3) := by decide +kernel
theorem dX12_batten_10 : decode cX12_batten 10 = .ok (.ifCond .eq 12, 3) := by decide +kernel
theorem dX12_batten_13 : decode cX12_batten 13 = .ok (.aload_n 0, 1) := by decide +kernel
theorem dX12_batten_14 : decode cX12_batten 14 = .ok (.iload_n 1, 1) := by decide +kernel
theorem dX12_batten_15 : decode cX12_batten 15 = .ok (.iload_n 2, 1) := by decide +kernel
theorem dX12_batten_16 : decode cX12_batten 16 = .ok (.invokevirtual 511, 3) := by decide +kernel
theorem dX12_batten_19 : decode cX12_batten 19 = .ok (.ifCond .ne 7, 3) := by decide +kernel
theorem dX12_batten_22 : decode cX12_batten 22 = .ok (.ldc2_w 514, 3) := by decide +kernel
theorem dX12_batten_25 : decode cX12_batten 25 = .ok (.lreturn, 1) := by decide +kernel
theorem dX12_batten_26 : decode cX12_batten 26 = .ok (.iload_n 3, 1) := by decide +kernel
theorem dX12_batten_27 : decode cX12_batten 27 = .ok (.iconst (-1), 1) := by decide +kernel
theorem dX12_batten_28 : decode cX12_batten 28 = .ok (.if_icmp .ne 12, 3) := by decide +kernel
theorem dX12_batten_31 : decode cX12_batten 31 = .ok (.aload_n 0, 1) := by decide +kernel
theorem dX12_batten_32 : decode cX12_batten 32 = .ok (.getfield 124, 3) := by decide +kernel
theorem dX12_batten_35 : decode cX12_batten 35 = .ok (.iload_n 1, 1) := by decide +kernel
theorem dX12_batten_36 : decode cX12_batten 36 = .ok (.laload, 1) := by decide +kernel
theorem dX12_batten_37 : decode cX12_batten 37 = .ok (.goto 10, 3) := by decide +kernel
theorem dX12_batten_40 : decode cX12_batten 40 = .ok (.aload_n 0, 1) := by decide +kernel
theorem dX12_batten_41 : decode cX12_batten 41 = .ok (.iload_n 1, 1) := by decide +kernel
theorem dX12_batten_42 : decode cX12_batten 42 = .ok (.iload_n 3, 1) := by decide +kernel
theorem dX12_batten_43 : decode cX12_batten 43 = .ok (.invokevirtual 516, 3) := by decide +kernel
theorem dX12_batten_46 : decode cX12_batten 46 = .ok (.i2l, 1) := by decide +kernel
theorem dX12_batten_47 : decode cX12_batten 47 = .ok (.lreturn, 1) := by decide +kernel
theorem dX12_lost_0 : decode cX12_lost 0 = .ok (.iload_n 3, 1) := by decide +kernel
theorem dX12_lost_1 : decode cX12_lost 1 = .ok (.i2l, 1) := by decide +kernel
theorem dX12_lost_2 : decode cX12_lost 2 = .ok (.lconst 0, 1) := by decide +kernel
theorem dX12_lost_3 : decode cX12_lost 3 = .ok (.lconst 1, 1) := by decide +kernel
theorem dX12_lost_4 : decode cX12_lost 4 = .ok (.invokestatic 155, 3) := by decide +kernel
theorem dX12_lost_7 : decode cX12_lost 7 = .ok (.ifCond .eq 12, 3) := by decide +kernel
theorem dX12_lost_10 : decode cX12_lost 10 = .ok (.aload_n 0, 1) := by decide +kernel
theorem dX12_lost_11 : decode cX12_lost 11 = .ok (.iload_n 1, 1) := by decide +kernel
theorem dX12_lost_12 : decode cX12_lost 12 = .ok (.iload_n 2, 1) := by decide +kernel
theorem dX12_lost_13 : decode cX12_lost 13 = .ok (.invokevirtual 511, 3) := by decide +kernel
theorem dX12_lost_16 : decode cX12_lost 16 = .ok (.ifCond .ne 5, 3) := by decide +kernel
theorem dX12_lost_19 : decode cX12_lost 19 = .ok (.iconst (-1), 1) := by decide +kernel
theorem dX12_lost_20 : decode cX12_lost 20 = .ok (.ireturn, 1) := by decide +kernel
theorem dX12_lost_21 : decode cX12_lost 21 = .ok (.aload_n 0, 1) := by decide +kernel
theorem dX12_lost_22 : decode cX12_lost 22 = .ok (.iload_n 1, 1) := by decide +kernel
theorem dX12_lost_23 : decode cX12_lost 23 = .ok (.iload_n 3, 1) := by decide +kernel
theorem dX12_lost_24 : decode cX12_lost 24 = .ok (.ifCond .ne 7, 3) := by decide +kernel
theorem dX12_lost_27 : decode cX12_lost 27 = .ok (.iconst 0, 1) := by decide +kernel
theorem dX12_lost_28 : decode cX12_lost 28 = .ok (.goto 9, 3) := by decide +kernel
theorem dX12_lost_31 : decode cX12_lost 31 = .ok (.aload_n 0, 1) := by decide +kernel
theorem dX12_lost_32 : decode cX12_lost 32 = .ok (.getfield 338, 3) := by decide +kernel
theorem dX12_lost_35 : decode cX12_lost 35 = .ok (.iconst 1, 1) := by decide +kernel
theorem dX12_lost_36 : decode cX12_lost 36 = .ok (.isub, 1) := by decide +kernel
theorem dX12_lost_37 : decode cX12_lost 37 = .ok (.invokevirtual 516, 3) := by decide +kernel
theorem dX12_lost_40 : decode cX12_lost 40 = .ok (.istore 4, 2) := by decide +kernel
theorem dX12_lost_42 : decode cX12_lost 42 = .ok (.aload_n 0, 1) := by decide +kernel
theorem dX12_lost_43 : decode cX12_lost 43 = .ok (.iload_n 1, 1) := by decide +kernel
theorem dX12_lost_44 : decode cX12_lost 44 = .ok (.iload_n 3, 1) := by decide +kernel
theorem dX12_lost_45 : decode cX12_lost 45 = .ok (.ifCond .ne 7, 3) := by decide +kernel
theorem dX12_lost_48 : decode cX12_lost 48 = .ok (.iconst 1, 1) := by decide +kernel
theorem dX12_lost_49 : decode cX12_lost 49 = .ok (.goto 9, 3) := by decide +kernel
theorem dX12_lost_52 : decode cX12_lost 52 = .ok (.aload_n 0, 1) := by decide +kernel
theorem dX12_lost_53 : decode cX12_lost 53 = .ok (.getfield 338, 3) := by decide +kernel
theorem dX12_lost_56 : decode cX12_lost 56 = .ok (.iconst 2, 1) := by decide +kernel
theorem dX12_lost_57 : decode cX12_lost 57 = .ok (.isub, 1) := by decide +kernel
theorem dX12_lost_58 : decode cX12_lost 58 = .ok (.invokevirtual 516, 3) := by decide +kernel
theorem dX12_lost_61 : decode cX12_lost 61 = .ok (.istore 5, 2) := by decide +kernel
theorem dX12_lost_63 : decode cX12_lost 63 = .ok (.iload 4, 2) := by decide +kernel
theorem dX12_lost_65 : decode cX12_lost 65 = .ok (.iload 5, 2) := by decide +kernel
theorem dX12_lost_67 : decode cX12_lost 67 = .ok (.if_icmp .lt 6, 3) := by decide +kernel
theorem dX12_lost_70 : decode cX12_lost 70 = .ok (.bipush (-2), 2) := by decide +kernel
theorem dX12_lost_72 : decode cX12_lost 72 = .ok (.ireturn, 1) := by decide +kernel
theorem dX12_lost_73 : decode cX12_lost 73 = .ok (.iload 4, 2) := by decide +kernel
theorem dX12_lost_75 : decode cX12_lost 75 = .ok (.ifCond .gt 5, 3) := by decide +kernel
theorem dX12_lost_78 : decode cX12_lost 78 = .ok (.iconst 0, 1) := by decide +kernel
theorem dX12_lost_79 : decode cX12_lost 79 = .ok (.ireturn, 1) := by decide +kernel
theorem dX12_lost_80 : decode cX12_lost 80 = .ok (.iload 5, 2) := by decide +kernel
theorem dX12_lost_82 : decode cX12_lost 82 = .ok (.iload 4, 2) := by decide +kernel
theorem dX12_lost_84 : decode cX12_lost 84 = .ok (.isub, 1) := by decide +kernel
theorem dX12_lost_85 : decode cX12_lost 85 = .ok (.istore 6, 2) := by decide +kernel
theorem dX12_lost_87 : decode cX12_lost 87 = .ok (.iload 4, 2) := by decide +kernel
theorem dX12_lost_89 : decode cX12_lost 89 = .ok (.iload 6, 2) := by decide +kernel
theorem dX12_lost_91 : decode cX12_lost 91 = .ok (.iadd, 1) := by decide +kernel
theorem dX12_lost_92 : decode cX12_lost 92 = .ok (.iconst 1, 1) := by decide +kernel
theorem dX12_lost_93 : decode cX12_lost 93 = .ok (.isub, 1) := by decide +kernel
theorem dX12_lost_94 : decode cX12_lost 94 = .ok (.iload 6, 2) := by decide +kernel
theorem dX12_lost_96 : decode cX12_lost 96 = .ok (.idiv, 1) := by decide +kernel
theorem dX12_lost_97 : decode cX12_lost 97 = .ok (.ireturn, 1) := by decide +kernel
theorem dX12_size_0 : decode cX12_size 0 = .ok (.aload_n 0, 1) := by decide +kernel
theorem dX12_size_1 : decode cX12_size 1 = .ok (.iload_n 1, 1) := by decide +kernel
theorem dX12_size_2 : decode cX12_size 2 = .ok (.iload_n 2, 1) := by decide +kernel
theorem dX12_size_3 : decode cX12_size 3 = .ok (.iload_n 3, 1) := by decide +kernel
theorem dX12_size_4 : decode cX12_size 4 = .ok (.invokevirtual 402, 3) := by decide +kernel
theorem dX12_size_7 : decode cX12_size 7 = .ok (.ifCond .eq 16, 3) := by decide +kernel
theorem dX12_size_10 : decode cX12_size 10 = .ok (.iload 4, 2) := by decide +kernel
theorem dX12_size_12 : decode cX12_size 12 = .ok (.i2l, 1) := by decide +kernel
theorem dX12_size_13 : decode cX12_size 13 = .ok (.lconst 0, 1) := by decide +kernel
theorem dX12_size_14 : decode cX12_size 14 = .ok (.ldc2_w 519, 3) := by decide +kernel
theorem dX12_size_17 : decode cX12_size 17 = .ok (.invokestatic 155, 3) := by decide +kernel
theorem dX12_size_20 : decode cX12_size 20 = .ok (.ifCond .ne 5, 3) := by decide +kernel
theorem dX12_size_23 : decode cX12_size 23 = .ok (.iconst 0, 1) := by decide +kernel
theorem dX12_size_24 : decode cX12_size 24 = .ok (.ireturn, 1) := by decide +kernel
theorem dX12_size_25 : decode cX12_size 25 = .ok (.iload_n 1, 1) := by decide +kernel
theorem dX12_size_26 : decode cX12_size 26 = .ok (.iload_n 2, 1) := by decide +kernel
theorem dX12_size_27 : decode cX12_size 27 = .ok (.iload_n 3, 1) := by decide +kernel
theorem dX12_size_28 : decode cX12_size 28 = .ok (.invokestatic 350, 3) := by decide +kernel
theorem dX12_size_31 : decode cX12_size 31 = .ok (.istore 5, 2) := by decide +kernel
theorem dX12_size_33 : decode cX12_size 33 = .ok (.aload_n 0, 1) := by decide +kernel
theorem dX12_size_34 : decode cX12_size 34 = .ok (.getfield 372, 3) := by decide +kernel
theorem dX12_size_37 : decode cX12_size 37 = .ok (.aload_n 0, 1) := by decide +kernel
theorem dX12_size_38 : decode cX12_size 38 = .ok (.getfield 79, 3) := by decide +kernel
theorem dX12_size_41 : decode cX12_size 41 = .ok (.iload 5, 2) := by decide +kernel
theorem dX12_size_43 : decode cX12_size 43 = .ok (.iaload, 1) := by decide +kernel
theorem dX12_size_44 : decode cX12_size 44 = .ok (.ifCond .le 7, 3) := by decide +kernel
theorem dX12_size_47 : decode cX12_size 47 = .ok (.iconst 1, 1) := by decide +kernel
theorem dX12_size_48 : decode cX12_size 48 = .ok (.goto 4, 3) := by decide +kernel
theorem dX12_size_51 : decode cX12_size 51 = .ok (.iconst 0, 1) := by decide +kernel
theorem dX12_size_52 : decode cX12_size 52 = .ok (.isub, 1) := by decide +kernel
theorem dX12_size_53 : decode cX12_size 53 = .ok (.istore 6, 2) := by decide +kernel
theorem dX12_size_55 : decode cX12_size 55 = .ok (.iload 4, 2) := by decide +kernel
theorem dX12_size_57 : decode cX12_size 57 = .ok (.ifCond .le 12, 3) := by decide +kernel
theorem dX12_size_60 : decode cX12_size 60 = .ok (.iload 6, 2) := by decide +kernel
theorem dX12_size_62 : decode cX12_size 62 = .ok (.bipush 60, 2) := by decide +kernel
theorem dX12_size_64 : decode cX12_size 64 = .ok (.if_icmp .ne 5, 3) := by decide +kernel
theorem dX12_size_67 : decode cX12_size 67 = .ok (.iconst 0, 1) := by decide +kernel
theorem dX12_size_68 : decode cX12_size 68 = .ok (.ireturn, 1) := by decide +kernel
theorem dX12_size_69 : decode cX12_size 69 = .ok (.aload_n 0, 1) := by decide +kernel
theorem dX12_size_70 : decode cX12_size 70 = .ok (.iload 6, 2) := by decide +kernel
theorem dX12_size_72 : decode cX12_size 72 = .ok (.iload 4, 2) := by decide +kernel
theorem dX12_size_74 : decode cX12_size 74 = .ok (.ifCond .le 7, 3) := by decide +kernel
theorem dX12_size_77 : decode cX12_size 77 = .ok (.iconst 1, 1) := by decide +kernel
theorem dX12_size_78 : decode cX12_size 78 = .ok (.goto 4, 3) := by decide +kernel
theorem dX12_size_81 : decode cX12_size 81 = .ok (.iconst 0, 1) := by decide +kernel
theorem dX12_size_82 : decode cX12_size 82 = .ok (.iadd, 1) := by decide +kernel
theorem dX12_size_83 : decode cX12_size 83 = .ok (.putfield 372, 3) := by decide +kernel
theorem dX12_size_86 : decode cX12_size 86 = .ok (.aload_n 0, 1) := by decide +kernel
theorem dX12_size_87 : decode cX12_size 87 = .ok (.getfield 79, 3) := by decide +kernel
theorem dX12_size_90 : decode cX12_size 90 = .ok (.iload 5, 2) := by decide +kernel
theorem dX12_size_92 : decode cX12_size 92 = .ok (.iload 4, 2) := by decide +kernel
theorem dX12_size_94 : decode cX12_size 94 = .ok (.iastore, 1) := by decide +kernel
theorem dX12_size_95 : decode cX12_size 95 = .ok (.iconst 1, 1) := by decide +kernel
theorem dX12_size_96 : decode cX12_size 96 = .ok (.ireturn, 1) := by decide +kernel
theorem dX12_repairs_0 : decode cX12_repairs 0 = .ok (.aload_n 0, 1) := by decide +kernel
theorem dX12_repairs_1 : decode cX12_repairs 1 = .ok (.iload_n 1, 1) := by decide +kernel
theorem dX12_repairs_2 : decode cX12_repairs 2 = .ok (.invokevirtual 347, 3) := by decide +kernel
theorem dX12_repairs_5 : decode cX12_repairs 5 = .ok (.ifCond .eq 27, 3) := by decide +kernel
theorem dX12_repairs_8 : decode cX12_repairs 8 = .ok (.iload_n 2, 1) := by decide +kernel
theorem dX12_repairs_9 : decode cX12_repairs 9 = .ok (.i2l, 1) := by decide +kernel
theorem dX12_repairs_10 : decode cX12_repairs 10 = .ok (.lconst 0, 1) := by decide +kernel
theorem dX12_repairs_11 : decode cX12_repairs 11 = .ok (.ldc2_w 519, 3) := by decide +kernel
theorem dX12_repairs_14 : decode cX12_repairs 14 = .ok (.invokestatic 155, 3) := by decide +kernel
theorem dX12_repairs_17 : decode cX12_repairs 17 = .ok (.ifCond .eq 15, 3) := by decide +kernel
theorem dX12_repairs_20 : decode cX12_repairs 20 = .ok (.iload_n 3, 1) := by decide +kernel
theorem dX12_repairs_21 : decode cX12_repairs 21 = .ok (.i2l, 1) := by decide +kernel
theorem dX12_repairs_22 : decode cX12_repairs 22 = .ok (.lconst 0, 1) := by decide +kernel
theorem dX12_repairs_23 : decode cX12_repairs 23 = .ok (.ldc2_w 363, 3) := by decide +kernel
theorem dX12_repairs_26 : decode cX12_repairs 26 = .ok (.invokestatic 155, 3) := by decide +kernel
theorem dX12_repairs_29 : decode cX12_repairs 29 = .ok (.ifCond .ne 7, 3) := by decide +kernel
theorem dX12_repairs_32 : decode cX12_repairs 32 = .ok (.ldc2_w 492, 3) := by decide +kernel
theorem dX12_repairs_35 : decode cX12_repairs 35 = .ok (.lreturn, 1) := by decide +kernel
theorem dX12_repairs_36 : decode cX12_repairs 36 = .ok (.aload_n 0, 1) := by decide +kernel
theorem dX12_repairs_37 : decode cX12_repairs 37 = .ok (.invokevirtual 521, 3) := by decide +kernel
theorem dX12_repairs_40 : decode cX12_repairs 40 = .ok (.istore 4, 2) := by decide +kernel
theorem dX12_repairs_42 : decode cX12_repairs 42 = .ok (.iconst 0, 1) := by decide +kernel
theorem dX12_repairs_43 : decode cX12_repairs 43 = .ok (.istore 5, 2) := by decide +kernel
theorem dX12_repairs_45 : decode cX12_repairs 45 = .ok (.iconst 0, 1) := by decide +kernel
theorem dX12_repairs_46 : decode cX12_repairs 46 = .ok (.istore 6, 2) := by decide +kernel
theorem dX12_repairs_48 : decode cX12_repairs 48 = .ok (.iconst 0, 1) := by decide +kernel
theorem dX12_repairs_49 : decode cX12_repairs 49 = .ok (.istore 7, 2) := by decide +kernel
theorem dX12_repairs_51 : decode cX12_repairs 51 = .ok (.iconst 0, 1) := by decide +kernel
theorem dX12_repairs_52 : decode cX12_repairs 52 = .ok (.istore 8, 2) := by decide +kernel
theorem dX12_repairs_54 : decode cX12_repairs 54 = .ok (.iload 8, 2) := by decide +kernel
theorem dX12_repairs_56 : decode cX12_repairs 56 = .ok (.aload_n 0, 1) := by decide +kernel
theorem dX12_repairs_57 : decode cX12_repairs 57 = .ok (.getfield 338, 3) := by decide +kernel
theorem dX12_repairs_60 : decode cX12_repairs 60 = .ok (.if_icmp .ge 137, 3) := by decide +kernel
theorem dX12_repairs_63 : decode cX12_repairs 63 = .ok (.iconst 0, 1) := by decide +kernel
theorem dX12_repairs_64 : decode cX12_repairs 64 = .ok (.istore 9, 2) := by decide +kernel
theorem dX12_repairs_66 : decode cX12_repairs 66 = .ok (.iload 9, 2) := by decide +kernel
theorem dX12_repairs_68 : decode cX12_repairs 68 = .ok (.aload_n 0, 1) := by decide +kernel
theorem dX12_repairs_69 : decode cX12_repairs 69 = .ok (.getfield 341, 3) := by decide +kernel
theorem dX12_repairs_72 : decode cX12_repairs 72 = .ok (.if_icmp .ge 119, 3) := by decide +kernel
theorem dX12_repairs_75 : decode cX12_repairs 75 = .ok (.iconst 0, 1) := by decide +kernel
theorem dX12_repairs_76 : decode cX12_repairs 76 = .ok (.istore 10, 2) := by decide +kernel
theorem dX12_repairs_78 : decode cX12_repairs 78 = .ok (.iload 10, 2) := by decide +kernel
theorem dX12_repairs_80 : decode cX12_repairs 80 = .ok (.iconst 2, 1) := by decide +kernel
theorem dX12_repairs_81 : decode cX12_repairs 81 = .ok (.if_icmp .ge 104, 3) := by decide +kernel
theorem dX12_repairs_84 : decode cX12_repairs 84 = .ok (.aload_n 0, 1) := by decide +kernel
theorem dX12_repairs_85 : decode cX12_repairs 85 = .ok (.getfield 79, 3) := by decide +kernel
theorem dX12_repairs_88 : decode cX12_repairs 88 = .ok (.iload 8, 2) := by decide +kernel
theorem dX12_repairs_90 : decode cX12_repairs 90 = .ok (.iload 9, 2) := by decide +kernel
theorem dX12_repairs_92 : decode cX12_repairs 92 = .ok (.iload 10, 2) := by decide +kernel
theorem dX12_repairs_94 : decode cX12_repairs 94 = .ok (.invokestatic 350, 3) := by decide +kernel
theorem dX12_repairs_97 : decode cX12_repairs 97 = .ok (.iaload, 1) := by decide +kernel
theorem dX12_repairs_98 : decode cX12_repairs 98 = .ok (.istore 11, 2) := by decide +kernel
theorem dX12_repairs_100 : decode cX12_repairs 100 = .ok (.iload 11, 2) := by decide +kernel
theorem dX12_repairs_102 : decode cX12_repairs 102 = .ok (.ifCond .ne 6, 3) := by decide +kernel
theorem dX12_repairs_105 : decode cX12_repairs 105 = .ok (.goto 74, 3) := by decide +kernel
theorem dX12_repairs_108 : decode cX12_repairs 108 = .ok (.iload 11, 2) := by decide +kernel
theorem dX12_repairs_110 : decode cX12_repairs 110 = .ok (.iload 4, 2) := by decide +kernel
theorem dX12_repairs_112 : decode cX12_repairs 112 = .ok (.isub, 1) := by decide +kernel
theorem dX12_repairs_113 : decode cX12_repairs 113 = .ok (.invokestatic 443, 3) := by decide +kernel
theorem dX12_repairs_116 : decode cX12_repairs 116 = .ok (.iload_n 2, 1) := by decide +kernel
theorem dX12_repairs_117 : decode cX12_repairs 117 = .ok (.if_icmp .le 7, 3) := by decide +kernel
theorem dX12_repairs_120 : decode cX12_repairs 120 = .ok (.iconst 1, 1) := by decide +kernel
theorem dX12_repairs_121 : decode cX12_repairs 121 = .ok (.goto 4, 3) := by decide +kernel
theorem dX12_repairs_124 : decode cX12_repairs 124 = .ok (.iconst 0, 1) := by decide +kernel
theorem dX12_repairs_125 : decode cX12_repairs 125 = .ok (.istore 12, 2) := by decide +kernel
theorem dX12_repairs_127 : decode cX12_repairs 127 = .ok (.iload 5, 2) := by decide +kernel
theorem dX12_repairs_129 : decode cX12_repairs 129 = .ok (.iload 12, 2) := by decide +kernel
theorem dX12_repairs_131 : decode cX12_repairs 131 = .ok (.ifCond .eq 7, 3) := by decide +kernel
theorem dX12_repairs_134 : decode cX12_repairs 134 = .ok (.iconst 1, 1) := by decide +kernel
theorem dX12_repairs_135 : decode cX12_repairs 135 = .ok (.goto 4, 3) := by decide +kernel
theorem dX12_repairs_138 : decode cX12_repairs 138 = .ok (.iconst 0, 1) := by decide +kernel
theorem dX12_repairs_139 : decode cX12_repairs 139 = .ok (.iadd, 1) := by decide +kernel
theorem dX12_repairs_140 : decode cX12_repairs 140 = .ok (.istore 5, 2) := by decide +kernel
theorem dX12_repairs_142 : decode cX12_repairs 142 = .ok (.iload 6, 2) := by decide +kernel
theorem dX12_repairs_144 : decode cX12_repairs 144 = .ok (.iload 9, 2) := by decide +kernel
theorem dX12_repairs_146 : decode cX12_repairs 146 = .ok (.iload_n 1, 1) := by decide +kernel
theorem dX12_repairs_147 : decode cX12_repairs 147 = .ok (.if_icmp .ne 7, 3) := by decide +kernel
theorem dX12_repairs_150 : decode cX12_repairs 150 = .ok (.iconst 1, 1) := by decide +kernel
theorem dX12_repairs_151 : decode cX12_repairs 151 = .ok (.goto 4, 3) := by decide +kernel
theorem dX12_repairs_154 : decode cX12_repairs 154 = .ok (.iconst 0, 1) := by decide +kernel
theorem dX12_repairs_155 : decode cX12_repairs 155 = .ok (.iadd, 1) := by decide +kernel
theorem dX12_repairs_156 : decode cX12_repairs 156 = .ok (.istore 6, 2) := by decide +kernel
theorem dX12_repairs_158 : decode cX12_repairs 158 = .ok (.iload 7, 2) := by decide +kernel
theorem dX12_repairs_160 : decode cX12_repairs 160 = .ok (.iload 12, 2) := by decide +kernel
theorem dX12_repairs_162 : decode cX12_repairs 162 = .ok (.ifCond .eq 13, 3) := by decide +kernel
theorem dX12_repairs_165 : decode cX12_repairs 165 = .ok (.iload 9, 2) := by decide +kernel
theorem dX12_repairs_167 : decode cX12_repairs 167 = .ok (.iload_n 1, 1) := by decide +kernel
theorem dX12_repairs_168 : decode cX12_repairs 168 = .ok (.if_icmp .ne 7, 3) := by decide +kernel
theorem dX12_repairs_171 : decode cX12_repairs 171 = .ok (.iconst 1, 1) := by decide +kernel
theorem dX12_repairs_172 : decode cX12_repairs 172 = .ok (.goto 4, 3) := by decide +kernel
theorem dX12_repairs_175 : decode cX12_repairs 175 = .ok (.iconst 0, 1) := by decide +kernel
theorem dX12_repairs_176 : decode cX12_repairs 176 = .ok (.iadd, 1) := by decide +kernel
theorem dX12_repairs_177 : decode cX12_repairs 177 = .ok (.istore 7, 2) := by decide +kernel
theorem dX12_repairs_179 : decode cX12_repairs 179 = .ok (.iinc 10 1, 3) := by decide +kernel
theorem dX12_repairs_182 : decode cX12_repairs 182 = .ok (.goto (-104), 3) := by decide +kernel
theorem dX12_repairs_185 : decode cX12_repairs 185 = .ok (.iinc 9 1, 3) := by decide +kernel
theorem dX12_repairs_188 : decode cX12_repairs 188 = .ok (.goto (-122), 3) := by decide +kernel
theorem dX12_repairs_191 : decode cX12_repairs 191 = .ok (.iinc 8 1, 3) := by decide +kernel
theorem dX12_repairs_194 : decode cX12_repairs 194 = .ok (.goto (-140), 3) := by decide +kernel
theorem dX12_repairs_197 : decode cX12_repairs 197 = .ok (.iload_n 3, 1) := by decide +kernel
theorem dX12_repairs_198 : decode cX12_repairs 198 = .ok (.iconst 2, 1) := by decide +kernel
theorem dX12_repairs_199 : decode cX12_repairs 199 = .ok (.if_icmp .ge 17, 3) := by decide +kernel
theorem dX12_repairs_202 : decode cX12_repairs 202 = .ok (.iload_n 3, 1) := by decide +kernel
theorem dX12_repairs_203 : decode cX12_repairs 203 = .ok (.ifCond .ne 9, 3) := by decide +kernel
theorem dX12_repairs_206 : decode cX12_repairs 206 = .ok (.iload 7, 2) := by decide +kernel
theorem dX12_repairs_208 : decode cX12_repairs 208 = .ok (.i2l, 1) := by decide +kernel
theorem dX12_repairs_209 : decode cX12_repairs 209 = .ok (.goto 6, 3) := by decide +kernel
theorem dX12_repairs_212 : decode cX12_repairs 212 = .ok (.iload 6, 2) := by decide +kernel
theorem dX12_repairs_214 : decode cX12_repairs 214 = .ok (.i2l, 1) := by decide +kernel
theorem dX12_repairs_215 : decode cX12_repairs 215 = .ok (.lreturn, 1) := by decide +kernel
theorem dX12_repairs_216 : decode cX12_repairs 216 = .ok (.lconst 0, 1) := by decide +kernel
theorem dX12_repairs_217 : decode cX12_repairs 217 = .ok (.lstore 8, 2) := by decide +kernel
theorem dX12_repairs_219 : decode cX12_repairs 219 = .ok (.iload 7, 2) := by decide +kernel
theorem dX12_repairs_221 : decode cX12_repairs 221 = .ok (.istore 10, 2) := by decide +kernel
theorem dX12_repairs_223 : decode cX12_repairs 223 = .ok (.iload 10, 2) := by decide +kernel
theorem dX12_repairs_225 : decode cX12_repairs 225 = .ok (.iload 6, 2) := by decide +kernel
theorem dX12_repairs_227 : decode cX12_repairs 227 = .ok (.if_icmp .gt 37, 3) := by decide +kernel
theorem dX12_repairs_230 : decode cX12_repairs 230 = .ok (.lload 8, 2) := by decide +kernel
theorem dX12_repairs_232 : decode cX12_repairs 232 = .ok (.iload 5, 2) := by decide +kernel
theorem dX12_repairs_234 : decode cX12_repairs 234 = .ok (.iload 10, 2) := by decide +kernel
theorem dX12_repairs_236 : decode cX12_repairs 236 = .ok (.invokestatic 524, 3) := by decide +kernel
theorem dX12_repairs_239 : decode cX12_repairs 239 = .ok (.aload_n 0, 1) := by decide +kernel
theorem dX12_repairs_240 : decode cX12_repairs 240 = .ok (.getfield 372, 3) := by decide +kernel
theorem dX12_repairs_243 : decode cX12_repairs 243 = .ok (.iload 5, 2) := by decide +kernel
theorem dX12_repairs_245 : decode cX12_repairs 245 = .ok (.isub, 1) := by decide +kernel
theorem dX12_repairs_246 : decode cX12_repairs 246 = .ok (.iload 6, 2) := by decide +kernel
theorem dX12_repairs_248 : decode cX12_repairs 248 = .ok (.iload 10, 2) := by decide +kernel
theorem dX12_repairs_250 : decode cX12_repairs 250 = .ok (.isub, 1) := by decide +kernel
theorem dX12_repairs_251 : decode cX12_repairs 251 = .ok (.invokestatic 524, 3) := by decide +kernel
theorem dX12_repairs_254 : decode cX12_repairs 254 = .ok (.lmul, 1) := by decide +kernel
theorem dX12_repairs_255 : decode cX12_repairs 255 = .ok (.ladd, 1) := by decide +kernel
theorem dX12_repairs_256 : decode cX12_repairs 256 = .ok (.lstore 8, 2) := by decide +kernel
theorem dX12_repairs_258 : decode cX12_repairs 258 = .ok (.iinc 10 1, 3) := by decide +kernel
theorem dX12_repairs_261 : decode cX12_repairs 261 = .ok (.goto (-38), 3) := by decide +kernel
theorem dX12_repairs_264 : decode cX12_repairs 264 = .ok (.aload_n 0, 1) := by decide +kernel
theorem dX12_repairs_265 : decode cX12_repairs 265 = .ok (.getfield 372, 3) := by decide +kernel
theorem dX12_repairs_268 : decode cX12_repairs 268 = .ok (.iload 6, 2) := by decide +kernel
theorem dX12_repairs_270 : decode cX12_repairs 270 = .ok (.invokestatic 524, 3) := by decide +kernel
theorem dX12_repairs_273 : decode cX12_repairs 273 = .ok (.lstore 10, 2) := by decide +kernel
theorem dX12_repairs_275 : decode cX12_repairs 275 = .ok (.lload 8, 2) := by decide +kernel
theorem dX12_repairs_277 : decode cX12_repairs 277 = .ok (.lload 10, 2) := by decide +kernel
theorem dX12_repairs_279 : decode cX12_repairs 279 = .ok (.invokestatic 528, 3) := by decide +kernel
theorem dX12_repairs_282 : decode cX12_repairs 282 = .ok (.lstore 12, 2) := by decide +kernel
theorem dX12_repairs_284 : decode cX12_repairs 284 = .ok (.iload_n 3, 1) := by decide +kernel
theorem dX12_repairs_285 : decode cX12_repairs 285 = .ok (.iconst 2, 1) := by decide +kernel
theorem dX12_repairs_286 : decode cX12_repairs 286 = .ok (.if_icmp .ne 11, 3) := by decide +kernel
theorem dX12_repairs_289 : decode cX12_repairs 289 = .ok (.lload 8, 2) := by decide +kernel
theorem dX12_repairs_291 : decode cX12_repairs 291 = .ok (.lload 12, 2) := by decide +kernel
theorem dX12_repairs_293 : decode cX12_repairs 293 = .ok (.ldiv, 1) := by decide +kernel
theorem dX12_repairs_294 : decode cX12_repairs 294 = .ok (.goto 8, 3) := by decide +kernel
theorem dX12_repairs_297 : decode cX12_repairs 297 = .ok (.lload 10, 2) := by decide +kernel
theorem dX12_repairs_299 : decode cX12_repairs 299 = .ok (.lload 12, 2) := by decide +kernel
theorem dX12_repairs_301 : decode cX12_repairs 301 = .ok (.ldiv, 1) := by decide +kernel
theorem dX12_repairs_302 : decode cX12_repairs 302 = .ok (.lreturn, 1) := by decide +kernel
theorem dX12_thole_0 : decode cX12_thole 0 = .ok (.aload_n 0, 1) := by decide +kernel
theorem dX12_thole_1 : decode cX12_thole 1 = .ok (.iload_n 1, 1) := by decide +kernel
theorem dX12_thole_2 : decode cX12_thole 2 = .ok (.invokevirtual 344, 3) := by decide +kernel
theorem dX12_thole_5 : decode cX12_thole 5 = .ok (.ifCond .eq 25, 3) := by decide +kernel
theorem dX12_thole_8 : decode cX12_thole 8 = .ok (.iload_n 2, 1) := by decide +kernel
theorem dX12_thole_9 : decode cX12_thole 9 = .ok (.i2l, 1) := by decide +kernel
theorem dX12_thole_10 : decode cX12_thole 10 = .ok (.lconst 0, 1) := by decide +kernel
theorem dX12_thole_11 : decode cX12_thole 11 = .ok (.lconst 1, 1) := by decide +kernel
theorem dX12_thole_12 : decode cX12_thole 12 = .ok (.invokestatic 155, 3) := by decide +kernel
theorem dX12_thole_15 : decode cX12_thole 15 = .ok (.ifCond .eq 15, 3) := by decide +kernel
theorem dX12_thole_18 : decode cX12_thole 18 = .ok (.iload_n 3, 1) := by decide +kernel
theorem dX12_thole_19 : decode cX12_thole 19 = .ok (.i2l, 1) := by decide +kernel
theorem dX12_thole_20 : decode cX12_thole 20 = .ok (.ldc2_w 492, 3) := by decide +kernel
theorem dX12_thole_23 : decode cX12_thole 23 = .ok (.lconst 1, 1) := by decide +kernel
theorem dX12_thole_24 : decode cX12_thole 24 = .ok (.invokestatic 155, 3) := by decide +kernel
theorem dX12_thole_27 : decode cX12_thole 27 = .ok (.ifCond .ne 5, 3) := by decide +kernel
theorem dX12_thole_30 : decode cX12_thole 30 = .ok (.iconst 0, 1) := by decide +kernel
theorem dX12_thole_31 : decode cX12_thole 31 = .ok (.ireturn, 1) := by decide +kernel
theorem dX12_thole_32 : decode cX12_thole 32 = .ok (.aload_n 0, 1) := by decide +kernel
theorem dX12_thole_33 : decode cX12_thole 33 = .ok (.getfield 135, 3) := by decide +kernel
theorem dX12_thole_36 : decode cX12_thole 36 = .ok (.iconst 2, 1) := by decide +kernel
theorem dX12_thole_37 : decode cX12_thole 37 = .ok (.iload_n 1, 1) := by decide +kernel
theorem dX12_thole_38 : decode cX12_thole 38 = .ok (.imul, 1) := by decide +kernel
theorem dX12_thole_39 : decode cX12_thole 39 = .ok (.iload_n 2, 1) := by decide +kernel
theorem dX12_thole_40 : decode cX12_thole 40 = .ok (.iadd, 1) := by decide +kernel
theorem dX12_thole_41 : decode cX12_thole 41 = .ok (.iload_n 3, 1) := by decide +kernel
theorem dX12_thole_42 : decode cX12_thole 42 = .ok (.iastore, 1) := by decide +kernel
theorem dX12_thole_43 : decode cX12_thole 43 = .ok (.iconst 1, 1) := by decide +kernel
theorem dX12_thole_44 : decode cX12_thole 44 = .ok (.ireturn, 1) := by decide +kernel
theorem dX12_oars_0 : decode cX12_oars 0 = .ok (.aload_n 0, 1) := by decide +kernel
theorem dX12_oars_1 : decode cX12_oars 1 = .ok (.getfield 338, 3) := by decide +kernel
theorem dX12_oars_4 : decode cX12_oars 4 = .ok (.ifCond .eq 15, 3) := by decide +kernel
theorem dX12_oars_7 : decode cX12_oars 7 = .ok (.iload_n 1, 1) := by decide +kernel
theorem dX12_oars_8 : decode cX12_oars 8 = .ok (.i2l, 1) := by decide +kernel
theorem dX12_oars_9 : decode cX12_oars 9 = .ok (.lconst 0, 1) := by decide +kernel
theorem dX12_oars_10 : decode cX12_oars 10 = .ok (.ldc2_w 363, 3) := by decide +kernel
theorem dX12_oars_13 : decode cX12_oars 13 = .ok (.invokestatic 155, 3) := by decide +kernel
theorem dX12_oars_16 : decode cX12_oars 16 = .ok (.ifCond .ne 5, 3) := by decide +kernel
theorem dX12_oars_19 : decode cX12_oars 19 = .ok (.iconst (-1), 1) := by decide +kernel
theorem dX12_oars_20 : decode cX12_oars 20 = .ok (.ireturn, 1) := by decide +kernel
theorem dX12_oars_21 : decode cX12_oars 21 = .ok (.iconst 0, 1) := by decide +kernel
theorem dX12_oars_22 : decode cX12_oars 22 = .ok (.istore_n 2, 1) := by decide +kernel
theorem dX12_oars_23 : decode cX12_oars 23 = .ok (.iconst 0, 1) := by decide +kernel
theorem dX12_oars_24 : decode cX12_oars 24 = .ok (.istore_n 3, 1) := by decide +kernel
theorem dX12_oars_25 : decode cX12_oars 25 = .ok (.iconst 0, 1) := by decide +kernel
theorem dX12_oars_26 : decode cX12_oars 26 = .ok (.istore 4, 2) := by decide +kernel
theorem dX12_oars_28 : decode cX12_oars 28 = .ok (.iload 4, 2) := by decide +kernel
theorem dX12_oars_30 : decode cX12_oars 30 = .ok (.aload_n 0, 1) := by decide +kernel
theorem dX12_oars_31 : decode cX12_oars 31 = .ok (.getfield 338, 3) := by decide +kernel
theorem dX12_oars_34 : decode cX12_oars 34 = .ok (.if_icmp .ge 67, 3) := by decide +kernel
theorem dX12_oars_37 : decode cX12_oars 37 = .ok (.iload_n 2, 1) := by decide +kernel
theorem dX12_oars_38 : decode cX12_oars 38 = .ok (.aload_n 0, 1) := by decide +kernel
theorem dX12_oars_39 : decode cX12_oars 39 = .ok (.iload 4, 2) := by decide +kernel
theorem dX12_oars_41 : decode cX12_oars 41 = .ok (.iconst 0, 1) := by decide +kernel
theorem dX12_oars_42 : decode cX12_oars 42 = .ok (.invokevirtual 532, 3) := by decide +kernel
theorem dX12_oars_45 : decode cX12_oars 45 = .ok (.iconst 1, 1) := by decide +kernel
theorem dX12_oars_46 : decode cX12_oars 46 = .ok (.if_icmp .ne 18, 3) := by decide +kernel
theorem dX12_oars_49 : decode cX12_oars 49 = .ok (.aload_n 0, 1) := by decide +kernel
theorem dX12_oars_50 : decode cX12_oars 50 = .ok (.iload 4, 2) := by decide +kernel
theorem dX12_oars_52 : decode cX12_oars 52 = .ok (.iconst 1, 1) := by decide +kernel
theorem dX12_oars_53 : decode cX12_oars 53 = .ok (.invokevirtual 532, 3) := by decide +kernel
theorem dX12_oars_56 : decode cX12_oars 56 = .ok (.iconst 1, 1) := by decide +kernel
theorem dX12_oars_57 : decode cX12_oars 57 = .ok (.if_icmp .ne 7, 3) := by decide +kernel
theorem dX12_oars_60 : decode cX12_oars 60 = .ok (.iconst 1, 1) := by decide +kernel
theorem dX12_oars_61 : decode cX12_oars 61 = .ok (.goto 4, 3) := by decide +kernel
theorem dX12_oars_64 : decode cX12_oars 64 = .ok (.iconst 0, 1) := by decide +kernel
theorem dX12_oars_65 : decode cX12_oars 65 = .ok (.iadd, 1) := by decide +kernel
theorem dX12_oars_66 : decode cX12_oars 66 = .ok (.istore_n 2, 1) := by decide +kernel
theorem dX12_oars_67 : decode cX12_oars 67 = .ok (.iload_n 3, 1) := by decide +kernel
theorem dX12_oars_68 : decode cX12_oars 68 = .ok (.aload_n 0, 1) := by decide +kernel
theorem dX12_oars_69 : decode cX12_oars 69 = .ok (.iload 4, 2) := by decide +kernel
theorem dX12_oars_71 : decode cX12_oars 71 = .ok (.iconst 0, 1) := by decide +kernel
theorem dX12_oars_72 : decode cX12_oars 72 = .ok (.invokevirtual 532, 3) := by decide +kernel
theorem dX12_oars_75 : decode cX12_oars 75 = .ok (.ifCond .eq 17, 3) := by decide +kernel
theorem dX12_oars_78 : decode cX12_oars 78 = .ok (.aload_n 0, 1) := by decide +kernel
theorem dX12_oars_79 : decode cX12_oars 79 = .ok (.iload 4, 2) := by decide +kernel
theorem dX12_oars_81 : decode cX12_oars 81 = .ok (.iconst 1, 1) := by decide +kernel
theorem dX12_oars_82 : decode cX12_oars 82 = .ok (.invokevirtual 532, 3) := by decide +kernel
theorem dX12_oars_85 : decode cX12_oars 85 = .ok (.ifCond .eq 7, 3) := by decide +kernel
theorem dX12_oars_88 : decode cX12_oars 88 = .ok (.iconst 1, 1) := by decide +kernel
theorem dX12_oars_89 : decode cX12_oars 89 = .ok (.goto 4, 3) := by decide +kernel
theorem dX12_oars_92 : decode cX12_oars 92 = .ok (.iconst 0, 1) := by decide +kernel
theorem dX12_oars_93 : decode cX12_oars 93 = .ok (.iadd, 1) := by decide +kernel
theorem dX12_oars_94 : decode cX12_oars 94 = .ok (.istore_n 3, 1) := by decide +kernel
theorem dX12_oars_95 : decode cX12_oars 95 = .ok (.iinc 4 1, 3) := by decide +kernel
theorem dX12_oars_98 : decode cX12_oars 98 = .ok (.goto (-70), 3) := by decide +kernel
theorem dX12_oars_101 : decode cX12_oars 101 = .ok (.iload_n 1, 1) := by decide +kernel
theorem dX12_oars_102 : decode cX12_oars 102 = .ok (.ifCond .ne 7, 3) := by decide +kernel
theorem dX12_oars_105 : decode cX12_oars 105 = .ok (.iload_n 2, 1) := by decide +kernel
theorem dX12_oars_106 : decode cX12_oars 106 = .ok (.goto 36, 3) := by decide +kernel
theorem dX12_oars_109 : decode cX12_oars 109 = .ok (.iload_n 1, 1) := by decide +kernel
theorem dX12_oars_110 : decode cX12_oars 110 = .ok (.iconst 1, 1) := by decide +kernel
theorem dX12_oars_111 : decode cX12_oars 111 = .ok (.if_icmp .ne 7, 3) := by decide +kernel
theorem dX12_oars_114 : decode cX12_oars 114 = .ok (.iload_n 3, 1) := by decide +kernel
theorem dX12_oars_115 : decode cX12_oars 115 = .ok (.goto 27, 3) := by decide +kernel
theorem dX12_oars_118 : decode cX12_oars 118 = .ok (.iload_n 1, 1) := by decide +kernel
theorem dX12_oars_119 : decode cX12_oars 119 = .ok (.iconst 2, 1) := by decide +kernel
theorem dX12_oars_120 : decode cX12_oars 120 = .ok (.if_icmp .ne 17, 3) := by decide +kernel
theorem dX12_oars_123 : decode cX12_oars 123 = .ok (.aload_n 0, 1) := by decide +kernel
theorem dX12_oars_124 : decode cX12_oars 124 = .ok (.iconst 0, 1) := by decide +kernel
theorem dX12_oars_125 : decode cX12_oars 125 = .ok (.invokevirtual 535, 3) := by decide +kernel
theorem dX12_oars_128 : decode cX12_oars 128 = .ok (.aload_n 0, 1) := by decide +kernel
theorem dX12_oars_129 : decode cX12_oars 129 = .ok (.iconst 1, 1) := by decide +kernel
theorem dX12_oars_130 : decode cX12_oars 130 = .ok (.invokevirtual 535, 3) := by decide +kernel
theorem dX12_oars_133 : decode cX12_oars 133 = .ok (.iadd, 1) := by decide +kernel
theorem dX12_oars_134 : decode cX12_oars 134 = .ok (.goto 8, 3) := by decide +kernel
theorem dX12_oars_137 : decode cX12_oars 137 = .ok (.aload_n 0, 1) := by decide +kernel
theorem dX12_oars_138 : decode cX12_oars 138 = .ok (.iconst 1, 1) := by decide +kernel
theorem dX12_oars_139 : decode cX12_oars 139 = .ok (.invokevirtual 535, 3) := by decide +kernel
theorem dX12_oars_142 : decode cX12_oars 142 = .ok (.ireturn, 1) := by decide +kernel
theorem dX12_pair_0 : decode cX12_pair 0 = .ok (.aload_n 0, 1) := by decide +kernel
theorem dX12_pair_1 : decode cX12_pair 1 = .ok (.iload_n 1, 1) := by decide +kernel
theorem dX12_pair_2 : decode cX12_pair 2 = .ok (.invokevirtual 344, 3) := by decide +kernel
theorem dX12_pair_5 : decode cX12_pair 5 = .ok (.ifCond .eq 13, 3) := by decide +kernel
theorem dX12_pair_8 : decode cX12_pair 8 = .ok (.iload_n 2, 1) := by decide +kernel
theorem dX12_pair_9 : decode cX12_pair 9 = .ok (.i2l, 1) := by decide +kernel
theorem dX12_pair_10 : decode cX12_pair 10 = .ok (.lconst 0, 1) := by decide +kernel
theorem dX12_pair_11 : decode cX12_pair 11 = .ok (.lconst 1, 1) := by decide +kernel
theorem dX12_pair_12 : decode cX12_pair 12 = .ok (.invokestatic 155, 3) := by decide +kernel
theorem dX12_pair_15 : decode cX12_pair 15 = .ok (.ifCond .ne 7, 3) := by decide +kernel
theorem dX12_pair_18 : decode cX12_pair 18 = .ok (.ldc2_w 492, 3) := by decide +kernel
theorem dX12_pair_21 : decode cX12_pair 21 = .ok (.lreturn, 1) := by decide +kernel
theorem dX12_pair_22 : decode cX12_pair 22 = .ok (.aload_n 0, 1) := by decide +kernel
theorem dX12_pair_23 : decode cX12_pair 23 = .ok (.iconst 1, 1) := by decide +kernel
theorem dX12_pair_24 : decode cX12_pair 24 = .ok (.invokevirtual 535, 3) := by decide +kernel
theorem dX12_pair_27 : decode cX12_pair 27 = .ok (.istore_n 3, 1) := by decide +kernel
theorem dX12_pair_28 : decode cX12_pair 28 = .ok (.iload_n 3, 1) := by decide +kernel
theorem dX12_pair_29 : decode cX12_pair 29 = .ok (.aload_n 0, 1) := by decide +kernel
theorem dX12_pair_30 : decode cX12_pair 30 = .ok (.iconst 0, 1) := by decide +kernel
theorem dX12_pair_31 : decode cX12_pair 31 = .ok (.invokevirtual 535, 3) := by decide +kernel
theorem dX12_pair_34 : decode cX12_pair 34 = .ok (.iadd, 1) := by decide +kernel
theorem dX12_pair_35 : decode cX12_pair 35 = .ok (.istore 4, 2) := by decide +kernel
theorem dX12_pair_37 : decode cX12_pair 37 = .ok (.iload 4, 2) := by decide +kernel
theorem dX12_pair_39 : decode cX12_pair 39 = .ok (.ifCond .ne 7, 3) := by decide +kernel
theorem dX12_pair_42 : decode cX12_pair 42 = .ok (.ldc2_w 538, 3) := by decide +kernel
theorem dX12_pair_45 : decode cX12_pair 45 = .ok (.lreturn, 1) := by decide +kernel
theorem dX12_pair_46 : decode cX12_pair 46 = .ok (.lconst 1, 1) := by decide +kernel
theorem dX12_pair_47 : decode cX12_pair 47 = .ok (.lstore 5, 2) := by decide +kernel
theorem dX12_pair_49 : decode cX12_pair 49 = .ok (.lconst 1, 1) := by decide +kernel
theorem dX12_pair_50 : decode cX12_pair 50 = .ok (.lstore 7, 2) := by decide +kernel
theorem dX12_pair_52 : decode cX12_pair 52 = .ok (.iconst 0, 1) := by decide +kernel
theorem dX12_pair_53 : decode cX12_pair 53 = .ok (.istore 9, 2) := by decide +kernel
theorem dX12_pair_55 : decode cX12_pair 55 = .ok (.iload 9, 2) := by decide +kernel
theorem dX12_pair_57 : decode cX12_pair 57 = .ok (.iconst 2, 1) := by decide +kernel
theorem dX12_pair_58 : decode cX12_pair 58 = .ok (.if_icmp .ge 62, 3) := by decide +kernel
theorem dX12_pair_61 : decode cX12_pair 61 = .ok (.aload_n 0, 1) := by decide +kernel
theorem dX12_pair_62 : decode cX12_pair 62 = .ok (.iload_n 1, 1) := by decide +kernel
theorem dX12_pair_63 : decode cX12_pair 63 = .ok (.iload 9, 2) := by decide +kernel
theorem dX12_pair_65 : decode cX12_pair 65 = .ok (.invokevirtual 532, 3) := by decide +kernel
theorem dX12_pair_68 : decode cX12_pair 68 = .ok (.istore 10, 2) := by decide +kernel
theorem dX12_pair_70 : decode cX12_pair 70 = .ok (.lload 5, 2) := by decide +kernel
theorem dX12_pair_72 : decode cX12_pair 72 = .ok (.iload 10, 2) := by decide +kernel
theorem dX12_pair_74 : decode cX12_pair 74 = .ok (.iconst 1, 1) := by decide +kernel
theorem dX12_pair_75 : decode cX12_pair 75 = .ok (.if_icmp .ne 7, 3) := by decide +kernel
theorem dX12_pair_78 : decode cX12_pair 78 = .ok (.lconst 1, 1) := by decide +kernel
theorem dX12_pair_79 : decode cX12_pair 79 = .ok (.goto 14, 3) := by decide +kernel
theorem dX12_pair_82 : decode cX12_pair 82 = .ok (.iload 10, 2) := by decide +kernel
theorem dX12_pair_84 : decode cX12_pair 84 = .ok (.ifCond .ne 7, 3) := by decide +kernel
theorem dX12_pair_87 : decode cX12_pair 87 = .ok (.lconst 0, 1) := by decide +kernel
theorem dX12_pair_88 : decode cX12_pair 88 = .ok (.goto 5, 3) := by decide +kernel
theorem dX12_pair_91 : decode cX12_pair 91 = .ok (.iload_n 3, 1) := by decide +kernel
theorem dX12_pair_92 : decode cX12_pair 92 = .ok (.i2l, 1) := by decide +kernel
theorem dX12_pair_93 : decode cX12_pair 93 = .ok (.lmul, 1) := by decide +kernel
theorem dX12_pair_94 : decode cX12_pair 94 = .ok (.lstore 5, 2) := by decide +kernel
theorem dX12_pair_96 : decode cX12_pair 96 = .ok (.lload 7, 2) := by decide +kernel
theorem dX12_pair_98 : decode cX12_pair 98 = .ok (.iload 10, 2) := by decide +kernel
theorem dX12_pair_100 : decode cX12_pair 100 = .ok (.iconst (-1), 1) := by decide +kernel
theorem dX12_pair_101 : decode cX12_pair 101 = .ok (.if_icmp .ne 9, 3) := by decide +kernel
theorem dX12_pair_104 : decode cX12_pair 104 = .ok (.iload 4, 2) := by decide +kernel
theorem dX12_pair_106 : decode cX12_pair 106 = .ok (.i2l, 1) := by decide +kernel
theorem dX12_pair_107 : decode cX12_pair 107 = .ok (.goto 4, 3) := by decide +kernel
theorem dX12_pair_110 : decode cX12_pair 110 = .ok (.lconst 1, 1) := by decide +kernel
theorem dX12_pair_111 : decode cX12_pair 111 = .ok (.lmul, 1) := by decide +kernel
theorem dX12_pair_112 : decode cX12_pair 112 = .ok (.lstore 7, 2) := by decide +kernel
theorem dX12_pair_114 : decode cX12_pair 114 = .ok (.iinc 9 1, 3) := by decide +kernel
theorem dX12_pair_117 : decode cX12_pair 117 = .ok (.goto (-62), 3) := by decide +kernel
theorem dX12_pair_120 : decode cX12_pair 120 = .ok (.lload 5, 2) := by decide +kernel
theorem dX12_pair_122 : decode cX12_pair 122 = .ok (.lload 7, 2) := by decide +kernel
theorem dX12_pair_124 : decode cX12_pair 124 = .ok (.invokestatic 528, 3) := by decide +kernel
theorem dX12_pair_127 : decode cX12_pair 127 = .ok (.lstore 9, 2) := by decide +kernel
theorem dX12_pair_129 : decode cX12_pair 129 = .ok (.iload_n 2, 1) := by decide +kernel
theorem dX12_pair_130 : decode cX12_pair 130 = .ok (.ifCond .ne 11, 3) := by decide +kernel
theorem dX12_pair_133 : decode cX12_pair 133 = .ok (.lload 5, 2) := by decide +kernel
theorem dX12_pair_135 : decode cX12_pair 135 = .ok (.lload 9, 2) := by decide +kernel
theorem dX12_pair_137 : decode cX12_pair 137 = .ok (.ldiv, 1) := by decide +kernel
theorem dX12_pair_138 : decode cX12_pair 138 = .ok (.goto 8, 3) := by decide +kernel
theorem dX12_pair_141 : decode cX12_pair 141 = .ok (.lload 7, 2) := by decide +kernel
theorem dX12_pair_143 : decode cX12_pair 143 = .ok (.lload 9, 2) := by decide +kernel
theorem dX12_pair_145 : decode cX12_pair 145 = .ok (.ldiv, 1) := by decide +kernel
theorem dX12_pair_146 : decode cX12_pair 146 = .ok (.lreturn, 1) := by decide +kernel
theorem dX12_phosphor_0 : decode cX12_phosphor 0 = .ok (.iload_n 1, 1) := by decide +kernel
theorem dX12_phosphor_1 : decode cX12_phosphor 1 = .ok (.i2l, 1) := by decide +kernel
theorem dX12_phosphor_2 : decode cX12_phosphor 2 = .ok (.lconst 0, 1) := by decide +kernel
theorem dX12_phosphor_3 : decode cX12_phosphor 3 = .ok (.ldc2_w 540, 3) := by decide +kernel
theorem dX12_phosphor_6 : decode cX12_phosphor 6 = .ok (.invokestatic 155, 3) := by decide +kernel
theorem dX12_phosphor_9 : decode cX12_phosphor 9 = .ok (.ifCond .eq 27, 3) := by decide +kernel
theorem dX12_phosphor_12 : decode cX12_phosphor 12 = .ok (.iload_n 2, 1) := by decide +kernel
theorem dX12_phosphor_13 : decode cX12_phosphor 13 = .ok (.i2l, 1) := by decide +kernel
theorem dX12_phosphor_14 : decode cX12_phosphor 14 = .ok (.lconst 0, 1) := by decide +kernel
theorem dX12_phosphor_15 : decode cX12_phosphor 15 = .ok (.ldc2_w 542, 3) := by decide +kernel
theorem dX12_phosphor_18 : decode cX12_phosphor 18 = .ok (.invokestatic 155, 3) := by decide +kernel
theorem dX12_phosphor_21 : decode cX12_phosphor 21 = .ok (.ifCond .eq 15, 3) := by decide +kernel
theorem dX12_phosphor_24 : decode cX12_phosphor 24 = .ok (.iload_n 3, 1) := by decide +kernel
theorem dX12_phosphor_25 : decode cX12_phosphor 25 = .ok (.i2l, 1) := by decide +kernel
theorem dX12_phosphor_26 : decode cX12_phosphor 26 = .ok (.lconst 0, 1) := by decide +kernel
theorem dX12_phosphor_27 : decode cX12_phosphor 27 = .ok (.ldc2_w 544, 3) := by decide +kernel
theorem dX12_phosphor_30 : decode cX12_phosphor 30 = .ok (.invokestatic 155, 3) := by decide +kernel
theorem dX12_phosphor_33 : decode cX12_phosphor 33 = .ok (.ifCond .ne 5, 3) := by decide +kernel
theorem dX12_phosphor_36 : decode cX12_phosphor 36 = .ok (.iconst 0, 1) := by decide +kernel
theorem dX12_phosphor_37 : decode cX12_phosphor 37 = .ok (.ireturn, 1) := by decide +kernel
theorem dX12_phosphor_38 : decode cX12_phosphor 38 = .ok (.aload_n 0, 1) := by decide +kernel
theorem dX12_phosphor_39 : decode cX12_phosphor 39 = .ok (.getfield 138, 3) := by decide +kernel
theorem dX12_phosphor_42 : decode cX12_phosphor 42 = .ok (.bipush 12, 2) := by decide +kernel
theorem dX12_phosphor_44 : decode cX12_phosphor 44 = .ok (.iload_n 2, 1) := by decide +kernel
theorem dX12_phosphor_45 : decode cX12_phosphor 45 = .ok (.imul, 1) := by decide +kernel
theorem dX12_phosphor_46 : decode cX12_phosphor 46 = .ok (.iload_n 1, 1) := by decide +kernel
theorem dX12_phosphor_47 : decode cX12_phosphor 47 = .ok (.iadd, 1) := by decide +kernel
theorem dX12_phosphor_48 : decode cX12_phosphor 48 = .ok (.iload_n 3, 1) := by decide +kernel
theorem dX12_phosphor_49 : decode cX12_phosphor 49 = .ok (.iastore, 1) := by decide +kernel
theorem dX12_phosphor_50 : decode cX12_phosphor 50 = .ok (.iconst 1, 1) := by decide +kernel
theorem dX12_phosphor_51 : decode cX12_phosphor 51 = .ok (.ireturn, 1) := by decide +kernel
theorem dX12_muchAt_0 : decode cX12_muchAt 0 = .ok (.iconst 0, 1) := by decide +kernel
theorem dX12_muchAt_1 : decode cX12_muchAt 1 = .ok (.istore 5, 2) := by decide +kernel
theorem dX12_muchAt_3 : decode cX12_muchAt 3 = .ok (.iconst 0, 1) := by decide +kernel
theorem dX12_muchAt_4 : decode cX12_muchAt 4 = .ok (.istore 6, 2) := by decide +kernel
theorem dX12_muchAt_6 : decode cX12_muchAt 6 = .ok (.iload 6, 2) := by decide +kernel
theorem dX12_muchAt_8 : decode cX12_muchAt 8 = .ok (.iload_n 3, 1) := by decide +kernel
theorem dX12_muchAt_9 : decode cX12_muchAt 9 = .ok (.if_icmp .ge 47, 3) := by decide +kernel
theorem dX12_muchAt_12 : decode cX12_muchAt 12 = .ok (.iconst 0, 1) := by decide +kernel
theorem dX12_muchAt_13 : decode cX12_muchAt 13 = .ok (.istore 7, 2) := by decide +kernel
theorem dX12_muchAt_15 : decode cX12_muchAt 15 = .ok (.iload 7, 2) := by decide +kernel
theorem dX12_muchAt_17 : decode cX12_muchAt 17 = .ok (.iload 4, 2) := by decide +kernel
theorem dX12_muchAt_19 : decode cX12_muchAt 19 = .ok (.if_icmp .ge 31, 3) := by decide +kernel
theorem dX12_muchAt_22 : decode cX12_muchAt 22 = .ok (.iload 5, 2) := by decide +kernel
theorem dX12_muchAt_24 : decode cX12_muchAt 24 = .ok (.aload_n 0, 1) := by decide +kernel
theorem dX12_muchAt_25 : decode cX12_muchAt 25 = .ok (.getfield 138, 3) := by decide +kernel
theorem dX12_muchAt_28 : decode cX12_muchAt 28 = .ok (.bipush 12, 2) := by decide +kernel
theorem dX12_muchAt_30 : decode cX12_muchAt 30 = .ok (.iload_n 2, 1) := by decide +kernel
theorem dX12_muchAt_31 : decode cX12_muchAt 31 = .ok (.iload 7, 2) := by decide +kernel
theorem dX12_muchAt_33 : decode cX12_muchAt 33 = .ok (.iadd, 1) := by decide +kernel
theorem dX12_muchAt_34 : decode cX12_muchAt 34 = .ok (.imul, 1) := by decide +kernel
theorem dX12_muchAt_35 : decode cX12_muchAt 35 = .ok (.iload_n 1, 1) := by decide +kernel
theorem dX12_muchAt_36 : decode cX12_muchAt 36 = .ok (.iadd, 1) := by decide +kernel
theorem dX12_muchAt_37 : decode cX12_muchAt 37 = .ok (.iload 6, 2) := by decide +kernel
theorem dX12_muchAt_39 : decode cX12_muchAt 39 = .ok (.iadd, 1) := by decide +kernel
theorem dX12_muchAt_40 : decode cX12_muchAt 40 = .ok (.iaload, 1) := by decide +kernel
theorem dX12_muchAt_41 : decode cX12_muchAt 41 = .ok (.iadd, 1) := by decide +kernel
theorem dX12_muchAt_42 : decode cX12_muchAt 42 = .ok (.istore 5, 2) := by decide +kernel
theorem dX12_muchAt_44 : decode cX12_muchAt 44 = .ok (.iinc 7 1, 3) := by decide +kernel
theorem dX12_muchAt_47 : decode cX12_muchAt 47 = .ok (.goto (-32), 3) := by decide +kernel
theorem dX12_muchAt_50 : decode cX12_muchAt 50 = .ok (.iinc 6 1, 3) := by decide +kernel
theorem dX12_muchAt_53 : decode cX12_muchAt 53 = .ok (.goto (-47), 3) := by decide +kernel
theorem dX12_muchAt_56 : decode cX12_muchAt 56 = .ok (.iload 5, 2) := by decide +kernel
theorem dX12_muchAt_58 : decode cX12_muchAt 58 = .ok (.ireturn, 1) := by decide +kernel
theorem dX12_body_0 : decode cX12_body 0 = .ok (.iload_n 1, 1) := by decide +kernel
theorem dX12_body_1 : decode cX12_body 1 = .ok (.i2l, 1) := by decide +kernel
theorem dX12_body_2 : decode cX12_body 2 = .ok (.lconst 1, 1) := by decide +kernel
theorem dX12_body_3 : decode cX12_body 3 = .ok (.ldc2_w 546, 3) := by decide +kernel
theorem dX12_body_6 : decode cX12_body 6 = .ok (.invokestatic 155, 3) := by decide +kernel
theorem dX12_body_9 : decode cX12_body 9 = .ok (.ifCond .eq 27, 3) := by decide +kernel
theorem dX12_body_12 : decode cX12_body 12 = .ok (.iload_n 2, 1) := by decide +kernel
theorem dX12_body_13 : decode cX12_body 13 = .ok (.i2l, 1) := by decide +kernel
theorem dX12_body_14 : decode cX12_body 14 = .ok (.lconst 1, 1) := by decide +kernel
theorem dX12_body_15 : decode cX12_body 15 = .ok (.ldc2_w 548, 3) := by decide +kernel
theorem dX12_body_18 : decode cX12_body 18 = .ok (.invokestatic 155, 3) := by decide +kernel
theorem dX12_body_21 : decode cX12_body 21 = .ok (.ifCond .eq 15, 3) := by decide +kernel
theorem dX12_body_24 : decode cX12_body 24 = .ok (.iload_n 3, 1) := by decide +kernel
theorem dX12_body_25 : decode cX12_body 25 = .ok (.i2l, 1) := by decide +kernel
theorem dX12_body_26 : decode cX12_body 26 = .ok (.lconst 0, 1) := by decide +kernel
theorem dX12_body_27 : decode cX12_body 27 = .ok (.ldc2_w 468, 3) := by decide +kernel
theorem dX12_body_30 : decode cX12_body 30 = .ok (.invokestatic 155, 3) := by decide +kernel
theorem dX12_body_33 : decode cX12_body 33 = .ok (.ifCond .ne 5, 3) := by decide +kernel
theorem dX12_body_36 : decode cX12_body 36 = .ok (.iconst (-1), 1) := by decide +kernel
theorem dX12_body_37 : decode cX12_body 37 = .ok (.ireturn, 1) := by decide +kernel
theorem dX12_body_38 : decode cX12_body 38 = .ok (.iconst (-1), 1) := by decide +kernel
theorem dX12_body_39 : decode cX12_body 39 = .ok (.istore 4, 2) := by decide +kernel
theorem dX12_body_41 : decode cX12_body 41 = .ok (.iconst 0, 1) := by decide +kernel
theorem dX12_body_42 : decode cX12_body 42 = .ok (.istore 5, 2) := by decide +kernel
theorem dX12_body_44 : decode cX12_body 44 = .ok (.iconst 0, 1) := by decide +kernel
theorem dX12_body_45 : decode cX12_body 45 = .ok (.istore 6, 2) := by decide +kernel
theorem dX12_body_47 : decode cX12_body 47 = .ok (.iconst 0, 1) := by decide +kernel
theorem dX12_body_48 : decode cX12_body 48 = .ok (.istore 7, 2) := by decide +kernel
theorem dX12_body_50 : decode cX12_body 50 = .ok (.iconst 0, 1) := by decide +kernel
theorem dX12_body_51 : decode cX12_body 51 = .ok (.istore 8, 2) := by decide +kernel
theorem dX12_body_53 : decode cX12_body 53 = .ok (.iload 8, 2) := by decide +kernel
theorem dX12_body_55 : decode cX12_body 55 = .ok (.iload_n 2, 1) := by decide +kernel
theorem dX12_body_56 : decode cX12_body 56 = .ok (.iadd, 1) := by decide +kernel
theorem dX12_body_57 : decode cX12_body 57 = .ok (.bipush 6, 2) := by decide +kernel
theorem dX12_body_59 : decode cX12_body 59 = .ok (.if_icmp .gt 78, 3) := by decide +kernel
theorem dX12_body_62 : decode cX12_body 62 = .ok (.iconst 0, 1) := by decide +kernel
theorem dX12_body_63 : decode cX12_body 63 = .ok (.istore 9, 2) := by decide +kernel
theorem dX12_body_65 : decode cX12_body 65 = .ok (.iload 9, 2) := by decide +kernel
theorem dX12_body_67 : decode cX12_body 67 = .ok (.iload_n 1, 1) := by decide +kernel
theorem dX12_body_68 : decode cX12_body 68 = .ok (.iadd, 1) := by decide +kernel
theorem dX12_body_69 : decode cX12_body 69 = .ok (.bipush 12, 2) := by decide +kernel
theorem dX12_body_71 : decode cX12_body 71 = .ok (.if_icmp .gt 60, 3) := by decide +kernel
theorem dX12_body_74 : decode cX12_body 74 = .ok (.aload_n 0, 1) := by decide +kernel
theorem dX12_body_75 : decode cX12_body 75 = .ok (.iload 9, 2) := by decide +kernel
theorem dX12_body_77 : decode cX12_body 77 = .ok (.iload 8, 2) := by decide +kernel
theorem dX12_body_79 : decode cX12_body 79 = .ok (.iload_n 1, 1) := by decide +kernel
theorem dX12_body_80 : decode cX12_body 80 = .ok (.iload_n 2, 1) := by decide +kernel
theorem dX12_body_81 : decode cX12_body 81 = .ok (.invokevirtual 550, 3) := by decide +kernel
theorem dX12_body_84 : decode cX12_body 84 = .ok (.istore 10, 2) := by decide +kernel
theorem dX12_body_86 : decode cX12_body 86 = .ok (.iload 10, 2) := by decide +kernel
theorem dX12_body_88 : decode cX12_body 88 = .ok (.iload 4, 2) := by decide +kernel
theorem dX12_body_90 : decode cX12_body 90 = .ok (.if_icmp .le 18, 3) := by decide +kernel
theorem dX12_body_93 : decode cX12_body 93 = .ok (.iload 10, 2) := by decide +kernel
theorem dX12_body_95 : decode cX12_body 95 = .ok (.istore 4, 2) := by decide +kernel
theorem dX12_body_97 : decode cX12_body 97 = .ok (.iload 9, 2) := by decide +kernel
theorem dX12_body_99 : decode cX12_body 99 = .ok (.istore 5, 2) := by decide +kernel
theorem dX12_body_101 : decode cX12_body 101 = .ok (.iload 8, 2) := by decide +kernel
theorem dX12_body_103 : decode cX12_body 103 = .ok (.istore 6, 2) := by decide +kernel
theorem dX12_body_105 : decode cX12_body 105 = .ok (.iconst 0, 1) := by decide +kernel
theorem dX12_body_106 : decode cX12_body 106 = .ok (.istore 7, 2) := by decide +kernel
theorem dX12_body_108 : decode cX12_body 108 = .ok (.iload 7, 2) := by decide +kernel
theorem dX12_body_110 : decode cX12_body 110 = .ok (.iload 10, 2) := by decide +kernel
theorem dX12_body_112 : decode cX12_body 112 = .ok (.iload 4, 2) := by decide +kernel
theorem dX12_body_114 : decode cX12_body 114 = .ok (.if_icmp .ne 7, 3) := by decide +kernel
theorem dX12_body_117 : decode cX12_body 117 = .ok (.iconst 1, 1) := by decide +kernel
theorem dX12_body_118 : decode cX12_body 118 = .ok (.goto 4, 3) := by decide +kernel
theorem dX12_body_121 : decode cX12_body 121 = .ok (.iconst 0, 1) := by decide +kernel
theorem dX12_body_122 : decode cX12_body 122 = .ok (.iadd, 1) := by decide +kernel
theorem dX12_body_123 : decode cX12_body 123 = .ok (.istore 7, 2) := by decide +kernel
theorem dX12_body_125 : decode cX12_body 125 = .ok (.iinc 9 1, 3) := by decide +kernel
theorem dX12_body_128 : decode cX12_body 128 = .ok (.goto (-63), 3) := by decide +kernel
theorem dX12_body_131 : decode cX12_body 131 = .ok (.iinc 8 1, 3) := by decide +kernel
theorem dX12_body_134 : decode cX12_body 134 = .ok (.goto (-81), 3) := by decide +kernel
theorem dX12_body_137 : decode cX12_body 137 = .ok (.iload_n 3, 1) := by decide +kernel
theorem dX12_body_138 : decode cX12_body 138 = .ok (.ifCond .ne 8, 3) := by decide +kernel
theorem dX12_body_141 : decode cX12_body 141 = .ok (.iload 5, 2) := by decide +kernel
theorem dX12_body_143 : decode cX12_body 143 = .ok (.goto 46, 3) := by decide +kernel
theorem dX12_body_146 : decode cX12_body 146 = .ok (.iload_n 3, 1) := by decide +kernel
theorem dX12_body_147 : decode cX12_body 147 = .ok (.iconst 1, 1) := by decide +kernel
theorem dX12_body_148 : decode cX12_body 148 = .ok (.if_icmp .ne 8, 3) := by decide +kernel
theorem dX12_body_151 : decode cX12_body 151 = .ok (.iload 6, 2) := by decide +kernel
theorem dX12_body_153 : decode cX12_body 153 = .ok (.goto 36, 3) := by decide +kernel
theorem dX12_body_156 : decode cX12_body 156 = .ok (.iload_n 3, 1) := by decide +kernel
theorem dX12_body_157 : decode cX12_body 157 = .ok (.iconst 2, 1) := by decide +kernel
theorem dX12_body_158 : decode cX12_body 158 = .ok (.if_icmp .ne 8, 3) := by decide +kernel
theorem dX12_body_161 : decode cX12_body 161 = .ok (.iload 4, 2) := by decide +kernel
theorem dX12_body_163 : decode cX12_body 163 = .ok (.goto 26, 3) := by decide +kernel
theorem dX12_body_166 : decode cX12_body 166 = .ok (.iload_n 3, 1) := by decide +kernel
theorem dX12_body_167 : decode cX12_body 167 = .ok (.iconst 3, 1) := by decide +kernel
theorem dX12_body_168 : decode cX12_body 168 = .ok (.if_icmp .ne 8, 3) := by decide +kernel
theorem dX12_body_171 : decode cX12_body 171 = .ok (.iload 7, 2) := by decide +kernel
theorem dX12_body_173 : decode cX12_body 173 = .ok (.goto 16, 3) := by decide +kernel
theorem dX12_body_176 : decode cX12_body 176 = .ok (.bipush 12, 2) := by decide +kernel
theorem dX12_body_178 : decode cX12_body 178 = .ok (.iload_n 1, 1) := by decide +kernel
theorem dX12_body_179 : decode cX12_body 179 = .ok (.isub, 1) := by decide +kernel
theorem dX12_body_180 : decode cX12_body 180 = .ok (.iconst 1, 1) := by decide +kernel
theorem dX12_body_181 : decode cX12_body 181 = .ok (.iadd, 1) := by decide +kernel
theorem dX12_body_182 : decode cX12_body 182 = .ok (.bipush 6, 2) := by decide +kernel
theorem dX12_body_184 : decode cX12_body 184 = .ok (.iload_n 2, 1) := by decide +kernel
theorem dX12_body_185 : decode cX12_body 185 = .ok (.isub, 1) := by decide +kernel
theorem dX12_body_186 : decode cX12_body 186 = .ok (.iconst 1, 1) := by decide +kernel
theorem dX12_body_187 : decode cX12_body 187 = .ok (.iadd, 1) := by decide +kernel
theorem dX12_body_188 : decode cX12_body 188 = .ok (.imul, 1) := by decide +kernel
theorem dX12_body_189 : decode cX12_body 189 = .ok (.ireturn, 1) := by decide +kernel
theorem dX12_story_0 : decode cX12_story 0 = .ok (.iload_n 1, 1) := by decide +kernel
theorem dX12_story_1 : decode cX12_story 1 = .ok (.i2l, 1) := by decide +kernel
theorem dX12_story_2 : decode cX12_story 2 = .ok (.lconst 0, 1) := by decide +kernel
theorem dX12_story_3 : decode cX12_story 3 = .ok (.ldc2_w 542, 3) := by decide +kernel
theorem dX12_story_6 : decode cX12_story 6 = .ok (.invokestatic 155, 3) := by decide +kernel
theorem dX12_story_9 : decode cX12_story 9 = .ok (.ifCond .eq 27, 3) := by decide +kernel
theorem dX12_story_12 : decode cX12_story 12 = .ok (.iload_n 2, 1) := by decide +kernel
theorem dX12_story_13 : decode cX12_story 13 = .ok (.i2l, 1) := by decide +kernel
theorem dX12_story_14 : decode cX12_story 14 = .ok (.lconst 0, 1) := by decide +kernel
theorem dX12_story_15 : decode cX12_story 15 = .ok (.ldc2_w 542, 3) := by decide +kernel
theorem dX12_story_18 : decode cX12_story 18 = .ok (.invokestatic 155, 3) := by decide +kernel
theorem dX12_story_21 : decode cX12_story 21 = .ok (.ifCond .eq 15, 3) := by decide +kernel
theorem dX12_story_24 : decode cX12_story 24 = .ok (.iload_n 3, 1) := by decide +kernel
theorem dX12_story_25 : decode cX12_story 25 = .ok (.i2l, 1) := by decide +kernel
theorem dX12_story_26 : decode cX12_story 26 = .ok (.lconst 0, 1) := by decide +kernel
theorem dX12_story_27 : decode cX12_story 27 = .ok (.ldc2_w 153, 3) := by decide +kernel
theorem dX12_story_30 : decode cX12_story 30 = .ok (.invokestatic 155, 3) := by decide +kernel
theorem dX12_story_33 : decode cX12_story 33 = .ok (.ifCond .ne 5, 3) := by decide +kernel
theorem dX12_story_36 : decode cX12_story 36 = .ok (.iconst 0, 1) := by decide +kernel
theorem dX12_story_37 : decode cX12_story 37 = .ok (.ireturn, 1) := by decide +kernel
theorem dX12_story_38 : decode cX12_story 38 = .ok (.aload_n 0, 1) := by decide +kernel
theorem dX12_story_39 : decode cX12_story 39 = .ok (.getfield 141, 3) := by decide +kernel
theorem dX12_story_42 : decode cX12_story 42 = .ok (.bipush 6, 2) := by decide +kernel
theorem dX12_story_44 : decode cX12_story 44 = .ok (.iload_n 1, 1) := by decide +kernel
theorem dX12_story_45 : decode cX12_story 45 = .ok (.imul, 1) := by decide +kernel
theorem dX12_story_46 : decode cX12_story 46 = .ok (.iload_n 2, 1) := by decide +kernel
theorem dX12_story_47 : decode cX12_story 47 = .ok (.iadd, 1) := by decide +kernel
theorem dX12_story_48 : decode cX12_story 48 = .ok (.iload_n 3, 1) := by decide +kernel
theorem dX12_story_49 : decode cX12_story 49 = .ok (.iastore, 1) := by decide +kernel
theorem dX12_story_50 : decode cX12_story 50 = .ok (.aload_n 0, 1) := by decide +kernel
theorem dX12_story_51 : decode cX12_story 51 = .ok (.getfield 144, 3) := by decide +kernel
theorem dX12_story_54 : decode cX12_story 54 = .ok (.iload_n 1, 1) := by decide +kernel
theorem dX12_story_55 : decode cX12_story 55 = .ok (.iconst 1, 1) := by decide +kernel
theorem dX12_story_56 : decode cX12_story 56 = .ok (.bastore, 1) := by decide +kernel
theorem dX12_story_57 : decode cX12_story 57 = .ok (.iconst 1, 1) := by decide +kernel
theorem dX12_story_58 : decode cX12_story 58 = .ok (.ireturn, 1) := by decide +kernel
theorem dX12_sign_0 : decode cX12_sign 0 = .ok (.iload_n 1, 1) := by decide +kernel
theorem dX12_sign_1 : decode cX12_sign 1 = .ok (.i2l, 1) := by decide +kernel
theorem dX12_sign_2 : decode cX12_sign 2 = .ok (.lconst 0, 1) := by decide +kernel
theorem dX12_sign_3 : decode cX12_sign 3 = .ok (.ldc2_w 542, 3) := by decide +kernel
theorem dX12_sign_6 : decode cX12_sign 6 = .ok (.invokestatic 155, 3) := by decide +kernel
theorem dX12_sign_9 : decode cX12_sign 9 = .ok (.ifCond .eq 15, 3) := by decide +kernel
theorem dX12_sign_12 : decode cX12_sign 12 = .ok (.iload_n 2, 1) := by decide +kernel
theorem dX12_sign_13 : decode cX12_sign 13 = .ok (.i2l, 1) := by decide +kernel
theorem dX12_sign_14 : decode cX12_sign 14 = .ok (.ldc2_w 492, 3) := by decide +kernel
theorem dX12_sign_17 : decode cX12_sign 17 = .ok (.lconst 1, 1) := by decide +kernel
theorem dX12_sign_18 : decode cX12_sign 18 = .ok (.invokestatic 155, 3) := by decide +kernel
theorem dX12_sign_21 : decode cX12_sign 21 = .ok (.ifCond .ne 5, 3) := by decide +kernel
theorem dX12_sign_24 : decode cX12_sign 24 = .ok (.iconst 0, 1) := by decide +kernel
theorem dX12_sign_25 : decode cX12_sign 25 = .ok (.ireturn, 1) := by decide +kernel
theorem dX12_sign_26 : decode cX12_sign 26 = .ok (.aload_n 0, 1) := by decide +kernel
theorem dX12_sign_27 : decode cX12_sign 27 = .ok (.getfield 147, 3) := by decide +kernel
theorem dX12_sign_30 : decode cX12_sign 30 = .ok (.iload_n 1, 1) := by decide +kernel
theorem dX12_sign_31 : decode cX12_sign 31 = .ok (.iload_n 2, 1) := by decide +kernel
theorem dX12_sign_32 : decode cX12_sign 32 = .ok (.iastore, 1) := by decide +kernel
theorem dX12_sign_33 : decode cX12_sign 33 = .ok (.iconst 1, 1) := by decide +kernel
theorem dX12_sign_34 : decode cX12_sign 34 = .ok (.ireturn, 1) := by decide +kernel
theorem dX12_storiesTold_0 : decode cX12_storiesTold 0 = .ok (.iconst 0, 1) := by decide +kernel
theorem dX12_storiesTold_1 : decode cX12_storiesTold 1 = .ok (.istore_n 1, 1) := by decide +kernel
theorem dX12_storiesTold_2 : decode cX12_storiesTold 2 = .ok (.iconst 0, 1) := by decide +kernel
theorem dX12_storiesTold_3 : decode cX12_storiesTold 3 = .ok (.istore_n 2, 1) := by decide +kernel
theorem dX12_storiesTold_4 : decode cX12_storiesTold 4 = .ok (.iload_n 2, 1) := by decide +kernel
theorem dX12_storiesTold_5 : decode cX12_storiesTold 5 = .ok (.bipush 6, 2) := by decide +kernel
theorem dX12_storiesTold_7 : decode cX12_storiesTold 7 = .ok (.if_icmp .ge 26, 3) := by decide +kernel
theorem dX12_storiesTold_10 : decode cX12_storiesTold 10 = .ok (.iload_n 1, 1) := by decide +kernel
theorem dX12_storiesTold_11 : decode cX12_storiesTold 11 = .ok (.aload_n 0, 1) := by decide +kernel
theorem dX12_storiesTold_12 : decode cX12_storiesTold 12 = .ok (.getfield 144, 3) := by decide +kernel
theorem dX12_storiesTold_15 : decode cX12_storiesTold 15 = .ok (.iload_n 2, 1) := by decide +kernel
theorem dX12_storiesTold_16 : decode cX12_storiesTold 16 = .ok (.baload, 1) := by decide +kernel
theorem dX12_storiesTold_17 : decode cX12_storiesTold 17 = .ok (.ifCond .eq 7, 3) := by decide +kernel
theorem dX12_storiesTold_20 : decode cX12_storiesTold 20 = .ok (.iconst 1, 1) := by decide +kernel
theorem dX12_storiesTold_21 : decode cX12_storiesTold 21 = .ok (.goto 4, 3) := by decide +kernel
theorem dX12_storiesTold_24 : decode cX12_storiesTold 24 = .ok (.iconst 0, 1) := by decide +kernel
theorem dX12_storiesTold_25 : decode cX12_storiesTold 25 = .ok (.iadd, 1) := by decide +kernel
theorem dX12_storiesTold_26 : decode cX12_storiesTold 26 = .ok (.istore_n 1, 1) := by decide +kernel
theorem dX12_storiesTold_27 : decode cX12_storiesTold 27 = .ok (.iinc 2 1, 3) := by decide +kernel
theorem dX12_storiesTold_30 : decode cX12_storiesTold 30 = .ok (.goto (-26), 3) := by decide +kernel
theorem dX12_storiesTold_33 : decode cX12_storiesTold 33 = .ok (.iload_n 1, 1) := by decide +kernel
theorem dX12_storiesTold_34 : decode cX12_storiesTold 34 = .ok (.ireturn, 1) := by decide +kernel
theorem dX12_odds_0 : decode cX12_odds 0 = .ok (.iload_n 1, 1) := by decide +kernel
theorem dX12_odds_1 : decode cX12_odds 1 = .ok (.iconst (-1), 1) := by decide +kernel
theorem dX12_odds_2 : decode cX12_odds 2 = .ok (.if_icmp .eq 36, 3) := by decide +kernel
theorem dX12_odds_5 : decode cX12_odds 5 = .ok (.iload_n 1, 1) := by decide +kernel
theorem dX12_odds_6 : decode cX12_odds 6 = .ok (.i2l, 1) := by decide +kernel
theorem dX12_odds_7 : decode cX12_odds 7 = .ok (.lconst 0, 1) := by decide +kernel
theorem dX12_odds_8 : decode cX12_odds 8 = .ok (.ldc2_w 542, 3) := by decide +kernel
theorem dX12_odds_11 : decode cX12_odds 11 = .ok (.invokestatic 155, 3) := by decide +kernel
theorem dX12_odds_14 : decode cX12_odds 14 = .ok (.ifCond .eq 20, 3) := by decide +kernel
theorem dX12_odds_17 : decode cX12_odds 17 = .ok (.aload_n 0, 1) := by decide +kernel
theorem dX12_odds_18 : decode cX12_odds 18 = .ok (.getfield 144, 3) := by decide +kernel
theorem dX12_odds_21 : decode cX12_odds 21 = .ok (.iload_n 1, 1) := by decide +kernel
theorem dX12_odds_22 : decode cX12_odds 22 = .ok (.baload, 1) := by decide +kernel
theorem dX12_odds_23 : decode cX12_odds 23 = .ok (.ifCond .eq 11, 3) := by decide +kernel
theorem dX12_odds_26 : decode cX12_odds 26 = .ok (.aload_n 0, 1) := by decide +kernel
theorem dX12_odds_27 : decode cX12_odds 27 = .ok (.iload_n 1, 1) := by decide +kernel
theorem dX12_odds_28 : decode cX12_odds 28 = .ok (.invokevirtual 553, 3) := by decide +kernel
theorem dX12_odds_31 : decode cX12_odds 31 = .ok (.goto 6, 3) := by decide +kernel
theorem dX12_odds_34 : decode cX12_odds 34 = .ok (.ldc2_w 492, 3) := by decide +kernel
theorem dX12_odds_37 : decode cX12_odds 37 = .ok (.lreturn, 1) := by decide +kernel
theorem dX12_odds_38 : decode cX12_odds 38 = .ok (.lconst 0, 1) := by decide +kernel
theorem dX12_odds_39 : decode cX12_odds 39 = .ok (.lstore_n 2, 1) := by decide +kernel
theorem dX12_odds_40 : decode cX12_odds 40 = .ok (.iconst 0, 1) := by decide +kernel
theorem dX12_odds_41 : decode cX12_odds 41 = .ok (.istore 4, 2) := by decide +kernel
theorem dX12_odds_43 : decode cX12_odds 43 = .ok (.iload 4, 2) := by decide +kernel
theorem dX12_odds_45 : decode cX12_odds 45 = .ok (.bipush 6, 2) := by decide +kernel
theorem dX12_odds_47 : decode cX12_odds 47 = .ok (.if_icmp .ge 32, 3) := by decide +kernel
theorem dX12_odds_50 : decode cX12_odds 50 = .ok (.lload_n 2, 1) := by decide +kernel
theorem dX12_odds_51 : decode cX12_odds 51 = .ok (.aload_n 0, 1) := by decide +kernel
theorem dX12_odds_52 : decode cX12_odds 52 = .ok (.getfield 144, 3) := by decide +kernel
theorem dX12_odds_55 : decode cX12_odds 55 = .ok (.iload 4, 2) := by decide +kernel
theorem dX12_odds_57 : decode cX12_odds 57 = .ok (.baload, 1) := by decide +kernel
theorem dX12_odds_58 : decode cX12_odds 58 = .ok (.ifCond .eq 12, 3) := by decide +kernel
theorem dX12_odds_61 : decode cX12_odds 61 = .ok (.aload_n 0, 1) := by decide +kernel
theorem dX12_odds_62 : decode cX12_odds 62 = .ok (.iload 4, 2) := by decide +kernel
theorem dX12_odds_64 : decode cX12_odds 64 = .ok (.invokevirtual 553, 3) := by decide +kernel
theorem dX12_odds_67 : decode cX12_odds 67 = .ok (.goto 4, 3) := by decide +kernel
theorem dX12_odds_70 : decode cX12_odds 70 = .ok (.lconst 0, 1) := by decide +kernel
theorem dX12_odds_71 : decode cX12_odds 71 = .ok (.ladd, 1) := by decide +kernel
theorem dX12_odds_72 : decode cX12_odds 72 = .ok (.lstore_n 2, 1) := by decide +kernel
theorem dX12_odds_73 : decode cX12_odds 73 = .ok (.iinc 4 1, 3) := by decide +kernel
theorem dX12_odds_76 : decode cX12_odds 76 = .ok (.goto (-33), 3) := by decide +kernel
theorem dX12_odds_79 : decode cX12_odds 79 = .ok (.lload_n 2, 1) := by decide +kernel
theorem dX12_odds_80 : decode cX12_odds 80 = .ok (.lreturn, 1) := by decide +kernel
theorem dX12_next_0 : decode cX12_next 0 = .ok (.iload_n 1, 1) := by decide +kernel
theorem dX12_next_1 : decode cX12_next 1 = .ok (.i2l, 1) := by decide +kernel
theorem dX12_next_2 : decode cX12_next 2 = .ok (.lconst 0, 1) := by decide +kernel
theorem dX12_next_3 : decode cX12_next 3 = .ok (.lconst 1, 1) := by decide +kernel
theorem dX12_next_4 : decode cX12_next 4 = .ok (.invokestatic 155, 3) := by decide +kernel
theorem dX12_next_7 : decode cX12_next 7 = .ok (.ifCond .eq 10, 3) := by decide +kernel
theorem dX12_next_10 : decode cX12_next 10 = .ok (.aload_n 0, 1) := by decide +kernel
theorem dX12_next_11 : decode cX12_next 11 = .ok (.invokevirtual 557, 3) := by decide +kernel
theorem dX12_next_14 : decode cX12_next 14 = .ok (.ifCond .ne 5, 3) := by decide +kernel
theorem dX12_next_17 : decode cX12_next 17 = .ok (.iconst (-1), 1) := by decide +kernel
theorem dX12_next_18 : decode cX12_next 18 = .ok (.ireturn, 1) := by decide +kernel
theorem dX12_next_19 : decode cX12_next 19 = .ok (.iconst (-1), 1) := by decide +kernel
theorem dX12_next_20 : decode cX12_next 20 = .ok (.istore_n 2, 1) := by decide +kernel
theorem dX12_next_21 : decode cX12_next 21 = .ok (.iconst 0, 1) := by decide +kernel
theorem dX12_next_22 : decode cX12_next 22 = .ok (.istore_n 3, 1) := by decide +kernel
theorem dX12_next_23 : decode cX12_next 23 = .ok (.iconst 0, 1) := by decide +kernel
theorem dX12_next_24 : decode cX12_next 24 = .ok (.istore 4, 2) := by decide +kernel
theorem dX12_next_26 : decode cX12_next 26 = .ok (.iload 4, 2) := by decide +kernel
theorem dX12_next_28 : decode cX12_next 28 = .ok (.bipush 6, 2) := by decide +kernel
theorem dX12_next_30 : decode cX12_next 30 = .ok (.if_icmp .ge 135, 3) := by decide +kernel
theorem dX12_next_33 : decode cX12_next 33 = .ok (.aload_n 0, 1) := by decide +kernel
theorem dX12_next_34 : decode cX12_next 34 = .ok (.getfield 147, 3) := by decide +kernel
theorem dX12_next_37 : decode cX12_next 37 = .ok (.iload 4, 2) := by decide +kernel
theorem dX12_next_39 : decode cX12_next 39 = .ok (.iaload, 1) := by decide +kernel
theorem dX12_next_40 : decode cX12_next 40 = .ok (.iconst (-1), 1) := by decide +kernel
theorem dX12_next_41 : decode cX12_next 41 = .ok (.if_icmp .eq 6, 3) := by decide +kernel
theorem dX12_next_44 : decode cX12_next 44 = .ok (.goto 115, 3) := by decide +kernel
theorem dX12_next_47 : decode cX12_next 47 = .ok (.iconst 0, 1) := by decide +kernel
theorem dX12_next_48 : decode cX12_next 48 = .ok (.istore 5, 2) := by decide +kernel
theorem dX12_next_50 : decode cX12_next 50 = .ok (.iconst 0, 1) := by decide +kernel
theorem dX12_next_51 : decode cX12_next 51 = .ok (.istore 6, 2) := by decide +kernel
theorem dX12_next_53 : decode cX12_next 53 = .ok (.iload 6, 2) := by decide +kernel
theorem dX12_next_55 : decode cX12_next 55 = .ok (.bipush 6, 2) := by decide +kernel
theorem dX12_next_57 : decode cX12_next 57 = .ok (.if_icmp .ge 82, 3) := by decide +kernel
theorem dX12_next_60 : decode cX12_next 60 = .ok (.iconst 0, 1) := by decide +kernel
theorem dX12_next_61 : decode cX12_next 61 = .ok (.istore 7, 2) := by decide +kernel
theorem dX12_next_63 : decode cX12_next 63 = .ok (.iload 7, 2) := by decide +kernel
theorem dX12_next_65 : decode cX12_next 65 = .ok (.iload 6, 2) := by decide +kernel
theorem dX12_next_67 : decode cX12_next 67 = .ok (.if_icmp .ge 66, 3) := by decide +kernel
theorem dX12_next_70 : decode cX12_next 70 = .ok (.iload 5, 2) := by decide +kernel
theorem dX12_next_72 : decode cX12_next 72 = .ok (.aload_n 0, 1) := by decide +kernel
theorem dX12_next_73 : decode cX12_next 73 = .ok (.iload 6, 2) := by decide +kernel
theorem dX12_next_75 : decode cX12_next 75 = .ok (.invokevirtual 560, 3) := by decide +kernel
theorem dX12_next_78 : decode cX12_next 78 = .ok (.ifCond .eq 45, 3) := by decide +kernel
theorem dX12_next_81 : decode cX12_next 81 = .ok (.aload_n 0, 1) := by decide +kernel
theorem dX12_next_82 : decode cX12_next 82 = .ok (.iload 7, 2) := by decide +kernel
theorem dX12_next_84 : decode cX12_next 84 = .ok (.invokevirtual 560, 3) := by decide +kernel
theorem dX12_next_87 : decode cX12_next 87 = .ok (.ifCond .eq 36, 3) := by decide +kernel
theorem dX12_next_90 : decode cX12_next 90 = .ok (.aload_n 0, 1) := by decide +kernel
theorem dX12_next_91 : decode cX12_next 91 = .ok (.getfield 141, 3) := by decide +kernel
theorem dX12_next_94 : decode cX12_next 94 = .ok (.bipush 6, 2) := by decide +kernel
theorem dX12_next_96 : decode cX12_next 96 = .ok (.iload 6, 2) := by decide +kernel
theorem dX12_next_98 : decode cX12_next 98 = .ok (.imul, 1) := by decide +kernel
theorem dX12_next_99 : decode cX12_next 99 = .ok (.iload 4, 2) := by decide +kernel
theorem dX12_next_101 : decode cX12_next 101 = .ok (.iadd, 1) := by decide +kernel
theorem dX12_next_102 : decode cX12_next 102 = .ok (.iaload, 1) := by decide +kernel
theorem dX12_next_103 : decode cX12_next 103 = .ok (.aload_n 0, 1) := by decide +kernel
theorem dX12_next_104 : decode cX12_next 104 = .ok (.getfield 141, 3) := by decide +kernel
theorem dX12_next_107 : decode cX12_next 107 = .ok (.bipush 6, 2) := by decide +kernel
theorem dX12_next_109 : decode cX12_next 109 = .ok (.iload 7, 2) := by decide +kernel
theorem dX12_next_111 : decode cX12_next 111 = .ok (.imul, 1) := by decide +kernel
theorem dX12_next_112 : decode cX12_next 112 = .ok (.iload 4, 2) := by decide +kernel
theorem dX12_next_114 : decode cX12_next 114 = .ok (.iadd, 1) := by decide +kernel
theorem dX12_next_115 : decode cX12_next 115 = .ok (.iaload, 1) := by decide +kernel
theorem dX12_next_116 : decode cX12_next 116 = .ok (.isub, 1) := by decide +kernel
theorem dX12_next_117 : decode cX12_next 117 = .ok (.invokestatic 443, 3) := by decide +kernel
theorem dX12_next_120 : decode cX12_next 120 = .ok (.goto 4, 3) := by decide +kernel
theorem dX12_next_123 : decode cX12_next 123 = .ok (.iconst 0, 1) := by decide +kernel
theorem dX12_next_124 : decode cX12_next 124 = .ok (.iadd, 1) := by decide +kernel
theorem dX12_next_125 : decode cX12_next 125 = .ok (.istore 5, 2) := by decide +kernel
theorem dX12_next_127 : decode cX12_next 127 = .ok (.iinc 7 1, 3) := by decide +kernel
theorem dX12_next_130 : decode cX12_next 130 = .ok (.goto (-67), 3) := by decide +kernel
theorem dX12_next_133 : decode cX12_next 133 = .ok (.iinc 6 1, 3) := by decide +kernel
theorem dX12_next_136 : decode cX12_next 136 = .ok (.goto (-83), 3) := by decide +kernel
theorem dX12_next_139 : decode cX12_next 139 = .ok (.iload_n 2, 1) := by decide +kernel
theorem dX12_next_140 : decode cX12_next 140 = .ok (.iconst (-1), 1) := by decide +kernel
theorem dX12_next_141 : decode cX12_next 141 = .ok (.if_icmp .eq 12, 3) := by decide +kernel
theorem dX12_next_144 : decode cX12_next 144 = .ok (.iload 5, 2) := by decide +kernel
theorem dX12_next_146 : decode cX12_next 146 = .ok (.iload_n 3, 1) := by decide +kernel
theorem dX12_next_147 : decode cX12_next 147 = .ok (.if_icmp .gt 6, 3) := by decide +kernel
theorem dX12_next_150 : decode cX12_next 150 = .ok (.goto 9, 3) := by decide +kernel
theorem dX12_next_153 : decode cX12_next 153 = .ok (.iload 4, 2) := by decide +kernel
theorem dX12_next_155 : decode cX12_next 155 = .ok (.istore_n 2, 1) := by decide +kernel
theorem dX12_next_156 : decode cX12_next 156 = .ok (.iload 5, 2) := by decide +kernel
theorem dX12_next_158 : decode cX12_next 158 = .ok (.istore_n 3, 1) := by decide +kernel
theorem dX12_next_159 : decode cX12_next 159 = .ok (.iinc 4 1, 3) := by decide +kernel
theorem dX12_next_162 : decode cX12_next 162 = .ok (.goto (-136), 3) := by decide +kernel
theorem dX12_next_165 : decode cX12_next 165 = .ok (.iload_n 2, 1) := by decide +kernel
theorem dX12_next_166 : decode cX12_next 166 = .ok (.iconst (-1), 1) := by decide +kernel
theorem dX12_next_167 : decode cX12_next 167 = .ok (.if_icmp .eq 7, 3) := by decide +kernel
theorem dX12_next_170 : decode cX12_next 170 = .ok (.iload_n 1, 1) := by decide +kernel
theorem dX12_next_171 : decode cX12_next 171 = .ok (.ifCond .ne 7, 3) := by decide +kernel
theorem dX12_next_174 : decode cX12_next 174 = .ok (.iload_n 2, 1) := by decide +kernel
theorem dX12_next_175 : decode cX12_next 175 = .ok (.goto 4, 3) := by decide +kernel
theorem dX12_next_178 : decode cX12_next 178 = .ok (.iload_n 3, 1) := by decide +kernel
theorem dX12_next_179 : decode cX12_next 179 = .ok (.ireturn, 1) := by decide +kernel
theorem dX12_areBent_0 : decode cX12_areBent 0 = .ok (.aload_n 0, 1) := by decide +kernel
theorem dX12_areBent_1 : decode cX12_areBent 1 = .ok (.getfield 341, 3) := by decide +kernel
theorem dX12_areBent_4 : decode cX12_areBent 4 = .ok (.ifCond .le 7, 3) := by decide +kernel
theorem dX12_areBent_7 : decode cX12_areBent 7 = .ok (.iconst 1, 1) := by decide +kernel
theorem dX12_areBent_8 : decode cX12_areBent 8 = .ok (.goto 4, 3) := by decide +kernel
theorem dX12_areBent_11 : decode cX12_areBent 11 = .ok (.iconst 0, 1) := by decide +kernel
theorem dX12_areBent_12 : decode cX12_areBent 12 = .ok (.istore_n 2, 1) := by decide +kernel
theorem dX12_areBent_13 : decode cX12_areBent 13 = .ok (.iconst 0, 1) := by decide +kernel
theorem dX12_areBent_14 : decode cX12_areBent 14 = .ok (.istore_n 3, 1) := by decide +kernel
theorem dX12_areBent_15 : decode cX12_areBent 15 = .ok (.iload_n 3, 1) := by decide +kernel
theorem dX12_areBent_16 : decode cX12_areBent 16 = .ok (.aload_n 0, 1) := by decide +kernel
theorem dX12_areBent_17 : decode cX12_areBent 17 = .ok (.getfield 341, 3) := by decide +kernel
theorem dX12_areBent_20 : decode cX12_areBent 20 = .ok (.if_icmp .ge 28, 3) := by decide +kernel
theorem dX12_areBent_23 : decode cX12_areBent 23 = .ok (.aload_n 0, 1) := by decide +kernel
theorem dX12_areBent_24 : decode cX12_areBent 24 = .ok (.iload_n 3, 1) := by decide +kernel
theorem dX12_areBent_25 : decode cX12_areBent 25 = .ok (.iload_n 1, 1) := by decide +kernel
theorem dX12_areBent_26 : decode cX12_areBent 26 = .ok (.invokevirtual 511, 3) := by decide +kernel
theorem dX12_areBent_29 : decode cX12_areBent 29 = .ok (.ifCond .eq 11, 3) := by decide +kernel
theorem dX12_areBent_32 : decode cX12_areBent 32 = .ok (.iload_n 2, 1) := by decide +kernel
theorem dX12_areBent_33 : decode cX12_areBent 33 = .ok (.ifCond .eq 7, 3) := by decide +kernel
theorem dX12_areBent_36 : decode cX12_areBent 36 = .ok (.iconst 1, 1) := by decide +kernel
theorem dX12_areBent_37 : decode cX12_areBent 37 = .ok (.goto 4, 3) := by decide +kernel
theorem dX12_areBent_40 : decode cX12_areBent 40 = .ok (.iconst 0, 1) := by decide +kernel
theorem dX12_areBent_41 : decode cX12_areBent 41 = .ok (.istore_n 2, 1) := by decide +kernel
theorem dX12_areBent_42 : decode cX12_areBent 42 = .ok (.iinc 3 1, 3) := by decide +kernel
theorem dX12_areBent_45 : decode cX12_areBent 45 = .ok (.goto (-30), 3) := by decide +kernel
theorem dX12_areBent_48 : decode cX12_areBent 48 = .ok (.iload_n 2, 1) := by decide +kernel
theorem dX12_areBent_49 : decode cX12_areBent 49 = .ok (.ireturn, 1) := by decide +kernel
theorem dX12_isHeight_0 : decode cX12_isHeight 0 = .ok (.iload_n 0, 1) := by decide +kernel
theorem dX12_isHeight_1 : decode cX12_isHeight 1 = .ok (.i2l, 1) := by decide +kernel
theorem dX12_isHeight_2 : decode cX12_isHeight 2 = .ok (.lconst 1, 1) := by decide +kernel
theorem dX12_isHeight_3 : decode cX12_isHeight 3 = .ok (.ldc2_w 276, 3) := by decide +kernel
theorem dX12_isHeight_6 : decode cX12_isHeight 6 = .ok (.invokestatic 155, 3) := by decide +kernel
theorem dX12_isHeight_9 : decode cX12_isHeight 9 = .ok (.ireturn, 1) := by decide +kernel
theorem dX12_area_0 : decode cX12_area 0 = .ok (.aload_n 0, 1) := by decide +kernel
theorem dX12_area_1 : decode cX12_area 1 = .ok (.iload_n 1, 1) := by decide +kernel
theorem dX12_area_2 : decode cX12_area 2 = .ok (.invokevirtual 344, 3) := by decide +kernel
theorem dX12_area_5 : decode cX12_area 5 = .ok (.ifCond .eq 38, 3) := by decide +kernel
theorem dX12_area_8 : decode cX12_area 8 = .ok (.iload_n 2, 1) := by decide +kernel
theorem dX12_area_9 : decode cX12_area 9 = .ok (.invokestatic 563, 3) := by decide +kernel
theorem dX12_area_12 : decode cX12_area 12 = .ok (.ifCond .eq 31, 3) := by decide +kernel
theorem dX12_area_15 : decode cX12_area 15 = .ok (.aload_n 0, 1) := by decide +kernel
theorem dX12_area_16 : decode cX12_area 16 = .ok (.iload 4, 2) := by decide +kernel
theorem dX12_area_18 : decode cX12_area 18 = .ok (.invokevirtual 347, 3) := by decide +kernel
theorem dX12_area_21 : decode cX12_area 21 = .ok (.ifCond .eq 22, 3) := by decide +kernel
theorem dX12_area_24 : decode cX12_area 24 = .ok (.aload_n 0, 1) := by decide +kernel
theorem dX12_area_25 : decode cX12_area 25 = .ok (.iload_n 3, 1) := by decide +kernel
theorem dX12_area_26 : decode cX12_area 26 = .ok (.invokevirtual 566, 3) := by decide +kernel
theorem dX12_area_29 : decode cX12_area 29 = .ok (.ifCond .eq 14, 3) := by decide +kernel
theorem dX12_area_32 : decode cX12_area 32 = .ok (.aload_n 0, 1) := by decide +kernel
theorem dX12_area_33 : decode cX12_area 33 = .ok (.iload_n 1, 1) := by decide +kernel
theorem dX12_area_34 : decode cX12_area 34 = .ok (.iload_n 2, 1) := by decide +kernel
theorem dX12_area_35 : decode cX12_area 35 = .ok (.iload 4, 2) := by decide +kernel
theorem dX12_area_37 : decode cX12_area 37 = .ok (.invokevirtual 569, 3) := by decide +kernel
theorem dX12_area_40 : decode cX12_area 40 = .ok (.goto 6, 3) := by decide +kernel
theorem dX12_area_43 : decode cX12_area 43 = .ok (.ldc2_w 492, 3) := by decide +kernel
theorem dX12_area_46 : decode cX12_area 46 = .ok (.lreturn, 1) := by decide +kernel
theorem dX12_volume_0 : decode cX12_volume 0 = .ok (.iload_n 1, 1) := by decide +kernel
theorem dX12_volume_1 : decode cX12_volume 1 = .ok (.invokestatic 563, 3) := by decide +kernel
theorem dX12_volume_4 : decode cX12_volume 4 = .ok (.ifCond .eq 28, 3) := by decide +kernel
theorem dX12_volume_7 : decode cX12_volume 7 = .ok (.aload_n 0, 1) := by decide +kernel
theorem dX12_volume_8 : decode cX12_volume 8 = .ok (.iload_n 3, 1) := by decide +kernel
theorem dX12_volume_9 : decode cX12_volume 9 = .ok (.invokevirtual 347, 3) := by decide +kernel
theorem dX12_volume_12 : decode cX12_volume 12 = .ok (.ifCond .eq 20, 3) := by decide +kernel
theorem dX12_volume_15 : decode cX12_volume 15 = .ok (.aload_n 0, 1) := by decide +kernel
theorem dX12_volume_16 : decode cX12_volume 16 = .ok (.iload_n 2, 1) := by decide +kernel
theorem dX12_volume_17 : decode cX12_volume 17 = .ok (.invokevirtual 566, 3) := by decide +kernel
theorem dX12_volume_20 : decode cX12_volume 20 = .ok (.ifCond .eq 12, 3) := by decide +kernel
theorem dX12_volume_23 : decode cX12_volume 23 = .ok (.aload_n 0, 1) := by decide +kernel
theorem dX12_volume_24 : decode cX12_volume 24 = .ok (.iload_n 1, 1) := by decide +kernel
theorem dX12_volume_25 : decode cX12_volume 25 = .ok (.iload_n 3, 1) := by decide +kernel
theorem dX12_volume_26 : decode cX12_volume 26 = .ok (.invokevirtual 572, 3) := by decide +kernel
theorem dX12_volume_29 : decode cX12_volume 29 = .ok (.goto 6, 3) := by decide +kernel
theorem dX12_volume_32 : decode cX12_volume 32 = .ok (.ldc2_w 492, 3) := by decide +kernel
theorem dX12_volume_35 : decode cX12_volume 35 = .ok (.lreturn, 1) := by decide +kernel
theorem dX12_depth_0 : decode cX12_depth 0 = .ok (.iload_n 1, 1) := by decide +kernel
theorem dX12_depth_1 : decode cX12_depth 1 = .ok (.invokestatic 563, 3) := by decide +kernel
theorem dX12_depth_4 : decode cX12_depth 4 = .ok (.ifCond .eq 23, 3) := by decide +kernel
theorem dX12_depth_7 : decode cX12_depth 7 = .ok (.iload_n 3, 1) := by decide +kernel
theorem dX12_depth_8 : decode cX12_depth 8 = .ok (.i2l, 1) := by decide +kernel
theorem dX12_depth_9 : decode cX12_depth 9 = .ok (.lconst 0, 1) := by decide +kernel
theorem dX12_depth_10 : decode cX12_depth 10 = .ok (.ldc2_w 575, 3) := by decide +kernel
theorem dX12_depth_13 : decode cX12_depth 13 = .ok (.invokestatic 155, 3) := by decide +kernel
theorem dX12_depth_16 : decode cX12_depth 16 = .ok (.ifCond .eq 11, 3) := by decide +kernel
theorem dX12_depth_19 : decode cX12_depth 19 = .ok (.aload_n 0, 1) := by decide +kernel
theorem dX12_depth_20 : decode cX12_depth 20 = .ok (.iload_n 2, 1) := by decide +kernel
theorem dX12_depth_21 : decode cX12_depth 21 = .ok (.invokevirtual 566, 3) := by decide +kernel
theorem dX12_depth_24 : decode cX12_depth 24 = .ok (.ifCond .ne 5, 3) := by decide +kernel
theorem dX12_depth_27 : decode cX12_depth 27 = .ok (.iconst (-1), 1) := by decide +kernel
theorem dX12_depth_28 : decode cX12_depth 28 = .ok (.ireturn, 1) := by decide +kernel
theorem dX12_depth_29 : decode cX12_depth 29 = .ok (.iconst 0, 1) := by decide +kernel
theorem dX12_depth_30 : decode cX12_depth 30 = .ok (.istore 4, 2) := by decide +kernel
theorem dX12_depth_32 : decode cX12_depth 32 = .ok (.iload 4, 2) := by decide +kernel
theorem dX12_depth_34 : decode cX12_depth 34 = .ok (.aload_n 0, 1) := by decide +kernel
theorem dX12_depth_35 : decode cX12_depth 35 = .ok (.getfield 341, 3) := by decide +kernel
theorem dX12_depth_38 : decode cX12_depth 38 = .ok (.if_icmp .ge 25, 3) := by decide +kernel
theorem dX12_depth_41 : decode cX12_depth 41 = .ok (.aload_n 0, 1) := by decide +kernel
theorem dX12_depth_42 : decode cX12_depth 42 = .ok (.iload_n 1, 1) := by decide +kernel
theorem dX12_depth_43 : decode cX12_depth 43 = .ok (.iload 4, 2) := by decide +kernel
theorem dX12_depth_45 : decode cX12_depth 45 = .ok (.invokevirtual 572, 3) := by decide +kernel
theorem dX12_depth_48 : decode cX12_depth 48 = .ok (.iload_n 3, 1) := by decide +kernel
theorem dX12_depth_49 : decode cX12_depth 49 = .ok (.i2l, 1) := by decide +kernel
theorem dX12_depth_50 : decode cX12_depth 50 = .ok (.lcmp, 1) := by decide +kernel
theorem dX12_depth_51 : decode cX12_depth 51 = .ok (.ifCond .lt 6, 3) := by decide +kernel
theorem dX12_depth_54 : decode cX12_depth 54 = .ok (.iload 4, 2) := by decide +kernel
theorem dX12_depth_56 : decode cX12_depth 56 = .ok (.ireturn, 1) := by decide +kernel
theorem dX12_depth_57 : decode cX12_depth 57 = .ok (.iinc 4 1, 3) := by decide +kernel
theorem dX12_depth_60 : decode cX12_depth 60 = .ok (.goto (-28), 3) := by decide +kernel
theorem dX12_depth_63 : decode cX12_depth 63 = .ok (.bipush (-2), 2) := by decide +kernel
theorem dX12_depth_65 : decode cX12_depth 65 = .ok (.ireturn, 1) := by decide +kernel
theorem dX12_pace_0 : decode cX12_pace 0 = .ok (.aload_n 0, 1) := by decide +kernel
theorem dX12_pace_1 : decode cX12_pace 1 = .ok (.getfield 338, 3) := by decide +kernel
theorem dX12_pace_4 : decode cX12_pace 4 = .ok (.ifCond .le 37, 3) := by decide +kernel
theorem dX12_pace_7 : decode cX12_pace 7 = .ok (.iload_n 1, 1) := by decide +kernel
theorem dX12_pace_8 : decode cX12_pace 8 = .ok (.i2l, 1) := by decide +kernel
theorem dX12_pace_9 : decode cX12_pace 9 = .ok (.lconst 1, 1) := by decide +kernel
theorem dX12_pace_10 : decode cX12_pace 10 = .ok (.ldc2_w 153, 3) := by decide +kernel
theorem dX12_pace_13 : decode cX12_pace 13 = .ok (.invokestatic 155, 3) := by decide +kernel
theorem dX12_pace_16 : decode cX12_pace 16 = .ok (.ifCond .eq 25, 3) := by decide +kernel
theorem dX12_pace_19 : decode cX12_pace 19 = .ok (.iload_n 1, 1) := by decide +kernel
theorem dX12_pace_20 : decode cX12_pace 20 = .ok (.i2l, 1) := by decide +kernel
theorem dX12_pace_21 : decode cX12_pace 21 = .ok (.aload_n 0, 1) := by decide +kernel
theorem dX12_pace_22 : decode cX12_pace 22 = .ok (.getfield 338, 3) := by decide +kernel
theorem dX12_pace_25 : decode cX12_pace 25 = .ok (.iconst 1, 1) := by decide +kernel
theorem dX12_pace_26 : decode cX12_pace 26 = .ok (.isub, 1) := by decide +kernel
theorem dX12_pace_27 : decode cX12_pace 27 = .ok (.i2l, 1) := by decide +kernel
theorem dX12_pace_28 : decode cX12_pace 28 = .ok (.lmul, 1) := by decide +kernel
theorem dX12_pace_29 : decode cX12_pace 29 = .ok (.aload_n 0, 1) := by decide +kernel
theorem dX12_pace_30 : decode cX12_pace 30 = .ok (.getfield 13, 3) := by decide +kernel
theorem dX12_pace_33 : decode cX12_pace 33 = .ok (.i2l, 1) := by decide +kernel
theorem dX12_pace_34 : decode cX12_pace 34 = .ok (.lmul, 1) := by decide +kernel
theorem dX12_pace_35 : decode cX12_pace 35 = .ok (.invokestatic 579, 3) := by decide +kernel
theorem dX12_pace_38 : decode cX12_pace 38 = .ok (.goto 4, 3) := by decide +kernel
theorem dX12_pace_41 : decode cX12_pace 41 = .ok (.iconst (-1), 1) := by decide +kernel
theorem dX12_pace_42 : decode cX12_pace 42 = .ok (.ireturn, 1) := by decide +kernel
theorem dX12_length_0 : decode cX12_length 0 = .ok (.aload_n 0, 1) := by decide +kernel
theorem dX12_length_1 : decode cX12_length 1 = .ok (.iload_n 1, 1) := by decide +kernel
theorem dX12_length_2 : decode cX12_length 2 = .ok (.iload_n 2, 1) := by decide +kernel
theorem dX12_length_3 : decode cX12_length 3 = .ok (.invokevirtual 511, 3) := by decide +kernel
theorem dX12_length_6 : decode cX12_length 6 = .ok (.ifCond .eq 18, 3) := by decide +kernel
theorem dX12_length_9 : decode cX12_length 9 = .ok (.aload_n 0, 1) := by decide +kernel
theorem dX12_length_10 : decode cX12_length 10 = .ok (.iload_n 1, 1) := by decide +kernel
theorem dX12_length_11 : decode cX12_length 11 = .ok (.iconst 0, 1) := by decide +kernel
theorem dX12_length_12 : decode cX12_length 12 = .ok (.aload_n 0, 1) := by decide +kernel
theorem dX12_length_13 : decode cX12_length 13 = .ok (.getfield 338, 3) := by decide +kernel
theorem dX12_length_16 : decode cX12_length 16 = .ok (.iconst 1, 1) := by decide +kernel
theorem dX12_length_17 : decode cX12_length 17 = .ok (.isub, 1) := by decide +kernel
theorem dX12_length_18 : decode cX12_length 18 = .ok (.invokevirtual 586, 3) := by decide +kernel
theorem dX12_length_21 : decode cX12_length 21 = .ok (.goto 4, 3) := by decide +kernel
theorem dX12_length_24 : decode cX12_length 24 = .ok (.iconst (-1), 1) := by decide +kernel
theorem dX12_length_25 : decode cX12_length 25 = .ok (.ireturn, 1) := by decide +kernel
theorem dX12_joints_0 : decode cX12_joints 0 = .ok (.aload_n 0, 1) := by decide +kernel
theorem dX12_joints_1 : decode cX12_joints 1 = .ok (.iload_n 1, 1) := by decide +kernel
theorem dX12_joints_2 : decode cX12_joints 2 = .ok (.invokevirtual 347, 3) := by decide +kernel
theorem dX12_joints_5 : decode cX12_joints 5 = .ok (.ifCond .eq 28, 3) := by decide +kernel
theorem dX12_joints_8 : decode cX12_joints 8 = .ok (.iload_n 2, 1) := by decide +kernel
theorem dX12_joints_9 : decode cX12_joints 9 = .ok (.invokestatic 484, 3) := by decide +kernel
theorem dX12_joints_12 : decode cX12_joints 12 = .ok (.ifCond .eq 21, 3) := by decide +kernel
theorem dX12_joints_15 : decode cX12_joints 15 = .ok (.iload_n 3, 1) := by decide +kernel
theorem dX12_joints_16 : decode cX12_joints 16 = .ok (.i2l, 1) := by decide +kernel
theorem dX12_joints_17 : decode cX12_joints 17 = .ok (.lconst 1, 1) := by decide +kernel
theorem dX12_joints_18 : decode cX12_joints 18 = .ok (.ldc2_w 598, 3) := by decide +kernel
theorem dX12_joints_21 : decode cX12_joints 21 = .ok (.invokestatic 155, 3) := by decide +kernel
theorem dX12_joints_24 : decode cX12_joints 24 = .ok (.ifCond .eq 9, 3) := by decide +kernel
theorem dX12_joints_27 : decode cX12_joints 27 = .ok (.iload 4, 2) := by decide +kernel
theorem dX12_joints_29 : decode cX12_joints 29 = .ok (.iconst (-1), 1) := by decide +kernel
theorem dX12_joints_30 : decode cX12_joints 30 = .ok (.if_icmp .ge 6, 3) := by decide +kernel
theorem dX12_joints_33 : decode cX12_joints 33 = .ok (.bipush (-3), 2) := by decide +kernel
theorem dX12_joints_35 : decode cX12_joints 35 = .ok (.ireturn, 1) := by decide +kernel
theorem dX12_joints_36 : decode cX12_joints 36 = .ok (.iconst 0, 1) := by decide +kernel
theorem dX12_joints_37 : decode cX12_joints 37 = .ok (.istore 5, 2) := by decide +kernel
theorem dX12_joints_39 : decode cX12_joints 39 = .ok (.iload 5, 2) := by decide +kernel
theorem dX12_joints_41 : decode cX12_joints 41 = .ok (.iload_n 1, 1) := by decide +kernel
theorem dX12_joints_42 : decode cX12_joints 42 = .ok (.if_icmp .gt 22, 3) := by decide +kernel
theorem dX12_joints_45 : decode cX12_joints 45 = .ok (.aload_n 0, 1) := by decide +kernel
theorem dX12_joints_46 : decode cX12_joints 46 = .ok (.iload 5, 2) := by decide +kernel
theorem dX12_joints_48 : decode cX12_joints 48 = .ok (.iload_n 2, 1) := by decide +kernel
theorem dX12_joints_49 : decode cX12_joints 49 = .ok (.invokevirtual 511, 3) := by decide +kernel
theorem dX12_joints_52 : decode cX12_joints 52 = .ok (.ifCond .ne 6, 3) := by decide +kernel
theorem dX12_joints_55 : decode cX12_joints 55 = .ok (.bipush (-3), 2) := by decide +kernel
theorem dX12_joints_57 : decode cX12_joints 57 = .ok (.ireturn, 1) := by decide +kernel
theorem dX12_joints_58 : decode cX12_joints 58 = .ok (.iinc 5 1, 3) := by decide +kernel
theorem dX12_joints_61 : decode cX12_joints 61 = .ok (.goto (-22), 3) := by decide +kernel
theorem dX12_joints_64 : decode cX12_joints 64 = .ok (.aload_n 0, 1) := by decide +kernel
theorem dX12_joints_65 : decode cX12_joints 65 = .ok (.iconst 0, 1) := by decide +kernel
theorem dX12_joints_66 : decode cX12_joints 66 = .ok (.putfield 595, 3) := by decide +kernel
theorem dX12_joints_69 : decode cX12_joints 69 = .ok (.iconst 0, 1) := by decide +kernel
theorem dX12_joints_70 : decode cX12_joints 70 = .ok (.istore 5, 2) := by decide +kernel
theorem dX12_joints_72 : decode cX12_joints 72 = .ok (.iload 5, 2) := by decide +kernel
theorem dX12_joints_74 : decode cX12_joints 74 = .ok (.iload_n 1, 1) := by decide +kernel
theorem dX12_joints_75 : decode cX12_joints 75 = .ok (.if_icmp .gt 30, 3) := by decide +kernel
theorem dX12_joints_78 : decode cX12_joints 78 = .ok (.aload_n 0, 1) := by decide +kernel
theorem dX12_joints_79 : decode cX12_joints 79 = .ok (.aload_n 0, 1) := by decide +kernel
theorem dX12_joints_80 : decode cX12_joints 80 = .ok (.getfield 595, 3) := by decide +kernel
theorem dX12_joints_83 : decode cX12_joints 83 = .ok (.putfield 589, 3) := by decide +kernel
theorem dX12_joints_86 : decode cX12_joints 86 = .ok (.aload_n 0, 1) := by decide +kernel
theorem dX12_joints_87 : decode cX12_joints 87 = .ok (.iload 5, 2) := by decide +kernel
theorem dX12_joints_89 : decode cX12_joints 89 = .ok (.iload_n 3, 1) := by decide +kernel
theorem dX12_joints_90 : decode cX12_joints 90 = .ok (.invokevirtual 600, 3) := by decide +kernel
theorem dX12_joints_93 : decode cX12_joints 93 = .ok (.ifCond .ne 6, 3) := by decide +kernel
theorem dX12_joints_96 : decode cX12_joints 96 = .ok (.bipush (-2), 2) := by decide +kernel
theorem dX12_joints_98 : decode cX12_joints 98 = .ok (.ireturn, 1) := by decide +kernel
theorem dX12_joints_99 : decode cX12_joints 99 = .ok (.iinc 5 1, 3) := by decide +kernel
theorem dX12_joints_102 : decode cX12_joints 102 = .ok (.goto (-30), 3) := by decide +kernel
theorem dX12_joints_105 : decode cX12_joints 105 = .ok (.iconst 0, 1) := by decide +kernel
theorem dX12_joints_106 : decode cX12_joints 106 = .ok (.istore 5, 2) := by decide +kernel
theorem dX12_joints_108 : decode cX12_joints 108 = .ok (.iconst 0, 1) := by decide +kernel
theorem dX12_joints_109 : decode cX12_joints 109 = .ok (.istore 6, 2) := by decide +kernel
theorem dX12_joints_111 : decode cX12_joints 111 = .ok (.iload 6, 2) := by decide +kernel
theorem dX12_joints_113 : decode cX12_joints 113 = .ok (.aload_n 0, 1) := by decide +kernel
theorem dX12_joints_114 : decode cX12_joints 114 = .ok (.getfield 338, 3) := by decide +kernel
theorem dX12_joints_117 : decode cX12_joints 117 = .ok (.if_icmp .ge 38, 3) := by decide +kernel
theorem dX12_joints_120 : decode cX12_joints 120 = .ok (.aload_n 0, 1) := by decide +kernel
theorem dX12_joints_121 : decode cX12_joints 121 = .ok (.getfield 595, 3) := by decide +kernel
theorem dX12_joints_124 : decode cX12_joints 124 = .ok (.i2l, 1) := by decide +kernel
theorem dX12_joints_125 : decode cX12_joints 125 = .ok (.iload 6, 2) := by decide +kernel
theorem dX12_joints_127 : decode cX12_joints 127 = .ok (.invokestatic 356, 3) := by decide +kernel
theorem dX12_joints_130 : decode cX12_joints 130 = .ok (.ifCond .ne 6, 3) := by decide +kernel
theorem dX12_joints_133 : decode cX12_joints 133 = .ok (.goto 16, 3) := by decide +kernel
theorem dX12_joints_136 : decode cX12_joints 136 = .ok (.iload 5, 2) := by decide +kernel
theorem dX12_joints_138 : decode cX12_joints 138 = .ok (.iload 4, 2) := by decide +kernel
theorem dX12_joints_140 : decode cX12_joints 140 = .ok (.if_icmp .ne 6, 3) := by decide +kernel
theorem dX12_joints_143 : decode cX12_joints 143 = .ok (.iload 6, 2) := by decide +kernel
theorem dX12_joints_145 : decode cX12_joints 145 = .ok (.ireturn, 1) := by decide +kernel
theorem dX12_joints_146 : decode cX12_joints 146 = .ok (.iinc 5 1, 3) := by decide +kernel
theorem dX12_joints_149 : decode cX12_joints 149 = .ok (.iinc 6 1, 3) := by decide +kernel
theorem dX12_joints_152 : decode cX12_joints 152 = .ok (.goto (-41), 3) := by decide +kernel
theorem dX12_joints_155 : decode cX12_joints 155 = .ok (.iload 4, 2) := by decide +kernel
theorem dX12_joints_157 : decode cX12_joints 157 = .ok (.iconst (-1), 1) := by decide +kernel
theorem dX12_joints_158 : decode cX12_joints 158 = .ok (.if_icmp .ne 8, 3) := by decide +kernel
theorem dX12_joints_161 : decode cX12_joints 161 = .ok (.iload 5, 2) := by decide +kernel
theorem dX12_joints_163 : decode cX12_joints 163 = .ok (.goto 5, 3) := by decide +kernel
theorem dX12_joints_166 : decode cX12_joints 166 = .ok (.bipush (-3), 2) := by decide +kernel
theorem dX12_joints_168 : decode cX12_joints 168 = .ok (.ireturn, 1) := by decide +kernel
theorem dX12_lasts_0 : decode cX12_lasts 0 = .ok (.iload_n 1, 1) := by decide +kernel
theorem dX12_lasts_1 : decode cX12_lasts 1 = .ok (.i2l, 1) := by decide +kernel
theorem dX12_lasts_2 : decode cX12_lasts 2 = .ok (.lconst 1, 1) := by decide +kernel
theorem dX12_lasts_3 : decode cX12_lasts 3 = .ok (.ldc2_w 603, 3) := by decide +kernel
theorem dX12_lasts_6 : decode cX12_lasts 6 = .ok (.invokestatic 155, 3) := by decide +kernel
theorem dX12_lasts_9 : decode cX12_lasts 9 = .ok (.ifCond .eq 15, 3) := by decide +kernel
theorem dX12_lasts_12 : decode cX12_lasts 12 = .ok (.iload_n 2, 1) := by decide +kernel
theorem dX12_lasts_13 : decode cX12_lasts 13 = .ok (.i2l, 1) := by decide +kernel
theorem dX12_lasts_14 : decode cX12_lasts 14 = .ok (.lconst 0, 1) := by decide +kernel
theorem dX12_lasts_15 : decode cX12_lasts 15 = .ok (.ldc2_w 605, 3) := by decide +kernel
theorem dX12_lasts_18 : decode cX12_lasts 18 = .ok (.invokestatic 155, 3) := by decide +kernel
theorem dX12_lasts_21 : decode cX12_lasts 21 = .ok (.ifCond .ne 5, 3) := by decide +kernel
theorem dX12_lasts_24 : decode cX12_lasts 24 = .ok (.iconst (-1), 1) := by decide +kernel
theorem dX12_lasts_25 : decode cX12_lasts 25 = .ok (.ireturn, 1) := by decide +kernel
theorem dX12_lasts_26 : decode cX12_lasts 26 = .ok (.iload_n 1, 1) := by decide +kernel
theorem dX12_lasts_27 : decode cX12_lasts 27 = .ok (.istore_n 3, 1) := by decide +kernel
theorem dX12_lasts_28 : decode cX12_lasts 28 = .ok (.iconst 0, 1) := by decide +kernel
theorem dX12_lasts_29 : decode cX12_lasts 29 = .ok (.istore 4, 2) := by decide +kernel
theorem dX12_lasts_31 : decode cX12_lasts 31 = .ok (.iload 4, 2) := by decide +kernel
theorem dX12_lasts_33 : decode cX12_lasts 33 = .ok (.sipush 2000, 3) := by decide +kernel
theorem dX12_lasts_36 : decode cX12_lasts 36 = .ok (.if_icmp .ge 52, 3) := by decide +kernel
theorem dX12_lasts_39 : decode cX12_lasts 39 = .ok (.aload_n 0, 1) := by decide +kernel
theorem dX12_lasts_40 : decode cX12_lasts 40 = .ok (.invokevirtual 360, 3) := by decide +kernel
theorem dX12_lasts_43 : decode cX12_lasts 43 = .ok (.aload_n 0, 1) := by decide +kernel
theorem dX12_lasts_44 : decode cX12_lasts 44 = .ok (.iload 4, 2) := by decide +kernel
theorem dX12_lasts_46 : decode cX12_lasts 46 = .ok (.putfield 315, 3) := by decide +kernel
theorem dX12_lasts_49 : decode cX12_lasts 49 = .ok (.aload_n 0, 1) := by decide +kernel
theorem dX12_lasts_50 : decode cX12_lasts 50 = .ok (.iload_n 3, 1) := by decide +kernel
theorem dX12_lasts_51 : decode cX12_lasts 51 = .ok (.putfield 318, 3) := by decide +kernel
theorem dX12_lasts_54 : decode cX12_lasts 54 = .ok (.aload_n 0, 1) := by decide +kernel
theorem dX12_lasts_55 : decode cX12_lasts 55 = .ok (.iload_n 2, 1) := by decide +kernel
theorem dX12_lasts_56 : decode cX12_lasts 56 = .ok (.putfield 321, 3) := by decide +kernel
theorem dX12_lasts_59 : decode cX12_lasts 59 = .ok (.iload_n 3, 1) := by decide +kernel
theorem dX12_lasts_60 : decode cX12_lasts 60 = .ok (.aload_n 0, 1) := by decide +kernel
theorem dX12_lasts_61 : decode cX12_lasts 61 = .ok (.iconst 2, 1) := by decide +kernel
theorem dX12_lasts_62 : decode cX12_lasts 62 = .ok (.bipush 101, 2) := by decide +kernel
theorem dX12_lasts_64 : decode cX12_lasts 64 = .ok (.iconst 0, 1) := by decide +kernel
theorem dX12_lasts_65 : decode cX12_lasts 65 = .ok (.sipush 1000, 3) := by decide +kernel
theorem dX12_lasts_68 : decode cX12_lasts 68 = .ok (.invokevirtual 379, 3) := by decide +kernel
theorem dX12_lasts_71 : decode cX12_lasts 71 = .ok (.isub, 1) := by decide +kernel
theorem dX12_lasts_72 : decode cX12_lasts 72 = .ok (.istore_n 3, 1) := by decide +kernel
theorem dX12_lasts_73 : decode cX12_lasts 73 = .ok (.iload_n 3, 1) := by decide +kernel
theorem dX12_lasts_74 : decode cX12_lasts 74 = .ok (.ifCond .gt 8, 3) := by decide +kernel
theorem dX12_lasts_77 : decode cX12_lasts 77 = .ok (.iload 4, 2) := by decide +kernel
theorem dX12_lasts_79 : decode cX12_lasts 79 = .ok (.iconst 1, 1) := by decide +kernel
theorem dX12_lasts_80 : decode cX12_lasts 80 = .ok (.iadd, 1) := by decide +kernel
theorem dX12_lasts_81 : decode cX12_lasts 81 = .ok (.ireturn, 1) := by decide +kernel
theorem dX12_lasts_82 : decode cX12_lasts 82 = .ok (.iinc 4 1, 3) := by decide +kernel
theorem dX12_lasts_85 : decode cX12_lasts 85 = .ok (.goto (-54), 3) := by decide +kernel
theorem dX12_lasts_88 : decode cX12_lasts 88 = .ok (.bipush (-2), 2) := by decide +kernel
theorem dX12_lasts_90 : decode cX12_lasts 90 = .ok (.ireturn, 1) := by decide +kernel
theorem dX12_check_0 : decode cX12_check 0 = .ok (.aload_n 0, 1) := by decide +kernel
theorem dX12_check_1 : decode cX12_check 1 = .ok (.iload_n 1, 1) := by decide +kernel
theorem dX12_check_2 : decode cX12_check 2 = .ok (.iload_n 2, 1) := by decide +kernel
theorem dX12_check_3 : decode cX12_check 3 = .ok (.invokevirtual 511, 3) := by decide +kernel
theorem dX12_check_6 : decode cX12_check 6 = .ok (.ifCond .eq 17, 3) := by decide +kernel
theorem dX12_check_9 : decode cX12_check 9 = .ok (.iload_n 3, 1) := by decide +kernel
theorem dX12_check_10 : decode cX12_check 10 = .ok (.ifCond .lt 13, 3) := by decide +kernel
theorem dX12_check_13 : decode cX12_check 13 = .ok (.iload_n 3, 1) := by decide +kernel
theorem dX12_check_14 : decode cX12_check 14 = .ok (.aload_n 0, 1) := by decide +kernel
theorem dX12_check_15 : decode cX12_check 15 = .ok (.getfield 162, 3) := by decide +kernel
theorem dX12_check_18 : decode cX12_check 18 = .ok (.iconst 4, 1) := by decide +kernel
theorem dX12_check_19 : decode cX12_check 19 = .ok (.idiv, 1) := by decide +kernel
theorem dX12_check_20 : decode cX12_check 20 = .ok (.if_icmp .le 6, 3) := by decide +kernel
theorem dX12_check_23 : decode cX12_check 23 = .ok (.bipush (-2), 2) := by decide +kernel
theorem dX12_check_25 : decode cX12_check 25 = .ok (.ireturn, 1) := by decide +kernel
theorem dX12_check_26 : decode cX12_check 26 = .ok (.aload_n 0, 1) := by decide +kernel
theorem dX12_check_27 : decode cX12_check 27 = .ok (.iconst 0, 1) := by decide +kernel
theorem dX12_check_28 : decode cX12_check 28 = .ok (.putfield 162, 3) := by decide +kernel
theorem dX12_check_31 : decode cX12_check 31 = .ok (.iconst 0, 1) := by decide +kernel
theorem dX12_check_32 : decode cX12_check 32 = .ok (.istore 4, 2) := by decide +kernel
theorem dX12_check_34 : decode cX12_check 34 = .ok (.iload 4, 2) := by decide +kernel
theorem dX12_check_36 : decode cX12_check 36 = .ok (.aload_n 0, 1) := by decide +kernel
theorem dX12_check_37 : decode cX12_check 37 = .ok (.getfield 338, 3) := by decide +kernel
theorem dX12_check_40 : decode cX12_check 40 = .ok (.if_icmp .ge 36, 3) := by decide +kernel
theorem dX12_check_43 : decode cX12_check 43 = .ok (.iload 4, 2) := by decide +kernel
theorem dX12_check_45 : decode cX12_check 45 = .ok (.iload_n 3, 1) := by decide +kernel
theorem dX12_check_46 : decode cX12_check 46 = .ok (.if_icmp .ne 5, 3) := by decide +kernel
theorem dX12_check_49 : decode cX12_check 49 = .ok (.iload_n 3, 1) := by decide +kernel
theorem dX12_check_50 : decode cX12_check 50 = .ok (.ireturn, 1) := by decide +kernel
theorem dX12_check_51 : decode cX12_check 51 = .ok (.aload_n 0, 1) := by decide +kernel
theorem dX12_check_52 : decode cX12_check 52 = .ok (.iload 4, 2) := by decide +kernel
theorem dX12_check_54 : decode cX12_check 54 = .ok (.invokevirtual 607, 3) := by decide +kernel
theorem dX12_check_57 : decode cX12_check 57 = .ok (.aload_n 0, 1) := by decide +kernel
theorem dX12_check_58 : decode cX12_check 58 = .ok (.iload_n 1, 1) := by decide +kernel
theorem dX12_check_59 : decode cX12_check 59 = .ok (.iload 4, 2) := by decide +kernel
theorem dX12_check_61 : decode cX12_check 61 = .ok (.invokevirtual 516, 3) := by decide +kernel
theorem dX12_check_64 : decode cX12_check 64 = .ok (.if_icmp .eq 6, 3) := by decide +kernel
theorem dX12_check_67 : decode cX12_check 67 = .ok (.iload 4, 2) := by decide +kernel
theorem dX12_check_69 : decode cX12_check 69 = .ok (.ireturn, 1) := by decide +kernel
theorem dX12_check_70 : decode cX12_check 70 = .ok (.iinc 4 1, 3) := by decide +kernel
theorem dX12_check_73 : decode cX12_check 73 = .ok (.goto (-39), 3) := by decide +kernel
theorem dX12_check_76 : decode cX12_check 76 = .ok (.iload_n 3, 1) := by decide +kernel
theorem dX12_check_77 : decode cX12_check 77 = .ok (.aload_n 0, 1) := by decide +kernel
theorem dX12_check_78 : decode cX12_check 78 = .ok (.getfield 338, 3) := by decide +kernel
theorem dX12_check_81 : decode cX12_check 81 = .ok (.if_icmp .ne 7, 3) := by decide +kernel
theorem dX12_check_84 : decode cX12_check 84 = .ok (.iconst (-1), 1) := by decide +kernel
theorem dX12_check_85 : decode cX12_check 85 = .ok (.goto 7, 3) := by decide +kernel
theorem dX12_check_88 : decode cX12_check 88 = .ok (.aload_n 0, 1) := by decide +kernel
theorem dX12_check_89 : decode cX12_check 89 = .ok (.getfield 338, 3) := by decide +kernel
theorem dX12_check_92 : decode cX12_check 92 = .ok (.ireturn, 1) := by decide +kernel
theorem dX12_count_0 : decode cX12_count 0 = .ok (.aload_n 0, 1) := by decide +kernel
theorem dX12_count_1 : decode cX12_count 1 = .ok (.iload_n 1, 1) := by decide +kernel
theorem dX12_count_2 : decode cX12_count 2 = .ok (.bipush 10, 2) := by decide +kernel
theorem dX12_count_4 : decode cX12_count 4 = .ok (.isub, 1) := by decide +kernel
theorem dX12_count_5 : decode cX12_count 5 = .ok (.invokevirtual 415, 3) := by decide +kernel
theorem dX12_count_8 : decode cX12_count 8 = .ok (.ifCond .eq 12, 3) := by decide +kernel
theorem dX12_count_11 : decode cX12_count 11 = .ok (.aload_n 0, 1) := by decide +kernel
theorem dX12_count_12 : decode cX12_count 12 = .ok (.iload_n 1, 1) := by decide +kernel
theorem dX12_count_13 : decode cX12_count 13 = .ok (.bipush 10, 2) := by decide +kernel
theorem dX12_count_15 : decode cX12_count 15 = .ok (.isub, 1) := by decide +kernel
theorem dX12_count_16 : decode cX12_count 16 = .ok (.invokevirtual 430, 3) := by decide +kernel
theorem dX12_count_19 : decode cX12_count 19 = .ok (.ireturn, 1) := by decide +kernel
theorem dX12_count_20 : decode cX12_count 20 = .ok (.iload_n 1, 1) := by decide +kernel
theorem dX12_count_21 : decode cX12_count 21 = .ok (.tableswitch 111 0 9 #[55, 60, 65, 70, 75, 80, 87, 94, 101, 106], 55) := by decide +kernel
theorem dX12_count_76 : decode cX12_count 76 = .ok (.aload_n 0, 1) := by decide +kernel
theorem dX12_count_77 : decode cX12_count 77 = .ok (.getfield 338, 3) := by decide +kernel
theorem dX12_count_80 : decode cX12_count 80 = .ok (.ireturn, 1) := by decide +kernel
theorem dX12_count_81 : decode cX12_count 81 = .ok (.aload_n 0, 1) := by decide +kernel
theorem dX12_count_82 : decode cX12_count 82 = .ok (.getfield 341, 3) := by decide +kernel
theorem dX12_count_85 : decode cX12_count 85 = .ok (.ireturn, 1) := by decide +kernel
theorem dX12_count_86 : decode cX12_count 86 = .ok (.aload_n 0, 1) := by decide +kernel
theorem dX12_count_87 : decode cX12_count 87 = .ok (.invokevirtual 399, 3) := by decide +kernel
theorem dX12_count_90 : decode cX12_count 90 = .ok (.ireturn, 1) := by decide +kernel
theorem dX12_count_91 : decode cX12_count 91 = .ok (.aload_n 0, 1) := by decide +kernel
theorem dX12_count_92 : decode cX12_count 92 = .ok (.getfield 17, 3) := by decide +kernel
theorem dX12_count_95 : decode cX12_count 95 = .ok (.ireturn, 1) := by decide +kernel
theorem dX12_count_96 : decode cX12_count 96 = .ok (.aload_n 0, 1) := by decide +kernel
theorem dX12_count_97 : decode cX12_count 97 = .ok (.getfield 162, 3) := by decide +kernel
theorem dX12_count_100 : decode cX12_count 100 = .ok (.ireturn, 1) := by decide +kernel
theorem dX12_count_101 : decode cX12_count 101 = .ok (.aload_n 0, 1) := by decide +kernel
theorem dX12_count_102 : decode cX12_count 102 = .ok (.getfield 20, 3) := by decide +kernel
theorem dX12_count_105 : decode cX12_count 105 = .ok (.iconst 0, 1) := by decide +kernel
theorem dX12_count_106 : decode cX12_count 106 = .ok (.iaload, 1) := by decide +kernel
theorem dX12_count_107 : decode cX12_count 107 = .ok (.ireturn, 1) := by decide +kernel
theorem dX12_count_108 : decode cX12_count 108 = .ok (.aload_n 0, 1) := by decide +kernel
theorem dX12_count_109 : decode cX12_count 109 = .ok (.getfield 20, 3) := by decide +kernel
theorem dX12_count_112 : decode cX12_count 112 = .ok (.iconst 1, 1) := by decide +kernel
theorem dX12_count_113 : decode cX12_count 113 = .ok (.iaload, 1) := by decide +kernel
theorem dX12_count_114 : decode cX12_count 114 = .ok (.ireturn, 1) := by decide +kernel
theorem dX12_count_115 : decode cX12_count 115 = .ok (.aload_n 0, 1) := by decide +kernel
theorem dX12_count_116 : decode cX12_count 116 = .ok (.getfield 20, 3) := by decide +kernel
theorem dX12_count_119 : decode cX12_count 119 = .ok (.iconst 2, 1) := by decide +kernel
theorem dX12_count_120 : decode cX12_count 120 = .ok (.iaload, 1) := by decide +kernel
theorem dX12_count_121 : decode cX12_count 121 = .ok (.ireturn, 1) := by decide +kernel
theorem dX12_count_122 : decode cX12_count 122 = .ok (.aload_n 0, 1) := by decide +kernel
theorem dX12_count_123 : decode cX12_count 123 = .ok (.getfield 369, 3) := by decide +kernel
theorem dX12_count_126 : decode cX12_count 126 = .ok (.ireturn, 1) := by decide +kernel
theorem dX12_count_127 : decode cX12_count 127 = .ok (.aload_n 0, 1) := by decide +kernel
theorem dX12_count_128 : decode cX12_count 128 = .ok (.invokevirtual 557, 3) := by decide +kernel
theorem dX12_count_131 : decode cX12_count 131 = .ok (.ireturn, 1) := by decide +kernel
theorem dX12_count_132 : decode cX12_count 132 = .ok (.iconst (-1), 1) := by decide +kernel
theorem dX12_count_133 : decode cX12_count 133 = .ok (.ireturn, 1) := by decide +kernel
theorem dJ7_fill_53178_0 : decode cJ7_fill_53178 0 = .ok (.iconst 0, 1) := by decide +kernel
theorem dJ7_fill_53178_1 : decode cJ7_fill_53178 1 = .ok (.istore_n 2, 1) := by decide +kernel
theorem dJ7_fill_53178_2 : decode cJ7_fill_53178 2 = .ok (.aload_n 0, 1) := by decide +kernel
theorem dJ7_fill_53178_3 : decode cJ7_fill_53178 3 = .ok (.arraylength, 1) := by decide +kernel
theorem dJ7_fill_53178_4 : decode cJ7_fill_53178 4 = .ok (.istore_n 3, 1) := by decide +kernel
theorem dJ7_fill_53178_5 : decode cJ7_fill_53178 5 = .ok (.iload_n 2, 1) := by decide +kernel
theorem dJ7_fill_53178_6 : decode cJ7_fill_53178 6 = .ok (.iload_n 3, 1) := by decide +kernel
theorem dJ7_fill_53178_7 : decode cJ7_fill_53178 7 = .ok (.if_icmp .ge 13, 3) := by decide +kernel
theorem dJ7_fill_53178_10 : decode cJ7_fill_53178 10 = .ok (.aload_n 0, 1) := by decide +kernel
theorem dJ7_fill_53178_11 : decode cJ7_fill_53178 11 = .ok (.iload_n 2, 1) := by decide +kernel
theorem dJ7_fill_53178_12 : decode cJ7_fill_53178 12 = .ok (.iload_n 1, 1) := by decide +kernel
theorem dJ7_fill_53178_13 : decode cJ7_fill_53178 13 = .ok (.iastore, 1) := by decide +kernel
theorem dJ7_fill_53178_14 : decode cJ7_fill_53178 14 = .ok (.iinc 2 1, 3) := by decide +kernel
theorem dJ7_fill_53178_17 : decode cJ7_fill_53178 17 = .ok (.goto (-12), 3) := by decide +kernel
theorem dJ7_fill_53178_20 : decode cJ7_fill_53178 20 = .ok (.return_, 1) := by decide +kernel
