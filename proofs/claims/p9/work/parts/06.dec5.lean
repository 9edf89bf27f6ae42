theorem dX12_works_102 : decode cX12_works 102 = .ok (.iaload, 1) := by decide +kernel
theorem dX12_works_103 : decode cX12_works 103 = .ok (.goto 14, 3) := by decide +kernel
theorem dX12_works_106 : decode cX12_works 106 = .ok (.aload_n 0, 1) := by decide +kernel
theorem dX12_works_107 : decode cX12_works 107 = .ok (.aload_n 0, 1) := by decide +kernel
theorem dX12_works_108 : decode cX12_works 108 = .ok (.getfield 39, 3) := by decide +kernel
theorem dX12_works_111 : decode cX12_works 111 = .ok (.iload 4, 2) := by decide +kernel
theorem dX12_works_113 : decode cX12_works 113 = .ok (.iaload, 1) := by decide +kernel
theorem dX12_works_114 : decode cX12_works 114 = .ok (.invokevirtual 331, 3) := by decide +kernel
theorem dX12_works_117 : decode cX12_works 117 = .ok (.iastore, 1) := by decide +kernel
theorem dX12_works_118 : decode cX12_works 118 = .ok (.iinc 3 1, 3) := by decide +kernel
theorem dX12_works_121 : decode cX12_works 121 = .ok (.iinc 4 1, 3) := by decide +kernel
theorem dX12_works_124 : decode cX12_works 124 = .ok (.goto (-119), 3) := by decide +kernel
theorem dX12_works_127 : decode cX12_works 127 = .ok (.return_, 1) := by decide +kernel
theorem dX12_tells_0 : decode cX12_tells 0 = .ok (.bipush 14, 2) := by decide +kernel
theorem dX12_tells_2 : decode cX12_tells 2 = .ok (.iload_n 1, 1) := by decide +kernel
theorem dX12_tells_3 : decode cX12_tells 3 = .ok (.imul, 1) := by decide +kernel
theorem dX12_tells_4 : decode cX12_tells 4 = .ok (.istore 5, 2) := by decide +kernel
theorem dX12_tells_6 : decode cX12_tells 6 = .ok (.iload 5, 2) := by decide +kernel
theorem dX12_tells_8 : decode cX12_tells 8 = .ok (.bipush 14, 2) := by decide +kernel
theorem dX12_tells_10 : decode cX12_tells 10 = .ok (.iload_n 1, 1) := by decide +kernel
theorem dX12_tells_11 : decode cX12_tells 11 = .ok (.imul, 1) := by decide +kernel
theorem dX12_tells_12 : decode cX12_tells 12 = .ok (.aload_n 0, 1) := by decide +kernel
theorem dX12_tells_13 : decode cX12_tells 13 = .ok (.getfield 20, 3) := by decide +kernel
theorem dX12_tells_16 : decode cX12_tells 16 = .ok (.iload_n 1, 1) := by decide +kernel
theorem dX12_tells_17 : decode cX12_tells 17 = .ok (.iaload, 1) := by decide +kernel
theorem dX12_tells_18 : decode cX12_tells 18 = .ok (.iadd, 1) := by decide +kernel
theorem dX12_tells_19 : decode cX12_tells 19 = .ok (.if_icmp .ge 127, 3) := by decide +kernel
theorem dX12_tells_22 : decode cX12_tells 22 = .ok (.aload_n 0, 1) := by decide +kernel
theorem dX12_tells_23 : decode cX12_tells 23 = .ok (.getfield 24, 3) := by decide +kernel
theorem dX12_tells_26 : decode cX12_tells 26 = .ok (.iload 5, 2) := by decide +kernel
theorem dX12_tells_28 : decode cX12_tells 28 = .ok (.iaload, 1) := by decide +kernel
theorem dX12_tells_29 : decode cX12_tells 29 = .ok (.iload_n 2, 1) := by decide +kernel
theorem dX12_tells_30 : decode cX12_tells 30 = .ok (.if_icmp .eq 6, 3) := by decide +kernel
theorem dX12_tells_33 : decode cX12_tells 33 = .ok (.goto 107, 3) := by decide +kernel
theorem dX12_tells_36 : decode cX12_tells 36 = .ok (.aload_n 0, 1) := by decide +kernel
theorem dX12_tells_37 : decode cX12_tells 37 = .ok (.aload_n 0, 1) := by decide +kernel
theorem dX12_tells_38 : decode cX12_tells 38 = .ok (.getfield 30, 3) := by decide +kernel
theorem dX12_tells_41 : decode cX12_tells 41 = .ok (.iload 5, 2) := by decide +kernel
theorem dX12_tells_43 : decode cX12_tells 43 = .ok (.iaload, 1) := by decide +kernel
theorem dX12_tells_44 : decode cX12_tells 44 = .ok (.aload_n 0, 1) := by decide +kernel
theorem dX12_tells_45 : decode cX12_tells 45 = .ok (.getfield 33, 3) := by decide +kernel
theorem dX12_tells_48 : decode cX12_tells 48 = .ok (.iload 5, 2) := by decide +kernel
theorem dX12_tells_50 : decode cX12_tells 50 = .ok (.iaload, 1) := by decide +kernel
theorem dX12_tells_51 : decode cX12_tells 51 = .ok (.invokevirtual 335, 3) := by decide +kernel
theorem dX12_tells_54 : decode cX12_tells 54 = .ok (.aload_n 0, 1) := by decide +kernel
theorem dX12_tells_55 : decode cX12_tells 55 = .ok (.getfield 66, 3) := by decide +kernel
theorem dX12_tells_58 : decode cX12_tells 58 = .ok (.iconst 0, 1) := by decide +kernel
theorem dX12_tells_59 : decode cX12_tells 59 = .ok (.baload, 1) := by decide +kernel
theorem dX12_tells_60 : decode cX12_tells 60 = .ok (.ifCond .ne 80, 3) := by decide +kernel
theorem dX12_tells_63 : decode cX12_tells 63 = .ok (.aload_n 0, 1) := by decide +kernel
theorem dX12_tells_64 : decode cX12_tells 64 = .ok (.getfield 63, 3) := by decide +kernel
theorem dX12_tells_67 : decode cX12_tells 67 = .ok (.iconst 0, 1) := by decide +kernel
theorem dX12_tells_68 : decode cX12_tells 68 = .ok (.iaload, 1) := by decide +kernel
theorem dX12_tells_69 : decode cX12_tells 69 = .ok (.iconst 1, 1) := by decide +kernel
theorem dX12_tells_70 : decode cX12_tells 70 = .ok (.if_icmp .eq 6, 3) := by decide +kernel
theorem dX12_tells_73 : decode cX12_tells 73 = .ok (.goto 67, 3) := by decide +kernel
theorem dX12_tells_76 : decode cX12_tells 76 = .ok (.aload_n 0, 1) := by decide +kernel
theorem dX12_tells_77 : decode cX12_tells 77 = .ok (.aload_n 0, 1) := by decide +kernel
theorem dX12_tells_78 : decode cX12_tells 78 = .ok (.getfield 27, 3) := by decide +kernel
theorem dX12_tells_81 : decode cX12_tells 81 = .ok (.iload 5, 2) := by decide +kernel
theorem dX12_tells_83 : decode cX12_tells 83 = .ok (.iaload, 1) := by decide +kernel
theorem dX12_tells_84 : decode cX12_tells 84 = .ok (.aload_n 0, 1) := by decide +kernel
theorem dX12_tells_85 : decode cX12_tells 85 = .ok (.getfield 30, 3) := by decide +kernel
theorem dX12_tells_88 : decode cX12_tells 88 = .ok (.iload 5, 2) := by decide +kernel
theorem dX12_tells_90 : decode cX12_tells 90 = .ok (.iaload, 1) := by decide +kernel
theorem dX12_tells_91 : decode cX12_tells 91 = .ok (.invokevirtual 335, 3) := by decide +kernel
theorem dX12_tells_94 : decode cX12_tells 94 = .ok (.aload_n 0, 1) := by decide +kernel
theorem dX12_tells_95 : decode cX12_tells 95 = .ok (.getfield 66, 3) := by decide +kernel
theorem dX12_tells_98 : decode cX12_tells 98 = .ok (.iconst 0, 1) := by decide +kernel
theorem dX12_tells_99 : decode cX12_tells 99 = .ok (.baload, 1) := by decide +kernel
theorem dX12_tells_100 : decode cX12_tells 100 = .ok (.ifCond .eq 7, 3) := by decide +kernel
theorem dX12_tells_103 : decode cX12_tells 103 = .ok (.iconst 0, 1) := by decide +kernel
theorem dX12_tells_104 : decode cX12_tells 104 = .ok (.goto 9, 3) := by decide +kernel
theorem dX12_tells_107 : decode cX12_tells 107 = .ok (.aload_n 0, 1) := by decide +kernel
theorem dX12_tells_108 : decode cX12_tells 108 = .ok (.getfield 63, 3) := by decide +kernel
theorem dX12_tells_111 : decode cX12_tells 111 = .ok (.iconst 0, 1) := by decide +kernel
theorem dX12_tells_112 : decode cX12_tells 112 = .ok (.iaload, 1) := by decide +kernel
theorem dX12_tells_113 : decode cX12_tells 113 = .ok (.istore 6, 2) := by decide +kernel
theorem dX12_tells_115 : decode cX12_tells 115 = .ok (.iload 6, 2) := by decide +kernel
theorem dX12_tells_117 : decode cX12_tells 117 = .ok (.iload_n 3, 1) := by decide +kernel
theorem dX12_tells_118 : decode cX12_tells 118 = .ok (.if_icmp .ge 7, 3) := by decide +kernel
theorem dX12_tells_121 : decode cX12_tells 121 = .ok (.iload_n 3, 1) := by decide +kernel
theorem dX12_tells_122 : decode cX12_tells 122 = .ok (.goto 17, 3) := by decide +kernel
theorem dX12_tells_125 : decode cX12_tells 125 = .ok (.iload 6, 2) := by decide +kernel
theorem dX12_tells_127 : decode cX12_tells 127 = .ok (.iload 4, 2) := by decide +kernel
theorem dX12_tells_129 : decode cX12_tells 129 = .ok (.if_icmp .le 8, 3) := by decide +kernel
theorem dX12_tells_132 : decode cX12_tells 132 = .ok (.iload 4, 2) := by decide +kernel
theorem dX12_tells_134 : decode cX12_tells 134 = .ok (.goto 5, 3) := by decide +kernel
theorem dX12_tells_137 : decode cX12_tells 137 = .ok (.iload 6, 2) := by decide +kernel
theorem dX12_tells_139 : decode cX12_tells 139 = .ok (.ireturn, 1) := by decide +kernel
theorem dX12_tells_140 : decode cX12_tells 140 = .ok (.iinc 5 1, 3) := by decide +kernel
theorem dX12_tells_143 : decode cX12_tells 143 = .ok (.goto (-137), 3) := by decide +kernel
theorem dX12_tells_146 : decode cX12_tells 146 = .ok (.iconst 0, 1) := by decide +kernel
theorem dX12_tells_147 : decode cX12_tells 147 = .ok (.ireturn, 1) := by decide +kernel
theorem dX12_cellOf_0 : decode cX12_cellOf 0 = .ok (.bipush 16, 2) := by decide +kernel
theorem dX12_cellOf_2 : decode cX12_cellOf 2 = .ok (.iload_n 0, 1) := by decide +kernel
theorem dX12_cellOf_3 : decode cX12_cellOf 3 = .ok (.imul, 1) := by decide +kernel
theorem dX12_cellOf_4 : decode cX12_cellOf 4 = .ok (.iconst 2, 1) := by decide +kernel
theorem dX12_cellOf_5 : decode cX12_cellOf 5 = .ok (.iload_n 1, 1) := by decide +kernel
theorem dX12_cellOf_6 : decode cX12_cellOf 6 = .ok (.imul, 1) := by decide +kernel
theorem dX12_cellOf_7 : decode cX12_cellOf 7 = .ok (.iadd, 1) := by decide +kernel
theorem dX12_cellOf_8 : decode cX12_cellOf 8 = .ok (.iload_n 2, 1) := by decide +kernel
theorem dX12_cellOf_9 : decode cX12_cellOf 9 = .ok (.iadd, 1) := by decide +kernel
theorem dX12_cellOf_10 : decode cX12_cellOf 10 = .ok (.ireturn, 1) := by decide +kernel
theorem dX12_isStation_0 : decode cX12_isStation 0 = .ok (.iload_n 1, 1) := by decide +kernel
theorem dX12_isStation_1 : decode cX12_isStation 1 = .ok (.i2l, 1) := by decide +kernel
theorem dX12_isStation_2 : decode cX12_isStation 2 = .ok (.lconst 0, 1) := by decide +kernel
theorem dX12_isStation_3 : decode cX12_isStation 3 = .ok (.aload_n 0, 1) := by decide +kernel
theorem dX12_isStation_4 : decode cX12_isStation 4 = .ok (.getfield 338, 3) := by decide +kernel
theorem dX12_isStation_7 : decode cX12_isStation 7 = .ok (.iconst 1, 1) := by decide +kernel
theorem dX12_isStation_8 : decode cX12_isStation 8 = .ok (.isub, 1) := by decide +kernel
theorem dX12_isStation_9 : decode cX12_isStation 9 = .ok (.i2l, 1) := by decide +kernel
theorem dX12_isStation_10 : decode cX12_isStation 10 = .ok (.invokestatic 155, 3) := by decide +kernel
theorem dX12_isStation_13 : decode cX12_isStation 13 = .ok (.ireturn, 1) := by decide +kernel
theorem dX12_isStrake_0 : decode cX12_isStrake 0 = .ok (.iload_n 1, 1) := by decide +kernel
theorem dX12_isStrake_1 : decode cX12_isStrake 1 = .ok (.i2l, 1) := by decide +kernel
theorem dX12_isStrake_2 : decode cX12_isStrake 2 = .ok (.lconst 0, 1) := by decide +kernel
theorem dX12_isStrake_3 : decode cX12_isStrake 3 = .ok (.aload_n 0, 1) := by decide +kernel
theorem dX12_isStrake_4 : decode cX12_isStrake 4 = .ok (.getfield 341, 3) := by decide +kernel
theorem dX12_isStrake_7 : decode cX12_isStrake 7 = .ok (.iconst 1, 1) := by decide +kernel
theorem dX12_isStrake_8 : decode cX12_isStrake 8 = .ok (.isub, 1) := by decide +kernel
theorem dX12_isStrake_9 : decode cX12_isStrake 9 = .ok (.i2l, 1) := by decide +kernel
theorem dX12_isStrake_10 : decode cX12_isStrake 10 = .ok (.invokestatic 155, 3) := by decide +kernel
theorem dX12_isStrake_13 : decode cX12_isStrake 13 = .ok (.ireturn, 1) := by decide +kernel
theorem dX12_isRivet_0 : decode cX12_isRivet 0 = .ok (.aload_n 0, 1) := by decide +kernel
theorem dX12_isRivet_1 : decode cX12_isRivet 1 = .ok (.iload_n 1, 1) := by decide +kernel
theorem dX12_isRivet_2 : decode cX12_isRivet 2 = .ok (.invokevirtual 344, 3) := by decide +kernel
theorem dX12_isRivet_5 : decode cX12_isRivet 5 = .ok (.ifCond .eq 25, 3) := by decide +kernel
theorem dX12_isRivet_8 : decode cX12_isRivet 8 = .ok (.aload_n 0, 1) := by decide +kernel
theorem dX12_isRivet_9 : decode cX12_isRivet 9 = .ok (.iload_n 2, 1) := by decide +kernel
theorem dX12_isRivet_10 : decode cX12_isRivet 10 = .ok (.invokevirtual 347, 3) := by decide +kernel
theorem dX12_isRivet_13 : decode cX12_isRivet 13 = .ok (.ifCond .eq 17, 3) := by decide +kernel
theorem dX12_isRivet_16 : decode cX12_isRivet 16 = .ok (.iload_n 3, 1) := by decide +kernel
theorem dX12_isRivet_17 : decode cX12_isRivet 17 = .ok (.i2l, 1) := by decide +kernel
theorem dX12_isRivet_18 : decode cX12_isRivet 18 = .ok (.lconst 0, 1) := by decide +kernel
theorem dX12_isRivet_19 : decode cX12_isRivet 19 = .ok (.lconst 1, 1) := by decide +kernel
theorem dX12_isRivet_20 : decode cX12_isRivet 20 = .ok (.invokestatic 155, 3) := by decide +kernel
theorem dX12_isRivet_23 : decode cX12_isRivet 23 = .ok (.ifCond .eq 7, 3) := by decide +kernel
theorem dX12_isRivet_26 : decode cX12_isRivet 26 = .ok (.iconst 1, 1) := by decide +kernel
theorem dX12_isRivet_27 : decode cX12_isRivet 27 = .ok (.goto 4, 3) := by decide +kernel
theorem dX12_isRivet_30 : decode cX12_isRivet 30 = .ok (.iconst 0, 1) := by decide +kernel
theorem dX12_isRivet_31 : decode cX12_isRivet 31 = .ok (.ireturn, 1) := by decide +kernel
theorem dX12_isSeen_0 : decode cX12_isSeen 0 = .ok (.aload_n 0, 1) := by decide +kernel
theorem dX12_isSeen_1 : decode cX12_isSeen 1 = .ok (.getfield 76, 3) := by decide +kernel
theorem dX12_isSeen_4 : decode cX12_isSeen 4 = .ok (.iload_n 1, 1) := by decide +kernel
theorem dX12_isSeen_5 : decode cX12_isSeen 5 = .ok (.iload_n 2, 1) := by decide +kernel
theorem dX12_isSeen_6 : decode cX12_isSeen 6 = .ok (.iload_n 3, 1) := by decide +kernel
theorem dX12_isSeen_7 : decode cX12_isSeen 7 = .ok (.invokestatic 350, 3) := by decide +kernel
theorem dX12_isSeen_10 : decode cX12_isSeen 10 = .ok (.baload, 1) := by decide +kernel
theorem dX12_isSeen_11 : decode cX12_isSeen 11 = .ok (.ifCond .ne 19, 3) := by decide +kernel
theorem dX12_isSeen_14 : decode cX12_isSeen 14 = .ok (.aload_n 0, 1) := by decide +kernel
theorem dX12_isSeen_15 : decode cX12_isSeen 15 = .ok (.getfield 353, 3) := by decide +kernel
theorem dX12_isSeen_18 : decode cX12_isSeen 18 = .ok (.i2l, 1) := by decide +kernel
theorem dX12_isSeen_19 : decode cX12_isSeen 19 = .ok (.iload_n 1, 1) := by decide +kernel
theorem dX12_isSeen_20 : decode cX12_isSeen 20 = .ok (.invokestatic 356, 3) := by decide +kernel
theorem dX12_isSeen_23 : decode cX12_isSeen 23 = .ok (.ifCond .ne 7, 3) := by decide +kernel
theorem dX12_isSeen_26 : decode cX12_isSeen 26 = .ok (.iconst 1, 1) := by decide +kernel
theorem dX12_isSeen_27 : decode cX12_isSeen 27 = .ok (.goto 4, 3) := by decide +kernel
theorem dX12_isSeen_30 : decode cX12_isSeen 30 = .ok (.iconst 0, 1) := by decide +kernel
theorem dX12_isSeen_31 : decode cX12_isSeen 31 = .ok (.ireturn, 1) := by decide +kernel
theorem dX12_stands_0 : decode cX12_stands 0 = .ok (.aload_n 0, 1) := by decide +kernel
theorem dX12_stands_1 : decode cX12_stands 1 = .ok (.invokevirtual 360, 3) := by decide +kernel
theorem dX12_stands_4 : decode cX12_stands 4 = .ok (.aload_n 0, 1) := by decide +kernel
theorem dX12_stands_5 : decode cX12_stands 5 = .ok (.iload_n 1, 1) := by decide +kernel
theorem dX12_stands_6 : decode cX12_stands 6 = .ok (.putfield 285, 3) := by decide +kernel
theorem dX12_stands_9 : decode cX12_stands 9 = .ok (.aload_n 0, 1) := by decide +kernel
theorem dX12_stands_10 : decode cX12_stands 10 = .ok (.iload_n 2, 1) := by decide +kernel
theorem dX12_stands_11 : decode cX12_stands 11 = .ok (.putfield 288, 3) := by decide +kernel
theorem dX12_stands_14 : decode cX12_stands 14 = .ok (.aload_n 0, 1) := by decide +kernel
theorem dX12_stands_15 : decode cX12_stands 15 = .ok (.iload_n 3, 1) := by decide +kernel
theorem dX12_stands_16 : decode cX12_stands 16 = .ok (.putfield 291, 3) := by decide +kernel
theorem dX12_stands_19 : decode cX12_stands 19 = .ok (.aload_n 0, 1) := by decide +kernel
theorem dX12_stands_20 : decode cX12_stands 20 = .ok (.aload_n 0, 1) := by decide +kernel
theorem dX12_stands_21 : decode cX12_stands 21 = .ok (.getfield 338, 3) := by decide +kernel
theorem dX12_stands_24 : decode cX12_stands 24 = .ok (.putfield 294, 3) := by decide +kernel
theorem dX12_stands_27 : decode cX12_stands 27 = .ok (.aload_n 0, 1) := by decide +kernel
theorem dX12_stands_28 : decode cX12_stands 28 = .ok (.iload_n 1, 1) := by decide +kernel
theorem dX12_stands_29 : decode cX12_stands 29 = .ok (.aload_n 0, 1) := by decide +kernel
theorem dX12_stands_30 : decode cX12_stands 30 = .ok (.getfield 338, 3) := by decide +kernel
theorem dX12_stands_33 : decode cX12_stands 33 = .ok (.iconst 1, 1) := by decide +kernel
theorem dX12_stands_34 : decode cX12_stands 34 = .ok (.isub, 1) := by decide +kernel
theorem dX12_stands_35 : decode cX12_stands 35 = .ok (.iload_n 1, 1) := by decide +kernel
theorem dX12_stands_36 : decode cX12_stands 36 = .ok (.isub, 1) := by decide +kernel
theorem dX12_stands_37 : decode cX12_stands 37 = .ok (.if_icmp .ge 7, 3) := by decide +kernel
theorem dX12_stands_40 : decode cX12_stands 40 = .ok (.iload_n 1, 1) := by decide +kernel
theorem dX12_stands_41 : decode cX12_stands 41 = .ok (.goto 11, 3) := by decide +kernel
theorem dX12_stands_44 : decode cX12_stands 44 = .ok (.aload_n 0, 1) := by decide +kernel
theorem dX12_stands_45 : decode cX12_stands 45 = .ok (.getfield 338, 3) := by decide +kernel
theorem dX12_stands_48 : decode cX12_stands 48 = .ok (.iconst 1, 1) := by decide +kernel
theorem dX12_stands_49 : decode cX12_stands 49 = .ok (.isub, 1) := by decide +kernel
theorem dX12_stands_50 : decode cX12_stands 50 = .ok (.iload_n 1, 1) := by decide +kernel
theorem dX12_stands_51 : decode cX12_stands 51 = .ok (.isub, 1) := by decide +kernel
theorem dX12_stands_52 : decode cX12_stands 52 = .ok (.putfield 297, 3) := by decide +kernel
theorem dX12_stands_55 : decode cX12_stands 55 = .ok (.aload_n 0, 1) := by decide +kernel
theorem dX12_stands_56 : decode cX12_stands 56 = .ok (.aload_n 0, 1) := by decide +kernel
theorem dX12_stands_57 : decode cX12_stands 57 = .ok (.getfield 341, 3) := by decide +kernel
theorem dX12_stands_60 : decode cX12_stands 60 = .ok (.putfield 300, 3) := by decide +kernel
theorem dX12_stands_63 : decode cX12_stands 63 = .ok (.return_, 1) := by decide +kernel
theorem dX12_build_0 : decode cX12_build 0 = .ok (.iload_n 1, 1) := by decide +kernel
theorem dX12_build_1 : decode cX12_build 1 = .ok (.i2l, 1) := by decide +kernel
theorem dX12_build_2 : decode cX12_build 2 = .ok (.ldc2_w 363, 3) := by decide +kernel
theorem dX12_build_5 : decode cX12_build 5 = .ok (.ldc2_w 365, 3) := by decide +kernel
theorem dX12_build_8 : decode cX12_build 8 = .ok (.invokestatic 155, 3) := by decide +kernel
theorem dX12_build_11 : decode cX12_build 11 = .ok (.ifCond .eq 15, 3) := by decide +kernel
theorem dX12_build_14 : decode cX12_build 14 = .ok (.iload_n 2, 1) := by decide +kernel
theorem dX12_build_15 : decode cX12_build 15 = .ok (.i2l, 1) := by decide +kernel
theorem dX12_build_16 : decode cX12_build 16 = .ok (.lconst 1, 1) := by decide +kernel
theorem dX12_build_17 : decode cX12_build 17 = .ok (.ldc2_w 367, 3) := by decide +kernel
theorem dX12_build_20 : decode cX12_build 20 = .ok (.invokestatic 155, 3) := by decide +kernel
theorem dX12_build_23 : decode cX12_build 23 = .ok (.ifCond .ne 5, 3) := by decide +kernel
theorem dX12_build_26 : decode cX12_build 26 = .ok (.iconst (-1), 1) := by decide +kernel
theorem dX12_build_27 : decode cX12_build 27 = .ok (.ireturn, 1) := by decide +kernel
theorem dX12_build_28 : decode cX12_build 28 = .ok (.aload_n 0, 1) := by decide +kernel
theorem dX12_build_29 : decode cX12_build 29 = .ok (.iload_n 1, 1) := by decide +kernel
theorem dX12_build_30 : decode cX12_build 30 = .ok (.putfield 338, 3) := by decide +kernel
theorem dX12_build_33 : decode cX12_build 33 = .ok (.aload_n 0, 1) := by decide +kernel
theorem dX12_build_34 : decode cX12_build 34 = .ok (.iload_n 2, 1) := by decide +kernel
theorem dX12_build_35 : decode cX12_build 35 = .ok (.putfield 341, 3) := by decide +kernel
theorem dX12_build_38 : decode cX12_build 38 = .ok (.aload_n 0, 1) := by decide +kernel
theorem dX12_build_39 : decode cX12_build 39 = .ok (.iconst 0, 1) := by decide +kernel
theorem dX12_build_40 : decode cX12_build 40 = .ok (.putfield 353, 3) := by decide +kernel
theorem dX12_build_43 : decode cX12_build 43 = .ok (.aload_n 0, 1) := by decide +kernel
theorem dX12_build_44 : decode cX12_build 44 = .ok (.iconst 0, 1) := by decide +kernel
theorem dX12_build_45 : decode cX12_build 45 = .ok (.putfield 369, 3) := by decide +kernel
theorem dX12_build_48 : decode cX12_build 48 = .ok (.aload_n 0, 1) := by decide +kernel
theorem dX12_build_49 : decode cX12_build 49 = .ok (.iconst 0, 1) := by decide +kernel
theorem dX12_build_50 : decode cX12_build 50 = .ok (.putfield 372, 3) := by decide +kernel
theorem dX12_build_53 : decode cX12_build 53 = .ok (.iconst 0, 1) := by decide +kernel
theorem dX12_build_54 : decode cX12_build 54 = .ok (.istore_n 3, 1) := by decide +kernel
theorem dX12_build_55 : decode cX12_build 55 = .ok (.iload_n 3, 1) := by decide +kernel
theorem dX12_build_56 : decode cX12_build 56 = .ok (.bipush 48, 2) := by decide +kernel
theorem dX12_build_58 : decode cX12_build 58 = .ok (.if_icmp .ge 16, 3) := by decide +kernel
theorem dX12_build_61 : decode cX12_build 61 = .ok (.aload_n 0, 1) := by decide +kernel
theorem dX12_build_62 : decode cX12_build 62 = .ok (.getfield 135, 3) := by decide +kernel
theorem dX12_build_65 : decode cX12_build 65 = .ok (.iload_n 3, 1) := by decide +kernel
theorem dX12_build_66 : decode cX12_build 66 = .ok (.iconst (-1), 1) := by decide +kernel
theorem dX12_build_67 : decode cX12_build 67 = .ok (.iastore, 1) := by decide +kernel
theorem dX12_build_68 : decode cX12_build 68 = .ok (.iinc 3 1, 3) := by decide +kernel
theorem dX12_build_71 : decode cX12_build 71 = .ok (.goto (-16), 3) := by decide +kernel
theorem dX12_build_74 : decode cX12_build 74 = .ok (.iconst 0, 1) := by decide +kernel
theorem dX12_build_75 : decode cX12_build 75 = .ok (.istore_n 3, 1) := by decide +kernel
theorem dX12_build_76 : decode cX12_build 76 = .ok (.iload_n 3, 1) := by decide +kernel
theorem dX12_build_77 : decode cX12_build 77 = .ok (.iload_n 1, 1) := by decide +kernel
theorem dX12_build_78 : decode cX12_build 78 = .ok (.if_icmp .ge 114, 3) := by decide +kernel
theorem dX12_build_81 : decode cX12_build 81 = .ok (.iconst 0, 1) := by decide +kernel
theorem dX12_build_82 : decode cX12_build 82 = .ok (.istore 4, 2) := by decide +kernel
theorem dX12_build_84 : decode cX12_build 84 = .ok (.iload 4, 2) := by decide +kernel
theorem dX12_build_86 : decode cX12_build 86 = .ok (.iload_n 2, 1) := by decide +kernel
theorem dX12_build_87 : decode cX12_build 87 = .ok (.if_icmp .ge 99, 3) := by decide +kernel
theorem dX12_build_90 : decode cX12_build 90 = .ok (.iconst 0, 1) := by decide +kernel
theorem dX12_build_91 : decode cX12_build 91 = .ok (.istore 5, 2) := by decide +kernel
theorem dX12_build_93 : decode cX12_build 93 = .ok (.iload 5, 2) := by decide +kernel
theorem dX12_build_95 : decode cX12_build 95 = .ok (.iconst 2, 1) := by decide +kernel
theorem dX12_build_96 : decode cX12_build 96 = .ok (.if_icmp .ge 84, 3) := by decide +kernel
theorem dX12_build_99 : decode cX12_build 99 = .ok (.iload_n 3, 1) := by decide +kernel
theorem dX12_build_100 : decode cX12_build 100 = .ok (.iload 4, 2) := by decide +kernel
theorem dX12_build_102 : decode cX12_build 102 = .ok (.iload 5, 2) := by decide +kernel
theorem dX12_build_104 : decode cX12_build 104 = .ok (.invokestatic 350, 3) := by decide +kernel
theorem dX12_build_107 : decode cX12_build 107 = .ok (.istore 6, 2) := by decide +kernel
theorem dX12_build_109 : decode cX12_build 109 = .ok (.aload_n 0, 1) := by decide +kernel
theorem dX12_build_110 : decode cX12_build 110 = .ok (.iload_n 3, 1) := by decide +kernel
theorem dX12_build_111 : decode cX12_build 111 = .ok (.iload 4, 2) := by decide +kernel
theorem dX12_build_113 : decode cX12_build 113 = .ok (.iload 5, 2) := by decide +kernel
theorem dX12_build_115 : decode cX12_build 115 = .ok (.invokevirtual 375, 3) := by decide +kernel
theorem dX12_build_118 : decode cX12_build 118 = .ok (.aload_n 0, 1) := by decide +kernel
theorem dX12_build_119 : decode cX12_build 119 = .ok (.getfield 70, 3) := by decide +kernel
theorem dX12_build_122 : decode cX12_build 122 = .ok (.iload 6, 2) := by decide +kernel
theorem dX12_build_124 : decode cX12_build 124 = .ok (.aload_n 0, 1) := by decide +kernel
theorem dX12_build_125 : decode cX12_build 125 = .ok (.iconst 0, 1) := by decide +kernel
theorem dX12_build_126 : decode cX12_build 126 = .ok (.bipush 121, 2) := by decide +kernel
theorem dX12_build_128 : decode cX12_build 128 = .ok (.sipush (-3000), 3) := by decide +kernel
theorem dX12_build_131 : decode cX12_build 131 = .ok (.sipush 3000, 3) := by decide +kernel
theorem dX12_build_134 : decode cX12_build 134 = .ok (.invokevirtual 379, 3) := by decide +kernel
theorem dX12_build_137 : decode cX12_build 137 = .ok (.iastore, 1) := by decide +kernel
theorem dX12_build_138 : decode cX12_build 138 = .ok (.aload_n 0, 1) := by decide +kernel
theorem dX12_build_139 : decode cX12_build 139 = .ok (.getfield 73, 3) := by decide +kernel
theorem dX12_build_142 : decode cX12_build 142 = .ok (.iload 6, 2) := by decide +kernel
theorem dX12_build_144 : decode cX12_build 144 = .ok (.aload_n 0, 1) := by decide +kernel
theorem dX12_build_145 : decode cX12_build 145 = .ok (.iconst 0, 1) := by decide +kernel
theorem dX12_build_146 : decode cX12_build 146 = .ok (.bipush 122, 2) := by decide +kernel
theorem dX12_build_148 : decode cX12_build 148 = .ok (.sipush (-3000), 3) := by decide +kernel
theorem dX12_build_151 : decode cX12_build 151 = .ok (.sipush 3000, 3) := by decide +kernel
theorem dX12_build_154 : decode cX12_build 154 = .ok (.invokevirtual 379, 3) := by decide +kernel
theorem dX12_build_157 : decode cX12_build 157 = .ok (.iastore, 1) := by decide +kernel
theorem dX12_build_158 : decode cX12_build 158 = .ok (.aload_n 0, 1) := by decide +kernel
theorem dX12_build_159 : decode cX12_build 159 = .ok (.getfield 76, 3) := by decide +kernel
theorem dX12_build_162 : decode cX12_build 162 = .ok (.iload 6, 2) := by decide +kernel
theorem dX12_build_164 : decode cX12_build 164 = .ok (.iconst 0, 1) := by decide +kernel
theorem dX12_build_165 : decode cX12_build 165 = .ok (.bastore, 1) := by decide +kernel
theorem dX12_build_166 : decode cX12_build 166 = .ok (.aload_n 0, 1) := by decide +kernel
theorem dX12_build_167 : decode cX12_build 167 = .ok (.getfield 79, 3) := by decide +kernel
theorem dX12_build_170 : decode cX12_build 170 = .ok (.iload 6, 2) := by decide +kernel
theorem dX12_build_172 : decode cX12_build 172 = .ok (.iconst 0, 1) := by decide +kernel
theorem dX12_build_173 : decode cX12_build 173 = .ok (.iastore, 1) := by decide +kernel
theorem dX12_build_174 : decode cX12_build 174 = .ok (.iinc 5 1, 3) := by decide +kernel
theorem dX12_build_177 : decode cX12_build 177 = .ok (.goto (-84), 3) := by decide +kernel
theorem dX12_build_180 : decode cX12_build 180 = .ok (.iinc 4 1, 3) := by decide +kernel
theorem dX12_build_183 : decode cX12_build 183 = .ok (.goto (-99), 3) := by decide +kernel
theorem dX12_build_186 : decode cX12_build 186 = .ok (.iinc 3 1, 3) := by decide +kernel
theorem dX12_build_189 : decode cX12_build 189 = .ok (.goto (-113), 3) := by decide +kernel
theorem dX12_build_192 : decode cX12_build 192 = .ok (.aload_n 0, 1) := by decide +kernel
theorem dX12_build_193 : decode cX12_build 193 = .ok (.invokevirtual 383, 3) := by decide +kernel
theorem dX12_build_196 : decode cX12_build 196 = .ok (.iconst 2, 1) := by decide +kernel
theorem dX12_build_197 : decode cX12_build 197 = .ok (.iload_n 1, 1) := by decide +kernel
theorem dX12_build_198 : decode cX12_build 198 = .ok (.imul, 1) := by decide +kernel
theorem dX12_build_199 : decode cX12_build 199 = .ok (.iload_n 2, 1) := by decide +kernel
theorem dX12_build_200 : decode cX12_build 200 = .ok (.imul, 1) := by decide +kernel
theorem dX12_build_201 : decode cX12_build 201 = .ok (.ireturn, 1) := by decide +kernel
theorem dX12_mound_0 : decode cX12_mound 0 = .ok (.iload_n 1, 1) := by decide +kernel
theorem dX12_mound_1 : decode cX12_mound 1 = .ok (.i2l, 1) := by decide +kernel
theorem dX12_mound_2 : decode cX12_mound 2 = .ok (.lconst 0, 1) := by decide +kernel
theorem dX12_mound_3 : decode cX12_mound 3 = .ok (.ldc2_w 386, 3) := by decide +kernel
theorem dX12_mound_6 : decode cX12_mound 6 = .ok (.invokestatic 155, 3) := by decide +kernel
theorem dX12_mound_9 : decode cX12_mound 9 = .ok (.ifCond .eq 15, 3) := by decide +kernel
theorem dX12_mound_12 : decode cX12_mound 12 = .ok (.iload_n 2, 1) := by decide +kernel
theorem dX12_mound_13 : decode cX12_mound 13 = .ok (.i2l, 1) := by decide +kernel
theorem dX12_mound_14 : decode cX12_mound 14 = .ok (.lconst 0, 1) := by decide +kernel
theorem dX12_mound_15 : decode cX12_mound 15 = .ok (.ldc2_w 153, 3) := by decide +kernel
theorem dX12_mound_18 : decode cX12_mound 18 = .ok (.invokestatic 155, 3) := by decide +kernel
theorem dX12_mound_21 : decode cX12_mound 21 = .ok (.ifCond .ne 5, 3) := by decide +kernel
theorem dX12_mound_24 : decode cX12_mound 24 = .ok (.iconst 0, 1) := by decide +kernel
theorem dX12_mound_25 : decode cX12_mound 25 = .ok (.ireturn, 1) := by decide +kernel
theorem dX12_mound_26 : decode cX12_mound 26 = .ok (.aload_n 0, 1) := by decide +kernel
theorem dX12_mound_27 : decode cX12_mound 27 = .ok (.getfield 82, 3) := by decide +kernel
theorem dX12_mound_30 : decode cX12_mound 30 = .ok (.iload_n 1, 1) := by decide +kernel
theorem dX12_mound_31 : decode cX12_mound 31 = .ok (.iload_n 2, 1) := by decide +kernel
theorem dX12_mound_32 : decode cX12_mound 32 = .ok (.iastore, 1) := by decide +kernel
theorem dX12_mound_33 : decode cX12_mound 33 = .ok (.iconst 1, 1) := by decide +kernel
theorem dX12_mound_34 : decode cX12_mound 34 = .ok (.ireturn, 1) := by decide +kernel
theorem dX12_left_0 : decode cX12_left 0 = .ok (.iconst 0, 1) := by decide +kernel
theorem dX12_left_1 : decode cX12_left 1 = .ok (.istore_n 1, 1) := by decide +kernel
theorem dX12_left_2 : decode cX12_left 2 = .ok (.iconst 0, 1) := by decide +kernel
theorem dX12_left_3 : decode cX12_left 3 = .ok (.istore_n 2, 1) := by decide +kernel
theorem dX12_left_4 : decode cX12_left 4 = .ok (.iload_n 2, 1) := by decide +kernel
theorem dX12_left_5 : decode cX12_left 5 = .ok (.aload_n 0, 1) := by decide +kernel
theorem dX12_left_6 : decode cX12_left 6 = .ok (.getfield 338, 3) := by decide +kernel
theorem dX12_left_9 : decode cX12_left 9 = .ok (.if_icmp .ge 67, 3) := by decide +kernel
theorem dX12_left_12 : decode cX12_left 12 = .ok (.iconst 0, 1) := by decide +kernel
theorem dX12_left_13 : decode cX12_left 13 = .ok (.istore_n 3, 1) := by decide +kernel
theorem dX12_left_14 : decode cX12_left 14 = .ok (.iload_n 3, 1) := by decide +kernel
theorem dX12_left_15 : decode cX12_left 15 = .ok (.aload_n 0, 1) := by decide +kernel
theorem dX12_left_16 : decode cX12_left 16 = .ok (.getfield 341, 3) := by decide +kernel
theorem dX12_left_19 : decode cX12_left 19 = .ok (.if_icmp .ge 51, 3) := by decide +kernel
theorem dX12_left_22 : decode cX12_left 22 = .ok (.iload_n 1, 1) := by decide +kernel
theorem dX12_left_23 : decode cX12_left 23 = .ok (.aload_n 0, 1) := by decide +kernel
theorem dX12_left_24 : decode cX12_left 24 = .ok (.getfield 76, 3) := by decide +kernel
theorem dX12_left_27 : decode cX12_left 27 = .ok (.iload_n 2, 1) := by decide +kernel
theorem dX12_left_28 : decode cX12_left 28 = .ok (.iload_n 3, 1) := by decide +kernel
theorem dX12_left_29 : decode cX12_left 29 = .ok (.iconst 0, 1) := by decide +kernel
theorem dX12_left_30 : decode cX12_left 30 = .ok (.invokestatic 350, 3) := by decide +kernel
theorem dX12_left_33 : decode cX12_left 33 = .ok (.baload, 1) := by decide +kernel
theorem dX12_left_34 : decode cX12_left 34 = .ok (.ifCond .eq 7, 3) := by decide +kernel
theorem dX12_left_37 : decode cX12_left 37 = .ok (.iconst 0, 1) := by decide +kernel
theorem dX12_left_38 : decode cX12_left 38 = .ok (.goto 4, 3) := by decide +kernel
theorem dX12_left_41 : decode cX12_left 41 = .ok (.iconst 1, 1) := by decide +kernel
theorem dX12_left_42 : decode cX12_left 42 = .ok (.aload_n 0, 1) := by decide +kernel
theorem dX12_left_43 : decode cX12_left 43 = .ok (.getfield 76, 3) := by decide +kernel
theorem dX12_left_46 : decode cX12_left 46 = .ok (.iload_n 2, 1) := by decide +kernel
theorem dX12_left_47 : decode cX12_left 47 = .ok (.iload_n 3, 1) := by decide +kernel
theorem dX12_left_48 : decode cX12_left 48 = .ok (.iconst 1, 1) := by decide +kernel
theorem dX12_left_49 : decode cX12_left 49 = .ok (.invokestatic 350, 3) := by decide +kernel
theorem dX12_left_52 : decode cX12_left 52 = .ok (.baload, 1) := by decide +kernel
theorem dX12_left_53 : decode cX12_left 53 = .ok (.ifCond .eq 7, 3) := by decide +kernel
theorem dX12_left_56 : decode cX12_left 56 = .ok (.iconst 0, 1) := by decide +kernel
theorem dX12_left_57 : decode cX12_left 57 = .ok (.goto 4, 3) := by decide +kernel
theorem dX12_left_60 : decode cX12_left 60 = .ok (.iconst 1, 1) := by decide +kernel
theorem dX12_left_61 : decode cX12_left 61 = .ok (.iadd, 1) := by decide +kernel
theorem dX12_left_62 : decode cX12_left 62 = .ok (.iadd, 1) := by decide +kernel
theorem dX12_left_63 : decode cX12_left 63 = .ok (.istore_n 1, 1) := by decide +kernel
theorem dX12_left_64 : decode cX12_left 64 = .ok (.iinc 3 1, 3) := by decide +kernel
theorem dX12_left_67 : decode cX12_left 67 = .ok (.goto (-53), 3) := by decide +kernel
theorem dX12_left_70 : decode cX12_left 70 = .ok (.iinc 2 1, 3) := by decide +kernel
theorem dX12_left_73 : decode cX12_left 73 = .ok (.goto (-69), 3) := by decide +kernel
theorem dX12_left_76 : decode cX12_left 76 = .ok (.iload_n 1, 1) := by decide +kernel
theorem dX12_left_77 : decode cX12_left 77 = .ok (.ireturn, 1) := by decide +kernel
theorem dX12_sinks_0 : decode cX12_sinks 0 = .ok (.iload_n 1, 1) := by decide +kernel
theorem dX12_sinks_1 : decode cX12_sinks 1 = .ok (.iload_n 2, 1) := by decide +kernel
theorem dX12_sinks_2 : decode cX12_sinks 2 = .ok (.iload_n 3, 1) := by decide +kernel
theorem dX12_sinks_3 : decode cX12_sinks 3 = .ok (.invokestatic 350, 3) := by decide +kernel
theorem dX12_sinks_6 : decode cX12_sinks 6 = .ok (.istore 4, 2) := by decide +kernel
theorem dX12_sinks_8 : decode cX12_sinks 8 = .ok (.aload_n 0, 1) := by decide +kernel
theorem dX12_sinks_9 : decode cX12_sinks 9 = .ok (.invokevirtual 388, 3) := by decide +kernel
theorem dX12_sinks_12 : decode cX12_sinks 12 = .ok (.aload_n 0, 1) := by decide +kernel
theorem dX12_sinks_13 : decode cX12_sinks 13 = .ok (.iload_n 1, 1) := by decide +kernel
theorem dX12_sinks_14 : decode cX12_sinks 14 = .ok (.iload_n 2, 1) := by decide +kernel
theorem dX12_sinks_15 : decode cX12_sinks 15 = .ok (.iload_n 3, 1) := by decide +kernel
theorem dX12_sinks_16 : decode cX12_sinks 16 = .ok (.invokevirtual 375, 3) := by decide +kernel
theorem dX12_sinks_19 : decode cX12_sinks 19 = .ok (.aload_n 0, 1) := by decide +kernel
theorem dX12_sinks_20 : decode cX12_sinks 20 = .ok (.aload_n 0, 1) := by decide +kernel
theorem dX12_sinks_21 : decode cX12_sinks 21 = .ok (.getfield 70, 3) := by decide +kernel
theorem dX12_sinks_24 : decode cX12_sinks 24 = .ok (.iload 4, 2) := by decide +kernel
theorem dX12_sinks_26 : decode cX12_sinks 26 = .ok (.iaload, 1) := by decide +kernel
theorem dX12_sinks_27 : decode cX12_sinks 27 = .ok (.putfield 303, 3) := by decide +kernel
theorem dX12_sinks_30 : decode cX12_sinks 30 = .ok (.aload_n 0, 1) := by decide +kernel
theorem dX12_sinks_31 : decode cX12_sinks 31 = .ok (.aload_n 0, 1) := by decide +kernel
theorem dX12_sinks_32 : decode cX12_sinks 32 = .ok (.getfield 73, 3) := by decide +kernel
theorem dX12_sinks_35 : decode cX12_sinks 35 = .ok (.iload 4, 2) := by decide +kernel
theorem dX12_sinks_37 : decode cX12_sinks 37 = .ok (.iaload, 1) := by decide +kernel
theorem dX12_sinks_38 : decode cX12_sinks 38 = .ok (.putfield 306, 3) := by decide +kernel
theorem dX12_sinks_41 : decode cX12_sinks 41 = .ok (.aload_n 0, 1) := by decide +kernel
theorem dX12_sinks_42 : decode cX12_sinks 42 = .ok (.aload_n 0, 1) := by decide +kernel
theorem dX12_sinks_43 : decode cX12_sinks 43 = .ok (.getfield 82, 3) := by decide +kernel
theorem dX12_sinks_46 : decode cX12_sinks 46 = .ok (.iload_n 1, 1) := by decide +kernel
theorem dX12_sinks_47 : decode cX12_sinks 47 = .ok (.iaload, 1) := by decide +kernel
theorem dX12_sinks_48 : decode cX12_sinks 48 = .ok (.putfield 309, 3) := by decide +kernel
theorem dX12_sinks_51 : decode cX12_sinks 51 = .ok (.aload_n 0, 1) := by decide +kernel
theorem dX12_sinks_52 : decode cX12_sinks 52 = .ok (.aload_n 0, 1) := by decide +kernel
theorem dX12_sinks_53 : decode cX12_sinks 53 = .ok (.getfield 17, 3) := by decide +kernel
theorem dX12_sinks_56 : decode cX12_sinks 56 = .ok (.sipush 1000, 3) := by decide +kernel
theorem dX12_sinks_59 : decode cX12_sinks 59 = .ok (.irem, 1) := by decide +kernel
theorem dX12_sinks_60 : decode cX12_sinks 60 = .ok (.putfield 312, 3) := by decide +kernel
theorem dX12_sinks_63 : decode cX12_sinks 63 = .ok (.aload_n 0, 1) := by decide +kernel
theorem dX12_sinks_64 : decode cX12_sinks 64 = .ok (.getfield 312, 3) := by decide +kernel
theorem dX12_sinks_67 : decode cX12_sinks 67 = .ok (.aload_n 0, 1) := by decide +kernel
theorem dX12_sinks_68 : decode cX12_sinks 68 = .ok (.iconst 1, 1) := by decide +kernel
theorem dX12_sinks_69 : decode cX12_sinks 69 = .ok (.bipush 103, 2) := by decide +kernel
theorem dX12_sinks_71 : decode cX12_sinks 71 = .ok (.iconst 0, 1) := by decide +kernel
theorem dX12_sinks_72 : decode cX12_sinks 72 = .ok (.sipush 1000, 3) := by decide +kernel
theorem dX12_sinks_75 : decode cX12_sinks 75 = .ok (.invokevirtual 379, 3) := by decide +kernel
theorem dX12_sinks_78 : decode cX12_sinks 78 = .ok (.if_icmp .ge 12, 3) := by decide +kernel
theorem dX12_sinks_81 : decode cX12_sinks 81 = .ok (.aload_n 0, 1) := by decide +kernel
theorem dX12_sinks_82 : decode cX12_sinks 82 = .ok (.getfield 76, 3) := by decide +kernel
theorem dX12_sinks_85 : decode cX12_sinks 85 = .ok (.iload 4, 2) := by decide +kernel
theorem dX12_sinks_87 : decode cX12_sinks 87 = .ok (.iconst 1, 1) := by decide +kernel
theorem dX12_sinks_88 : decode cX12_sinks 88 = .ok (.bastore, 1) := by decide +kernel
theorem dX12_sinks_89 : decode cX12_sinks 89 = .ok (.return_, 1) := by decide +kernel
theorem dX12_sinks_90 : decode cX12_sinks 90 = .ok (.aload_n 0, 1) := by decide +kernel
theorem dX12_sinks_91 : decode cX12_sinks 91 = .ok (.iconst 1, 1) := by decide +kernel
theorem dX12_sinks_92 : decode cX12_sinks 92 = .ok (.bipush 97, 2) := by decide +kernel
theorem dX12_sinks_94 : decode cX12_sinks 94 = .ok (.sipush (-1000), 3) := by decide +kernel
theorem dX12_sinks_97 : decode cX12_sinks 97 = .ok (.sipush 1000, 3) := by decide +kernel
theorem dX12_sinks_100 : decode cX12_sinks 100 = .ok (.invokevirtual 379, 3) := by decide +kernel
theorem dX12_sinks_103 : decode cX12_sinks 103 = .ok (.istore 5, 2) := by decide +kernel
theorem dX12_sinks_105 : decode cX12_sinks 105 = .ok (.aload_n 0, 1) := by decide +kernel
theorem dX12_sinks_106 : decode cX12_sinks 106 = .ok (.iconst 1, 1) := by decide +kernel
theorem dX12_sinks_107 : decode cX12_sinks 107 = .ok (.bipush 98, 2) := by decide +kernel
theorem dX12_sinks_109 : decode cX12_sinks 109 = .ok (.sipush (-1000), 3) := by decide +kernel
theorem dX12_sinks_112 : decode cX12_sinks 112 = .ok (.sipush 1000, 3) := by decide +kernel
theorem dX12_sinks_115 : decode cX12_sinks 115 = .ok (.invokevirtual 379, 3) := by decide +kernel
theorem dX12_sinks_118 : decode cX12_sinks 118 = .ok (.istore 6, 2) := by decide +kernel
theorem dX12_sinks_120 : decode cX12_sinks 120 = .ok (.aload_n 0, 1) := by decide +kernel
theorem dX12_sinks_121 : decode cX12_sinks 121 = .ok (.getfield 70, 3) := by decide +kernel
theorem dX12_sinks_124 : decode cX12_sinks 124 = .ok (.iload 4, 2) := by decide +kernel
theorem dX12_sinks_126 : decode cX12_sinks 126 = .ok (.aload_n 0, 1) := by decide +kernel
theorem dX12_sinks_127 : decode cX12_sinks 127 = .ok (.getfield 70, 3) := by decide +kernel
theorem dX12_sinks_130 : decode cX12_sinks 130 = .ok (.iload 4, 2) := by decide +kernel
theorem dX12_sinks_132 : decode cX12_sinks 132 = .ok (.iaload, 1) := by decide +kernel
theorem dX12_sinks_133 : decode cX12_sinks 133 = .ok (.iload 5, 2) := by decide +kernel
theorem dX12_sinks_135 : decode cX12_sinks 135 = .ok (.iadd, 1) := by decide +kernel
theorem dX12_sinks_136 : decode cX12_sinks 136 = .ok (.sipush 3000, 3) := by decide +kernel
theorem dX12_sinks_139 : decode cX12_sinks 139 = .ok (.invokestatic 391, 3) := by decide +kernel
theorem dX12_sinks_142 : decode cX12_sinks 142 = .ok (.iastore, 1) := by decide +kernel
theorem dX12_sinks_143 : decode cX12_sinks 143 = .ok (.aload_n 0, 1) := by decide +kernel
theorem dX12_sinks_144 : decode cX12_sinks 144 = .ok (.getfield 73, 3) := by decide +kernel
theorem dX12_sinks_147 : decode cX12_sinks 147 = .ok (.iload 4, 2) := by decide +kernel
theorem dX12_sinks_149 : decode cX12_sinks 149 = .ok (.aload_n 0, 1) := by decide +kernel
theorem dX12_sinks_150 : decode cX12_sinks 150 = .ok (.getfield 73, 3) := by decide +kernel
theorem dX12_sinks_153 : decode cX12_sinks 153 = .ok (.iload 4, 2) := by decide +kernel
theorem dX12_sinks_155 : decode cX12_sinks 155 = .ok (.iaload, 1) := by decide +kernel
theorem dX12_sinks_156 : decode cX12_sinks 156 = .ok (.iload 6, 2) := by decide +kernel
theorem dX12_sinks_158 : decode cX12_sinks 158 = .ok (.iadd, 1) := by decide +kernel
theorem dX12_sinks_159 : decode cX12_sinks 159 = .ok (.sipush 3000, 3) := by decide +kernel
theorem dX12_sinks_162 : decode cX12_sinks 162 = .ok (.invokestatic 391, 3) := by decide +kernel
theorem dX12_sinks_165 : decode cX12_sinks 165 = .ok (.iastore, 1) := by decide +kernel
theorem dX12_sinks_166 : decode cX12_sinks 166 = .ok (.return_, 1) := by decide +kernel
theorem dX12_bury_0 : decode cX12_bury 0 = .ok (.aload_n 0, 1) := by decide +kernel
theorem dX12_bury_1 : decode cX12_bury 1 = .ok (.getfield 338, 3) := by decide +kernel
theorem dX12_bury_4 : decode cX12_bury 4 = .ok (.ifCond .eq 15, 3) := by decide +kernel
theorem dX12_bury_7 : decode cX12_bury 7 = .ok (.iload_n 1, 1) := by decide +kernel
theorem dX12_bury_8 : decode cX12_bury 8 = .ok (.i2l, 1) := by decide +kernel
theorem dX12_bury_9 : decode cX12_bury 9 = .ok (.lconst 1, 1) := by decide +kernel
theorem dX12_bury_10 : decode cX12_bury 10 = .ok (.ldc2_w 394, 3) := by decide +kernel
theorem dX12_bury_13 : decode cX12_bury 13 = .ok (.invokestatic 155, 3) := by decide +kernel
theorem dX12_bury_16 : decode cX12_bury 16 = .ok (.ifCond .ne 5, 3) := by decide +kernel
theorem dX12_bury_19 : decode cX12_bury 19 = .ok (.iconst (-1), 1) := by decide +kernel
theorem dX12_bury_20 : decode cX12_bury 20 = .ok (.ireturn, 1) := by decide +kernel
theorem dX12_bury_21 : decode cX12_bury 21 = .ok (.iconst 0, 1) := by decide +kernel
theorem dX12_bury_22 : decode cX12_bury 22 = .ok (.istore_n 2, 1) := by decide +kernel
theorem dX12_bury_23 : decode cX12_bury 23 = .ok (.iload_n 2, 1) := by decide +kernel
theorem dX12_bury_24 : decode cX12_bury 24 = .ok (.iload_n 1, 1) := by decide +kernel
theorem dX12_bury_25 : decode cX12_bury 25 = .ok (.if_icmp .ge 83, 3) := by decide +kernel
theorem dX12_bury_28 : decode cX12_bury 28 = .ok (.iconst 0, 1) := by decide +kernel
theorem dX12_bury_29 : decode cX12_bury 29 = .ok (.istore_n 3, 1) := by decide +kernel
theorem dX12_bury_30 : decode cX12_bury 30 = .ok (.iload_n 3, 1) := by decide +kernel
theorem dX12_bury_31 : decode cX12_bury 31 = .ok (.aload_n 0, 1) := by decide +kernel
theorem dX12_bury_32 : decode cX12_bury 32 = .ok (.getfield 338, 3) := by decide +kernel
theorem dX12_bury_35 : decode cX12_bury 35 = .ok (.if_icmp .ge 67, 3) := by decide +kernel
theorem dX12_bury_38 : decode cX12_bury 38 = .ok (.iconst 0, 1) := by decide +kernel
theorem dX12_bury_39 : decode cX12_bury 39 = .ok (.istore 4, 2) := by decide +kernel
theorem dX12_bury_41 : decode cX12_bury 41 = .ok (.iload 4, 2) := by decide +kernel
theorem dX12_bury_43 : decode cX12_bury 43 = .ok (.aload_n 0, 1) := by decide +kernel
theorem dX12_bury_44 : decode cX12_bury 44 = .ok (.getfield 341, 3) := by decide +kernel
theorem dX12_bury_47 : decode cX12_bury 47 = .ok (.if_icmp .ge 49, 3) := by decide +kernel
theorem dX12_bury_50 : decode cX12_bury 50 = .ok (.iconst 0, 1) := by decide +kernel
theorem dX12_bury_51 : decode cX12_bury 51 = .ok (.istore 5, 2) := by decide +kernel
theorem dX12_bury_53 : decode cX12_bury 53 = .ok (.iload 5, 2) := by decide +kernel
theorem dX12_bury_55 : decode cX12_bury 55 = .ok (.iconst 2, 1) := by decide +kernel
theorem dX12_bury_56 : decode cX12_bury 56 = .ok (.if_icmp .ge 34, 3) := by decide +kernel
theorem dX12_bury_59 : decode cX12_bury 59 = .ok (.aload_n 0, 1) := by decide +kernel
theorem dX12_bury_60 : decode cX12_bury 60 = .ok (.getfield 76, 3) := by decide +kernel
theorem dX12_bury_63 : decode cX12_bury 63 = .ok (.iload_n 3, 1) := by decide +kernel
theorem dX12_bury_64 : decode cX12_bury 64 = .ok (.iload 4, 2) := by decide +kernel
theorem dX12_bury_66 : decode cX12_bury 66 = .ok (.iload 5, 2) := by decide +kernel
theorem dX12_bury_68 : decode cX12_bury 68 = .ok (.invokestatic 350, 3) := by decide +kernel
theorem dX12_bury_71 : decode cX12_bury 71 = .ok (.baload, 1) := by decide +kernel
theorem dX12_bury_72 : decode cX12_bury 72 = .ok (.ifCond .ne 12, 3) := by decide +kernel
theorem dX12_bury_75 : decode cX12_bury 75 = .ok (.aload_n 0, 1) := by decide +kernel
theorem dX12_bury_76 : decode cX12_bury 76 = .ok (.iload_n 3, 1) := by decide +kernel
theorem dX12_bury_77 : decode cX12_bury 77 = .ok (.iload 4, 2) := by decide +kernel
theorem dX12_bury_79 : decode cX12_bury 79 = .ok (.iload 5, 2) := by decide +kernel
theorem dX12_bury_81 : decode cX12_bury 81 = .ok (.invokevirtual 396, 3) := by decide +kernel
theorem dX12_bury_84 : decode cX12_bury 84 = .ok (.iinc 5 1, 3) := by decide +kernel
theorem dX12_bury_87 : decode cX12_bury 87 = .ok (.goto (-34), 3) := by decide +kernel
theorem dX12_bury_90 : decode cX12_bury 90 = .ok (.iinc 4 1, 3) := by decide +kernel
theorem dX12_bury_93 : decode cX12_bury 93 = .ok (.goto (-52), 3) := by decide +kernel
theorem dX12_bury_96 : decode cX12_bury 96 = .ok (.iinc 3 1, 3) := by decide +kernel
theorem dX12_bury_99 : decode cX12_bury 99 = .ok (.goto (-69), 3) := by decide +kernel
theorem dX12_bury_102 : decode cX12_bury 102 = .ok (.iinc 2 1, 3) := by decide +kernel
theorem dX12_bury_105 : decode cX12_bury 105 = .ok (.goto (-82), 3) := by decide +kernel
theorem dX12_bury_108 : decode cX12_bury 108 = .ok (.aload_n 0, 1) := by decide +kernel
theorem dX12_bury_109 : decode cX12_bury 109 = .ok (.invokevirtual 383, 3) := by decide +kernel
theorem dX12_bury_112 : decode cX12_bury 112 = .ok (.aload_n 0, 1) := by decide +kernel
theorem dX12_bury_113 : decode cX12_bury 113 = .ok (.invokevirtual 399, 3) := by decide +kernel
theorem dX12_bury_116 : decode cX12_bury 116 = .ok (.ireturn, 1) := by decide +kernel
theorem dX12_lies_0 : decode cX12_lies 0 = .ok (.aload_n 0, 1) := by decide +kernel
theorem dX12_lies_1 : decode cX12_lies 1 = .ok (.iload_n 1, 1) := by decide +kernel
theorem dX12_lies_2 : decode cX12_lies 2 = .ok (.iload_n 2, 1) := by decide +kernel
theorem dX12_lies_3 : decode cX12_lies 3 = .ok (.iload_n 3, 1) := by decide +kernel
theorem dX12_lies_4 : decode cX12_lies 4 = .ok (.invokevirtual 402, 3) := by decide +kernel
theorem dX12_lies_7 : decode cX12_lies 7 = .ok (.ifCond .eq 33, 3) := by decide +kernel
theorem dX12_lies_10 : decode cX12_lies 10 = .ok (.iload 4, 2) := by decide +kernel
theorem dX12_lies_12 : decode cX12_lies 12 = .ok (.i2l, 1) := by decide +kernel
theorem dX12_lies_13 : decode cX12_lies 13 = .ok (.ldc2_w 406, 3) := by decide +kernel
theorem dX12_lies_16 : decode cX12_lies 16 = .ok (.ldc2_w 408, 3) := by decide +kernel
theorem dX12_lies_19 : decode cX12_lies 19 = .ok (.invokestatic 155, 3) := by decide +kernel
theorem dX12_lies_22 : decode cX12_lies 22 = .ok (.ifCond .eq 18, 3) := by decide +kernel
theorem dX12_lies_25 : decode cX12_lies 25 = .ok (.iload 5, 2) := by decide +kernel
theorem dX12_lies_27 : decode cX12_lies 27 = .ok (.i2l, 1) := by decide +kernel
theorem dX12_lies_28 : decode cX12_lies 28 = .ok (.ldc2_w 406, 3) := by decide +kernel
theorem dX12_lies_31 : decode cX12_lies 31 = .ok (.ldc2_w 408, 3) := by decide +kernel
theorem dX12_lies_34 : decode cX12_lies 34 = .ok (.invokestatic 155, 3) := by decide +kernel
theorem dX12_lies_37 : decode cX12_lies 37 = .ok (.ifCond .ne 5, 3) := by decide +kernel
theorem dX12_lies_40 : decode cX12_lies 40 = .ok (.iconst 0, 1) := by decide +kernel
theorem dX12_lies_41 : decode cX12_lies 41 = .ok (.ireturn, 1) := by decide +kernel
theorem dX12_lies_42 : decode cX12_lies 42 = .ok (.aload_n 0, 1) := by decide +kernel
theorem dX12_lies_43 : decode cX12_lies 43 = .ok (.getfield 70, 3) := by decide +kernel
theorem dX12_lies_46 : decode cX12_lies 46 = .ok (.iload_n 1, 1) := by decide +kernel
theorem dX12_lies_47 : decode cX12_lies 47 = .ok (.iload_n 2, 1) := by decide +kernel
theorem dX12_lies_48 : decode cX12_lies 48 = .ok (.iload_n 3, 1) := by decide +kernel
theorem dX12_lies_49 : decode cX12_lies 49 = .ok (.invokestatic 350, 3) := by decide +kernel
theorem dX12_lies_52 : decode cX12_lies 52 = .ok (.iload 4, 2) := by decide +kernel
theorem dX12_lies_54 : decode cX12_lies 54 = .ok (.iastore, 1) := by decide +kernel
theorem dX12_lies_55 : decode cX12_lies 55 = .ok (.aload_n 0, 1) := by decide +kernel
theorem dX12_lies_56 : decode cX12_lies 56 = .ok (.getfield 73, 3) := by decide +kernel
theorem dX12_lies_59 : decode cX12_lies 59 = .ok (.iload_n 1, 1) := by decide +kernel
theorem dX12_lies_60 : decode cX12_lies 60 = .ok (.iload_n 2, 1) := by decide +kernel
theorem dX12_lies_61 : decode cX12_lies 61 = .ok (.iload_n 3, 1) := by decide +kernel
theorem dX12_lies_62 : decode cX12_lies 62 = .ok (.invokestatic 350, 3) := by decide +kernel
theorem dX12_lies_65 : decode cX12_lies 65 = .ok (.iload 5, 2) := by decide +kernel
theorem dX12_lies_67 : decode cX12_lies 67 = .ok (.iastore, 1) := by decide +kernel
theorem dX12_lies_68 : decode cX12_lies 68 = .ok (.aload_n 0, 1) := by decide +kernel
theorem dX12_lies_69 : decode cX12_lies 69 = .ok (.getfield 76, 3) := by decide +kernel
theorem dX12_lies_72 : decode cX12_lies 72 = .ok (.iload_n 1, 1) := by decide +kernel
theorem dX12_lies_73 : decode cX12_lies 73 = .ok (.iload_n 2, 1) := by decide +kernel
theorem dX12_lies_74 : decode cX12_lies 74 = .ok (.iload_n 3, 1) := by decide +kernel
theorem dX12_lies_75 : decode cX12_lies 75 = .ok (.invokestatic 350, 3) := by decide +kernel
theorem dX12_lies_78 : decode cX12_lies 78 = .ok (.iconst 0, 1) := by decide +kernel
theorem dX12_lies_79 : decode cX12_lies 79 = .ok (.bastore, 1) := by decide +kernel
theorem dX12_lies_80 : decode cX12_lies 80 = .ok (.aload_n 0, 1) := by decide +kernel
theorem dX12_lies_81 : decode cX12_lies 81 = .ok (.invokevirtual 383, 3) := by decide +kernel
theorem dX12_lies_84 : decode cX12_lies 84 = .ok (.iconst 1, 1) := by decide +kernel
theorem dX12_lies_85 : decode cX12_lies 85 = .ok (.ireturn, 1) := by decide +kernel
theorem dX12_gone_0 : decode cX12_gone 0 = .ok (.aload_n 0, 1) := by decide +kernel
theorem dX12_gone_1 : decode cX12_gone 1 = .ok (.iload_n 1, 1) := by decide +kernel
theorem dX12_gone_2 : decode cX12_gone 2 = .ok (.iload_n 2, 1) := by decide +kernel
theorem dX12_gone_3 : decode cX12_gone 3 = .ok (.iload_n 3, 1) := by decide +kernel
theorem dX12_gone_4 : decode cX12_gone 4 = .ok (.invokevirtual 402, 3) := by decide +kernel
theorem dX12_gone_7 : decode cX12_gone 7 = .ok (.ifCond .eq 17, 3) := by decide +kernel
theorem dX12_gone_10 : decode cX12_gone 10 = .ok (.aload_n 0, 1) := by decide +kernel
theorem dX12_gone_11 : decode cX12_gone 11 = .ok (.getfield 76, 3) := by decide +kernel
theorem dX12_gone_14 : decode cX12_gone 14 = .ok (.iload_n 1, 1) := by decide +kernel
theorem dX12_gone_15 : decode cX12_gone 15 = .ok (.iload_n 2, 1) := by decide +kernel
theorem dX12_gone_16 : decode cX12_gone 16 = .ok (.iload_n 3, 1) := by decide +kernel
theorem dX12_gone_17 : decode cX12_gone 17 = .ok (.invokestatic 350, 3) := by decide +kernel
theorem dX12_gone_20 : decode cX12_gone 20 = .ok (.baload, 1) := by decide +kernel
theorem dX12_gone_21 : decode cX12_gone 21 = .ok (.ifCond .eq 5, 3) := by decide +kernel
theorem dX12_gone_24 : decode cX12_gone 24 = .ok (.iconst 0, 1) := by decide +kernel
theorem dX12_gone_25 : decode cX12_gone 25 = .ok (.ireturn, 1) := by decide +kernel
theorem dX12_gone_26 : decode cX12_gone 26 = .ok (.aload_n 0, 1) := by decide +kernel
theorem dX12_gone_27 : decode cX12_gone 27 = .ok (.getfield 76, 3) := by decide +kernel
theorem dX12_gone_30 : decode cX12_gone 30 = .ok (.iload_n 1, 1) := by decide +kernel
theorem dX12_gone_31 : decode cX12_gone 31 = .ok (.iload_n 2, 1) := by decide +kernel
theorem dX12_gone_32 : decode cX12_gone 32 = .ok (.iload_n 3, 1) := by decide +kernel
theorem dX12_gone_33 : decode cX12_gone 33 = .ok (.invokestatic 350, 3) := by decide +kernel
theorem dX12_gone_36 : decode cX12_gone 36 = .ok (.iconst 1, 1) := by decide +kernel
theorem dX12_gone_37 : decode cX12_gone 37 = .ok (.bastore, 1) := by decide +kernel
theorem dX12_gone_38 : decode cX12_gone 38 = .ok (.aload_n 0, 1) := by decide +kernel
theorem dX12_gone_39 : decode cX12_gone 39 = .ok (.invokevirtual 383, 3) := by decide +kernel
theorem dX12_gone_42 : decode cX12_gone 42 = .ok (.iconst 1, 1) := by decide +kernel
theorem dX12_gone_43 : decode cX12_gone 43 = .ok (.ireturn, 1) := by decide +kernel
theorem dX12_rivet_0 : decode cX12_rivet 0 = .ok (.aload_n 0, 1) := by decide +kernel
theorem dX12_rivet_1 : decode cX12_rivet 1 = .ok (.iload_n 1, 1) := by decide +kernel
theorem dX12_rivet_2 : decode cX12_rivet 2 = .ok (.iload_n 2, 1) := by decide +kernel
theorem dX12_rivet_3 : decode cX12_rivet 3 = .ok (.iload_n 3, 1) := by decide +kernel
theorem dX12_rivet_4 : decode cX12_rivet 4 = .ok (.invokevirtual 402, 3) := by decide +kernel
theorem dX12_rivet_7 : decode cX12_rivet 7 = .ok (.ifCond .ne 7, 3) := by decide +kernel
theorem dX12_rivet_10 : decode cX12_rivet 10 = .ok (.sipush (-10000), 3) := by decide +kernel
theorem dX12_rivet_13 : decode cX12_rivet 13 = .ok (.ireturn, 1) := by decide +kernel
theorem dX12_rivet_14 : decode cX12_rivet 14 = .ok (.iload_n 1, 1) := by decide +kernel
theorem dX12_rivet_15 : decode cX12_rivet 15 = .ok (.iload_n 2, 1) := by decide +kernel
theorem dX12_rivet_16 : decode cX12_rivet 16 = .ok (.iload_n 3, 1) := by decide +kernel
theorem dX12_rivet_17 : decode cX12_rivet 17 = .ok (.invokestatic 350, 3) := by decide +kernel
theorem dX12_rivet_20 : decode cX12_rivet 20 = .ok (.istore 5, 2) := by decide +kernel
theorem dX12_rivet_22 : decode cX12_rivet 22 = .ok (.iload 4, 2) := by decide +kernel
theorem dX12_rivet_24 : decode cX12_rivet 24 = .ok (.tableswitch 92 0 4 #[36, 44, 52, 68, 76], 36) := by decide +kernel
theorem dX12_rivet_60 : decode cX12_rivet 60 = .ok (.aload_n 0, 1) := by decide +kernel
theorem dX12_rivet_61 : decode cX12_rivet 61 = .ok (.getfield 70, 3) := by decide +kernel
theorem dX12_rivet_64 : decode cX12_rivet 64 = .ok (.iload 5, 2) := by decide +kernel
theorem dX12_rivet_66 : decode cX12_rivet 66 = .ok (.iaload, 1) := by decide +kernel
theorem dX12_rivet_67 : decode cX12_rivet 67 = .ok (.ireturn, 1) := by decide +kernel
theorem dX12_rivet_68 : decode cX12_rivet 68 = .ok (.aload_n 0, 1) := by decide +kernel
theorem dX12_rivet_69 : decode cX12_rivet 69 = .ok (.getfield 73, 3) := by decide +kernel
theorem dX12_rivet_72 : decode cX12_rivet 72 = .ok (.iload 5, 2) := by decide +kernel
theorem dX12_rivet_74 : decode cX12_rivet 74 = .ok (.iaload, 1) := by decide +kernel
theorem dX12_rivet_75 : decode cX12_rivet 75 = .ok (.ireturn, 1) := by decide +kernel
theorem dX12_rivet_76 : decode cX12_rivet 76 = .ok (.aload_n 0, 1) := by decide +kernel
theorem dX12_rivet_77 : decode cX12_rivet 77 = .ok (.getfield 76, 3) := by decide +kernel
theorem dX12_rivet_80 : decode cX12_rivet 80 = .ok (.iload 5, 2) := by decide +kernel
theorem dX12_rivet_82 : decode cX12_rivet 82 = .ok (.baload, 1) := by decide +kernel
theorem dX12_rivet_83 : decode cX12_rivet 83 = .ok (.ifCond .eq 7, 3) := by decide +kernel
theorem dX12_rivet_86 : decode cX12_rivet 86 = .ok (.iconst 1, 1) := by decide +kernel
theorem dX12_rivet_87 : decode cX12_rivet 87 = .ok (.goto 4, 3) := by decide +kernel
theorem dX12_rivet_90 : decode cX12_rivet 90 = .ok (.iconst 0, 1) := by decide +kernel
theorem dX12_rivet_91 : decode cX12_rivet 91 = .ok (.ireturn, 1) := by decide +kernel
theorem dX12_rivet_92 : decode cX12_rivet 92 = .ok (.aload_n 0, 1) := by decide +kernel
theorem dX12_rivet_93 : decode cX12_rivet 93 = .ok (.getfield 79, 3) := by decide +kernel
theorem dX12_rivet_96 : decode cX12_rivet 96 = .ok (.iload 5, 2) := by decide +kernel
theorem dX12_rivet_98 : decode cX12_rivet 98 = .ok (.iaload, 1) := by decide +kernel
theorem dX12_rivet_99 : decode cX12_rivet 99 = .ok (.ireturn, 1) := by decide +kernel
theorem dX12_rivet_100 : decode cX12_rivet 100 = .ok (.aload_n 0, 1) := by decide +kernel
theorem dX12_rivet_101 : decode cX12_rivet 101 = .ok (.iload_n 1, 1) := by decide +kernel
theorem dX12_rivet_102 : decode cX12_rivet 102 = .ok (.iload_n 2, 1) := by decide +kernel
theorem dX12_rivet_103 : decode cX12_rivet 103 = .ok (.iload_n 3, 1) := by decide +kernel
theorem dX12_rivet_104 : decode cX12_rivet 104 = .ok (.invokevirtual 410, 3) := by decide +kernel
theorem dX12_rivet_107 : decode cX12_rivet 107 = .ok (.ifCond .eq 7, 3) := by decide +kernel
theorem dX12_rivet_110 : decode cX12_rivet 110 = .ok (.iconst 1, 1) := by decide +kernel
theorem dX12_rivet_111 : decode cX12_rivet 111 = .ok (.goto 4, 3) := by decide +kernel
theorem dX12_rivet_114 : decode cX12_rivet 114 = .ok (.iconst 0, 1) := by decide +kernel
theorem dX12_rivet_115 : decode cX12_rivet 115 = .ok (.ireturn, 1) := by decide +kernel
theorem dX12_rivet_116 : decode cX12_rivet 116 = .ok (.sipush (-10000), 3) := by decide +kernel
theorem dX12_rivet_119 : decode cX12_rivet 119 = .ok (.ireturn, 1) := by decide +kernel
theorem dX12_cut_0 : decode cX12_cut 0 = .ok (.iload_n 1, 1) := by decide +kernel
theorem dX12_cut_1 : decode cX12_cut 1 = .ok (.i2l, 1) := by decide +kernel
theorem dX12_cut_2 : decode cX12_cut 2 = .ok (.lconst 0, 1) := by decide +kernel
theorem dX12_cut_3 : decode cX12_cut 3 = .ok (.iconst 1, 1) := by decide +kernel
theorem dX12_cut_4 : decode cX12_cut 4 = .ok (.aload_n 0, 1) := by decide +kernel
theorem dX12_cut_5 : decode cX12_cut 5 = .ok (.getfield 338, 3) := by decide +kernel
theorem dX12_cut_8 : decode cX12_cut 8 = .ok (.ishl, 1) := by decide +kernel
theorem dX12_cut_9 : decode cX12_cut 9 = .ok (.iconst 1, 1) := by decide +kernel
theorem dX12_cut_10 : decode cX12_cut 10 = .ok (.isub, 1) := by decide +kernel
theorem dX12_cut_11 : decode cX12_cut 11 = .ok (.i2l, 1) := by decide +kernel
theorem dX12_cut_12 : decode cX12_cut 12 = .ok (.invokestatic 155, 3) := by decide +kernel
theorem dX12_cut_15 : decode cX12_cut 15 = .ok (.ifCond .ne 5, 3) := by decide +kernel
theorem dX12_cut_18 : decode cX12_cut 18 = .ok (.iconst 0, 1) := by decide +kernel
theorem dX12_cut_19 : decode cX12_cut 19 = .ok (.ireturn, 1) := by decide +kernel
theorem dX12_cut_20 : decode cX12_cut 20 = .ok (.aload_n 0, 1) := by decide +kernel
theorem dX12_cut_21 : decode cX12_cut 21 = .ok (.iload_n 1, 1) := by decide +kernel
theorem dX12_cut_22 : decode cX12_cut 22 = .ok (.putfield 353, 3) := by decide +kernel
theorem dX12_cut_25 : decode cX12_cut 25 = .ok (.aload_n 0, 1) := by decide +kernel
theorem dX12_cut_26 : decode cX12_cut 26 = .ok (.invokevirtual 383, 3) := by decide +kernel
theorem dX12_cut_29 : decode cX12_cut 29 = .ok (.iconst 1, 1) := by decide +kernel
theorem dX12_cut_30 : decode cX12_cut 30 = .ok (.ireturn, 1) := by decide +kernel
theorem dX12_isDrawing_0 : decode cX12_isDrawing 0 = .ok (.iload_n 1, 1) := by decide +kernel
theorem dX12_isDrawing_1 : decode cX12_isDrawing 1 = .ok (.i2l, 1) := by decide +kernel
theorem dX12_isDrawing_2 : decode cX12_isDrawing 2 = .ok (.lconst 0, 1) := by decide +kernel
theorem dX12_isDrawing_3 : decode cX12_isDrawing 3 = .ok (.aload_n 0, 1) := by decide +kernel
theorem dX12_isDrawing_4 : decode cX12_isDrawing 4 = .ok (.getfield 369, 3) := by decide +kernel
theorem dX12_isDrawing_7 : decode cX12_isDrawing 7 = .ok (.iconst 1, 1) := by decide +kernel
theorem dX12_isDrawing_8 : decode cX12_isDrawing 8 = .ok (.isub, 1) := by decide +kernel
theorem dX12_isDrawing_9 : decode cX12_isDrawing 9 = .ok (.i2l, 1) := by decide +kernel
theorem dX12_isDrawing_10 : decode cX12_isDrawing 10 = .ok (.invokestatic 155, 3) := by decide +kernel
theorem dX12_isDrawing_13 : decode cX12_isDrawing 13 = .ok (.ireturn, 1) := by decide +kernel
theorem dX12_drawing_0 : decode cX12_drawing 0 = .ok (.aload_n 0, 1) := by decide +kernel
theorem dX12_drawing_1 : decode cX12_drawing 1 = .ok (.getfield 338, 3) := by decide +kernel
theorem dX12_drawing_4 : decode cX12_drawing 4 = .ok (.ifCond .eq 23, 3) := by decide +kernel
theorem dX12_drawing_7 : decode cX12_drawing 7 = .ok (.aload_n 0, 1) := by decide +kernel
theorem dX12_drawing_8 : decode cX12_drawing 8 = .ok (.getfield 369, 3) := by decide +kernel
theorem dX12_drawing_11 : decode cX12_drawing 11 = .ok (.iconst 4, 1) := by decide +kernel
theorem dX12_drawing_12 : decode cX12_drawing 12 = .ok (.if_icmp .eq 15, 3) := by decide +kernel
theorem dX12_drawing_15 : decode cX12_drawing 15 = .ok (.iload_n 1, 1) := by decide +kernel
theorem dX12_drawing_16 : decode cX12_drawing 16 = .ok (.i2l, 1) := by decide +kernel
theorem dX12_drawing_17 : decode cX12_drawing 17 = .ok (.lconst 0, 1) := by decide +kernel
theorem dX12_drawing_18 : decode cX12_drawing 18 = .ok (.ldc2_w 413, 3) := by decide +kernel
theorem dX12_drawing_21 : decode cX12_drawing 21 = .ok (.invokestatic 155, 3) := by decide +kernel
theorem dX12_drawing_24 : decode cX12_drawing 24 = .ok (.ifCond .ne 5, 3) := by decide +kernel
theorem dX12_drawing_27 : decode cX12_drawing 27 = .ok (.iconst (-1), 1) := by decide +kernel
theorem dX12_drawing_28 : decode cX12_drawing 28 = .ok (.ireturn, 1) := by decide +kernel
theorem dX12_drawing_29 : decode cX12_drawing 29 = .ok (.iconst 0, 1) := by decide +kernel
theorem dX12_drawing_30 : decode cX12_drawing 30 = .ok (.istore_n 2, 1) := by decide +kernel
theorem dX12_drawing_31 : decode cX12_drawing 31 = .ok (.iload_n 2, 1) := by decide +kernel
theorem dX12_drawing_32 : decode cX12_drawing 32 = .ok (.sipush 384, 3) := by decide +kernel
theorem dX12_drawing_35 : decode cX12_drawing 35 = .ok (.if_icmp .ge 25, 3) := by decide +kernel
theorem dX12_drawing_38 : decode cX12_drawing 38 = .ok (.aload_n 0, 1) := by decide +kernel
theorem dX12_drawing_39 : decode cX12_drawing 39 = .ok (.getfield 85, 3) := by decide +kernel
theorem dX12_drawing_42 : decode cX12_drawing 42 = .ok (.sipush 384, 3) := by decide +kernel
theorem dX12_drawing_45 : decode cX12_drawing 45 = .ok (.aload_n 0, 1) := by decide +kernel
theorem dX12_drawing_46 : decode cX12_drawing 46 = .ok (.getfield 369, 3) := by decide +kernel
theorem dX12_drawing_49 : decode cX12_drawing 49 = .ok (.imul, 1) := by decide +kernel
theorem dX12_drawing_50 : decode cX12_drawing 50 = .ok (.iload_n 2, 1) := by decide +kernel
theorem dX12_drawing_51 : decode cX12_drawing 51 = .ok (.iadd, 1) := by decide +kernel
theorem dX12_drawing_52 : decode cX12_drawing 52 = .ok (.iconst 0, 1) := by decide +kernel
theorem dX12_drawing_53 : decode cX12_drawing 53 = .ok (.bastore, 1) := by decide +kernel
theorem dX12_drawing_54 : decode cX12_drawing 54 = .ok (.iinc 2 1, 3) := by decide +kernel
theorem dX12_drawing_57 : decode cX12_drawing 57 = .ok (.goto (-26), 3) := by decide +kernel
theorem dX12_drawing_60 : decode cX12_drawing 60 = .ok (.aload_n 0, 1) := by decide +kernel
theorem dX12_drawing_61 : decode cX12_drawing 61 = .ok (.dup, 1) := by decide +kernel
theorem dX12_drawing_62 : decode cX12_drawing 62 = .ok (.getfield 369, 3) := by decide +kernel
theorem dX12_drawing_65 : decode cX12_drawing 65 = .ok (.iconst 1, 1) := by decide +kernel
theorem dX12_drawing_66 : decode cX12_drawing 66 = .ok (.iadd, 1) := by decide +kernel
theorem dX12_drawing_67 : decode cX12_drawing 67 = .ok (.putfield 369, 3) := by decide +kernel
theorem dX12_drawing_70 : decode cX12_drawing 70 = .ok (.aload_n 0, 1) := by decide +kernel
theorem dX12_drawing_71 : decode cX12_drawing 71 = .ok (.getfield 369, 3) := by decide +kernel
theorem dX12_drawing_74 : decode cX12_drawing 74 = .ok (.iconst 1, 1) := by decide +kernel
theorem dX12_drawing_75 : decode cX12_drawing 75 = .ok (.isub, 1) := by decide +kernel
theorem dX12_drawing_76 : decode cX12_drawing 76 = .ok (.ireturn, 1) := by decide +kernel
theorem dX12_marks_0 : decode cX12_marks 0 = .ok (.aload_n 0, 1) := by decide +kernel
theorem dX12_marks_1 : decode cX12_marks 1 = .ok (.getfield 85, 3) := by decide +kernel
theorem dX12_marks_4 : decode cX12_marks 4 = .ok (.sipush 384, 3) := by decide +kernel
theorem dX12_marks_7 : decode cX12_marks 7 = .ok (.iload_n 1, 1) := by decide +kernel
theorem dX12_marks_8 : decode cX12_marks 8 = .ok (.imul, 1) := by decide +kernel
theorem dX12_marks_9 : decode cX12_marks 9 = .ok (.iload_n 2, 1) := by decide +kernel
theorem dX12_marks_10 : decode cX12_marks 10 = .ok (.iadd, 1) := by decide +kernel
theorem dX12_marks_11 : decode cX12_marks 11 = .ok (.iconst 1, 1) := by decide +kernel
theorem dX12_marks_12 : decode cX12_marks 12 = .ok (.bastore, 1) := by decide +kernel
theorem dX12_marks_13 : decode cX12_marks 13 = .ok (.aload_n 0, 1) := by decide +kernel
theorem dX12_marks_14 : decode cX12_marks 14 = .ok (.getfield 88, 3) := by decide +kernel
theorem dX12_marks_17 : decode cX12_marks 17 = .ok (.sipush 384, 3) := by decide +kernel
theorem dX12_marks_20 : decode cX12_marks 20 = .ok (.iload_n 1, 1) := by decide +kernel
theorem dX12_marks_21 : decode cX12_marks 21 = .ok (.imul, 1) := by decide +kernel
theorem dX12_marks_22 : decode cX12_marks 22 = .ok (.iload_n 2, 1) := by decide +kernel
theorem dX12_marks_23 : decode cX12_marks 23 = .ok (.iadd, 1) := by decide +kernel
theorem dX12_marks_24 : decode cX12_marks 24 = .ok (.iload_n 3, 1) := by decide +kernel
theorem dX12_marks_25 : decode cX12_marks 25 = .ok (.iastore, 1) := by decide +kernel
theorem dX12_marks_26 : decode cX12_marks 26 = .ok (.aload_n 0, 1) := by decide +kernel
theorem dX12_marks_27 : decode cX12_marks 27 = .ok (.getfield 91, 3) := by decide +kernel
theorem dX12_marks_30 : decode cX12_marks 30 = .ok (.sipush 384, 3) := by decide +kernel
theorem dX12_marks_33 : decode cX12_marks 33 = .ok (.iload_n 1, 1) := by decide +kernel
theorem dX12_marks_34 : decode cX12_marks 34 = .ok (.imul, 1) := by decide +kernel
theorem dX12_marks_35 : decode cX12_marks 35 = .ok (.iload_n 2, 1) := by decide +kernel
theorem dX12_marks_36 : decode cX12_marks 36 = .ok (.iadd, 1) := by decide +kernel
theorem dX12_marks_37 : decode cX12_marks 37 = .ok (.iload 4, 2) := by decide +kernel
theorem dX12_marks_39 : decode cX12_marks 39 = .ok (.iastore, 1) := by decide +kernel
theorem dX12_marks_40 : decode cX12_marks 40 = .ok (.return_, 1) := by decide +kernel
theorem dX12_mark_0 : decode cX12_mark 0 = .ok (.aload_n 0, 1) := by decide +kernel
theorem dX12_mark_1 : decode cX12_mark 1 = .ok (.iload_n 1, 1) := by decide +kernel
theorem dX12_mark_2 : decode cX12_mark 2 = .ok (.invokevirtual 415, 3) := by decide +kernel
theorem dX12_mark_5 : decode cX12_mark 5 = .ok (.ifCond .eq 44, 3) := by decide +kernel
theorem dX12_mark_8 : decode cX12_mark 8 = .ok (.aload_n 0, 1) := by decide +kernel
theorem dX12_mark_9 : decode cX12_mark 9 = .ok (.iload_n 2, 1) := by decide +kernel
theorem dX12_mark_10 : decode cX12_mark 10 = .ok (.iload_n 3, 1) := by decide +kernel
theorem dX12_mark_11 : decode cX12_mark 11 = .ok (.iload 4, 2) := by decide +kernel
theorem dX12_mark_13 : decode cX12_mark 13 = .ok (.invokevirtual 402, 3) := by decide +kernel
theorem dX12_mark_16 : decode cX12_mark 16 = .ok (.ifCond .eq 33, 3) := by decide +kernel
theorem dX12_mark_19 : decode cX12_mark 19 = .ok (.iload 5, 2) := by decide +kernel
theorem dX12_mark_21 : decode cX12_mark 21 = .ok (.i2l, 1) := by decide +kernel
theorem dX12_mark_22 : decode cX12_mark 22 = .ok (.ldc2_w 418, 3) := by decide +kernel
theorem dX12_mark_25 : decode cX12_mark 25 = .ok (.ldc2_w 420, 3) := by decide +kernel
theorem dX12_mark_28 : decode cX12_mark 28 = .ok (.invokestatic 155, 3) := by decide +kernel
theorem dX12_mark_31 : decode cX12_mark 31 = .ok (.ifCond .eq 18, 3) := by decide +kernel
theorem dX12_mark_34 : decode cX12_mark 34 = .ok (.iload 6, 2) := by decide +kernel
theorem dX12_mark_36 : decode cX12_mark 36 = .ok (.i2l, 1) := by decide +kernel
theorem dX12_mark_37 : decode cX12_mark 37 = .ok (.ldc2_w 418, 3) := by decide +kernel
theorem dX12_mark_40 : decode cX12_mark 40 = .ok (.ldc2_w 420, 3) := by decide +kernel
theorem dX12_mark_43 : decode cX12_mark 43 = .ok (.invokestatic 155, 3) := by decide +kernel
theorem dX12_mark_46 : decode cX12_mark 46 = .ok (.ifCond .ne 5, 3) := by decide +kernel
theorem dX12_mark_49 : decode cX12_mark 49 = .ok (.iconst 0, 1) := by decide +kernel
theorem dX12_mark_50 : decode cX12_mark 50 = .ok (.ireturn, 1) := by decide +kernel
theorem dX12_mark_51 : decode cX12_mark 51 = .ok (.aload_n 0, 1) := by decide +kernel
theorem dX12_mark_52 : decode cX12_mark 52 = .ok (.iload_n 1, 1) := by decide +kernel
theorem dX12_mark_53 : decode cX12_mark 53 = .ok (.iload_n 2, 1) := by decide +kernel
theorem dX12_mark_54 : decode cX12_mark 54 = .ok (.iload_n 3, 1) := by decide +kernel
theorem dX12_mark_55 : decode cX12_mark 55 = .ok (.iload 4, 2) := by decide +kernel
theorem dX12_mark_57 : decode cX12_mark 57 = .ok (.invokestatic 350, 3) := by decide +kernel
theorem dX12_mark_60 : decode cX12_mark 60 = .ok (.iload 5, 2) := by decide +kernel
theorem dX12_mark_62 : decode cX12_mark 62 = .ok (.iload 6, 2) := by decide +kernel
theorem dX12_mark_64 : decode cX12_mark 64 = .ok (.invokevirtual 422, 3) := by decide +kernel
theorem dX12_mark_67 : decode cX12_mark 67 = .ok (.iconst 1, 1) := by decide +kernel
theorem dX12_mark_68 : decode cX12_mark 68 = .ok (.ireturn, 1) := by decide +kernel
theorem dX12_draw_0 : decode cX12_draw 0 = .ok (.aload_n 0, 1) := by decide +kernel
theorem dX12_draw_1 : decode cX12_draw 1 = .ok (.iload_n 1, 1) := by decide +kernel
theorem dX12_draw_2 : decode cX12_draw 2 = .ok (.invokevirtual 415, 3) := by decide +kernel
theorem dX12_draw_5 : decode cX12_draw 5 = .ok (.ifCond .eq 44, 3) := by decide +kernel
theorem dX12_draw_8 : decode cX12_draw 8 = .ok (.iload_n 2, 1) := by decide +kernel
theorem dX12_draw_9 : decode cX12_draw 9 = .ok (.i2l, 1) := by decide +kernel
theorem dX12_draw_10 : decode cX12_draw 10 = .ok (.ldc2_w 426, 3) := by decide +kernel
theorem dX12_draw_13 : decode cX12_draw 13 = .ok (.ldc2_w 428, 3) := by decide +kernel
theorem dX12_draw_16 : decode cX12_draw 16 = .ok (.invokestatic 155, 3) := by decide +kernel
theorem dX12_draw_19 : decode cX12_draw 19 = .ok (.ifCond .eq 30, 3) := by decide +kernel
theorem dX12_draw_22 : decode cX12_draw 22 = .ok (.iload_n 3, 1) := by decide +kernel
theorem dX12_draw_23 : decode cX12_draw 23 = .ok (.i2l, 1) := by decide +kernel
theorem dX12_draw_24 : decode cX12_draw 24 = .ok (.ldc2_w 426, 3) := by decide +kernel
theorem dX12_draw_27 : decode cX12_draw 27 = .ok (.ldc2_w 428, 3) := by decide +kernel
theorem dX12_draw_30 : decode cX12_draw 30 = .ok (.invokestatic 155, 3) := by decide +kernel
theorem dX12_draw_33 : decode cX12_draw 33 = .ok (.ifCond .eq 16, 3) := by decide +kernel
theorem dX12_draw_36 : decode cX12_draw 36 = .ok (.iload 4, 2) := by decide +kernel
theorem dX12_draw_38 : decode cX12_draw 38 = .ok (.i2l, 1) := by decide +kernel
theorem dX12_draw_39 : decode cX12_draw 39 = .ok (.lconst 0, 1) := by decide +kernel
theorem dX12_draw_40 : decode cX12_draw 40 = .ok (.ldc2_w 153, 3) := by decide +kernel
theorem dX12_draw_43 : decode cX12_draw 43 = .ok (.invokestatic 155, 3) := by decide +kernel
theorem dX12_draw_46 : decode cX12_draw 46 = .ok (.ifCond .ne 5, 3) := by decide +kernel
theorem dX12_draw_49 : decode cX12_draw 49 = .ok (.iconst (-1), 1) := by decide +kernel
theorem dX12_draw_50 : decode cX12_draw 50 = .ok (.ireturn, 1) := by decide +kernel
theorem dX12_draw_51 : decode cX12_draw 51 = .ok (.iconst 0, 1) := by decide +kernel
theorem dX12_draw_52 : decode cX12_draw 52 = .ok (.istore 5, 2) := by decide +kernel
theorem dX12_draw_54 : decode cX12_draw 54 = .ok (.iload 5, 2) := by decide +kernel
theorem dX12_draw_56 : decode cX12_draw 56 = .ok (.aload_n 0, 1) := by decide +kernel
theorem dX12_draw_57 : decode cX12_draw 57 = .ok (.getfield 338, 3) := by decide +kernel
theorem dX12_draw_60 : decode cX12_draw 60 = .ok (.if_icmp .ge 118, 3) := by decide +kernel
theorem dX12_draw_63 : decode cX12_draw 63 = .ok (.iconst 0, 1) := by decide +kernel
theorem dX12_draw_64 : decode cX12_draw 64 = .ok (.istore 6, 2) := by decide +kernel
theorem dX12_draw_66 : decode cX12_draw 66 = .ok (.iload 6, 2) := by decide +kernel
theorem dX12_draw_68 : decode cX12_draw 68 = .ok (.aload_n 0, 1) := by decide +kernel
theorem dX12_draw_69 : decode cX12_draw 69 = .ok (.getfield 341, 3) := by decide +kernel
theorem dX12_draw_72 : decode cX12_draw 72 = .ok (.if_icmp .ge 100, 3) := by decide +kernel
theorem dX12_draw_75 : decode cX12_draw 75 = .ok (.iconst 0, 1) := by decide +kernel
theorem dX12_draw_76 : decode cX12_draw 76 = .ok (.istore 7, 2) := by decide +kernel
theorem dX12_draw_78 : decode cX12_draw 78 = .ok (.iload 7, 2) := by decide +kernel
theorem dX12_draw_80 : decode cX12_draw 80 = .ok (.iconst 2, 1) := by decide +kernel
theorem dX12_draw_81 : decode cX12_draw 81 = .ok (.if_icmp .ge 85, 3) := by decide +kernel
theorem dX12_draw_84 : decode cX12_draw 84 = .ok (.aload_n 0, 1) := by decide +kernel
theorem dX12_draw_85 : decode cX12_draw 85 = .ok (.iload 5, 2) := by decide +kernel
theorem dX12_draw_87 : decode cX12_draw 87 = .ok (.iload 6, 2) := by decide +kernel
theorem dX12_draw_89 : decode cX12_draw 89 = .ok (.iload 7, 2) := by decide +kernel
theorem dX12_draw_91 : decode cX12_draw 91 = .ok (.invokevirtual 410, 3) := by decide +kernel
theorem dX12_draw_94 : decode cX12_draw 94 = .ok (.ifCond .ne 6, 3) := by decide +kernel
theorem dX12_draw_97 : decode cX12_draw 97 = .ok (.goto 63, 3) := by decide +kernel
theorem dX12_draw_100 : decode cX12_draw 100 = .ok (.aload_n 0, 1) := by decide +kernel
theorem dX12_draw_101 : decode cX12_draw 101 = .ok (.invokevirtual 388, 3) := by decide +kernel
theorem dX12_draw_104 : decode cX12_draw 104 = .ok (.iload 5, 2) := by decide +kernel
theorem dX12_draw_106 : decode cX12_draw 106 = .ok (.iload 6, 2) := by decide +kernel
theorem dX12_draw_108 : decode cX12_draw 108 = .ok (.iload 7, 2) := by decide +kernel
theorem dX12_draw_110 : decode cX12_draw 110 = .ok (.invokestatic 350, 3) := by decide +kernel
theorem dX12_draw_113 : decode cX12_draw 113 = .ok (.istore 8, 2) := by decide +kernel
theorem dX12_draw_115 : decode cX12_draw 115 = .ok (.aload_n 0, 1) := by decide +kernel
theorem dX12_draw_116 : decode cX12_draw 116 = .ok (.iload_n 1, 1) := by decide +kernel
theorem dX12_draw_117 : decode cX12_draw 117 = .ok (.iload 8, 2) := by decide +kernel
theorem dX12_draw_119 : decode cX12_draw 119 = .ok (.aload_n 0, 1) := by decide +kernel
theorem dX12_draw_120 : decode cX12_draw 120 = .ok (.getfield 70, 3) := by decide +kernel
theorem dX12_draw_123 : decode cX12_draw 123 = .ok (.iload 8, 2) := by decide +kernel
theorem dX12_draw_125 : decode cX12_draw 125 = .ok (.iaload, 1) := by decide +kernel
theorem dX12_draw_126 : decode cX12_draw 126 = .ok (.iload_n 2, 1) := by decide +kernel
theorem dX12_draw_127 : decode cX12_draw 127 = .ok (.iadd, 1) := by decide +kernel
theorem dX12_draw_128 : decode cX12_draw 128 = .ok (.aload_n 0, 1) := by decide +kernel
theorem dX12_draw_129 : decode cX12_draw 129 = .ok (.getfield 17, 3) := by decide +kernel
theorem dX12_draw_132 : decode cX12_draw 132 = .ok (.sipush 1000, 3) := by decide +kernel
theorem dX12_draw_135 : decode cX12_draw 135 = .ok (.irem, 1) := by decide +kernel
theorem dX12_draw_136 : decode cX12_draw 136 = .ok (.iload 4, 2) := by decide +kernel
theorem dX12_draw_138 : decode cX12_draw 138 = .ok (.if_icmp .ge 8, 3) := by decide +kernel
theorem dX12_draw_141 : decode cX12_draw 141 = .ok (.bipush 50, 2) := by decide +kernel
theorem dX12_draw_143 : decode cX12_draw 143 = .ok (.goto 4, 3) := by decide +kernel
theorem dX12_draw_146 : decode cX12_draw 146 = .ok (.iconst 0, 1) := by decide +kernel
theorem dX12_draw_147 : decode cX12_draw 147 = .ok (.iadd, 1) := by decide +kernel
theorem dX12_draw_148 : decode cX12_draw 148 = .ok (.aload_n 0, 1) := by decide +kernel
theorem dX12_draw_149 : decode cX12_draw 149 = .ok (.getfield 73, 3) := by decide +kernel
theorem dX12_draw_152 : decode cX12_draw 152 = .ok (.iload 8, 2) := by decide +kernel
theorem dX12_draw_154 : decode cX12_draw 154 = .ok (.iaload, 1) := by decide +kernel
theorem dX12_draw_155 : decode cX12_draw 155 = .ok (.iload_n 3, 1) := by decide +kernel
theorem dX12_draw_156 : decode cX12_draw 156 = .ok (.iadd, 1) := by decide +kernel
theorem dX12_draw_157 : decode cX12_draw 157 = .ok (.invokevirtual 422, 3) := by decide +kernel
theorem dX12_draw_160 : decode cX12_draw 160 = .ok (.iinc 7 1, 3) := by decide +kernel
theorem dX12_draw_163 : decode cX12_draw 163 = .ok (.goto (-85), 3) := by decide +kernel
theorem dX12_draw_166 : decode cX12_draw 166 = .ok (.iinc 6 1, 3) := by decide +kernel
theorem dX12_draw_169 : decode cX12_draw 169 = .ok (.goto (-103), 3) := by decide +kernel
theorem dX12_draw_172 : decode cX12_draw 172 = .ok (.iinc 5 1, 3) := by decide +kernel
theorem dX12_draw_175 : decode cX12_draw 175 = .ok (.goto (-121), 3) := by decide +kernel
theorem dX12_draw_178 : decode cX12_draw 178 = .ok (.aload_n 0, 1) := by decide +kernel
theorem dX12_draw_179 : decode cX12_draw 179 = .ok (.iload_n 1, 1) := by decide +kernel
theorem dX12_draw_180 : decode cX12_draw 180 = .ok (.invokevirtual 430, 3) := by decide +kernel
theorem dX12_draw_183 : decode cX12_draw 183 = .ok (.ireturn, 1) := by decide +kernel
theorem dX12_marked_0 : decode cX12_marked 0 = .ok (.aload_n 0, 1) := by decide +kernel
theorem dX12_marked_1 : decode cX12_marked 1 = .ok (.iload_n 1, 1) := by decide +kernel
theorem dX12_marked_2 : decode cX12_marked 2 = .ok (.invokevirtual 415, 3) := by decide +kernel
theorem dX12_marked_5 : decode cX12_marked 5 = .ok (.ifCond .eq 46, 3) := by decide +kernel
theorem dX12_marked_8 : decode cX12_marked 8 = .ok (.aload_n 0, 1) := by decide +kernel
theorem dX12_marked_9 : decode cX12_marked 9 = .ok (.iload_n 2, 1) := by decide +kernel
theorem dX12_marked_10 : decode cX12_marked 10 = .ok (.iload_n 3, 1) := by decide +kernel
theorem dX12_marked_11 : decode cX12_marked 11 = .ok (.iload 4, 2) := by decide +kernel
theorem dX12_marked_13 : decode cX12_marked 13 = .ok (.invokevirtual 402, 3) := by decide +kernel
theorem dX12_marked_16 : decode cX12_marked 16 = .ok (.ifCond .eq 35, 3) := by decide +kernel
theorem dX12_marked_19 : decode cX12_marked 19 = .ok (.iload 5, 2) := by decide +kernel
theorem dX12_marked_21 : decode cX12_marked 21 = .ok (.i2l, 1) := by decide +kernel
theorem dX12_marked_22 : decode cX12_marked 22 = .ok (.lconst 0, 1) := by decide +kernel
theorem dX12_marked_23 : decode cX12_marked 23 = .ok (.lconst 1, 1) := by decide +kernel
theorem dX12_marked_24 : decode cX12_marked 24 = .ok (.invokestatic 155, 3) := by decide +kernel
theorem dX12_marked_27 : decode cX12_marked 27 = .ok (.ifCond .eq 24, 3) := by decide +kernel
theorem dX12_marked_30 : decode cX12_marked 30 = .ok (.aload_n 0, 1) := by decide +kernel
theorem dX12_marked_31 : decode cX12_marked 31 = .ok (.getfield 85, 3) := by decide +kernel
theorem dX12_marked_34 : decode cX12_marked 34 = .ok (.sipush 384, 3) := by decide +kernel
theorem dX12_marked_37 : decode cX12_marked 37 = .ok (.iload_n 1, 1) := by decide +kernel
theorem dX12_marked_38 : decode cX12_marked 38 = .ok (.imul, 1) := by decide +kernel
theorem dX12_marked_39 : decode cX12_marked 39 = .ok (.iload_n 2, 1) := by decide +kernel
theorem dX12_marked_40 : decode cX12_marked 40 = .ok (.iload_n 3, 1) := by decide +kernel
theorem dX12_marked_41 : decode cX12_marked 41 = .ok (.iload 4, 2) := by decide +kernel
theorem dX12_marked_43 : decode cX12_marked 43 = .ok (.invokestatic 350, 3) := by decide +kernel
theorem dX12_marked_46 : decode cX12_marked 46 = .ok (.iadd, 1) := by decide +kernel
theorem dX12_marked_47 : decode cX12_marked 47 = .ok (.baload, 1) := by decide +kernel
theorem dX12_marked_48 : decode cX12_marked 48 = .ok (.ifCond .ne 7, 3) := by decide +kernel
theorem dX12_marked_51 : decode cX12_marked 51 = .ok (.sipush (-10000), 3) := by decide +kernel
theorem dX12_marked_54 : decode cX12_marked 54 = .ok (.ireturn, 1) := by decide +kernel
theorem dX12_marked_55 : decode cX12_marked 55 = .ok (.sipush 384, 3) := by decide +kernel
theorem dX12_marked_58 : decode cX12_marked 58 = .ok (.iload_n 1, 1) := by decide +kernel
theorem dX12_marked_59 : decode cX12_marked 59 = .ok (.imul, 1) := by decide +kernel
theorem dX12_marked_60 : decode cX12_marked 60 = .ok (.iload_n 2, 1) := by decide +kernel
theorem dX12_marked_61 : decode cX12_marked 61 = .ok (.iload_n 3, 1) := by decide +kernel
theorem dX12_marked_62 : decode cX12_marked 62 = .ok (.iload 4, 2) := by decide +kernel
theorem dX12_marked_64 : decode cX12_marked 64 = .ok (.invokestatic 350, 3) := by decide +kernel
theorem dX12_marked_67 : decode cX12_marked 67 = .ok (.iadd, 1) := by decide +kernel
theorem dX12_marked_68 : decode cX12_marked 68 = .ok (.istore 6, 2) := by decide +kernel
theorem dX12_marked_70 : decode cX12_marked 70 = .ok (.iload 5, 2) := by decide +kernel
theorem dX12_marked_72 : decode cX12_marked 72 = .ok (.ifCond .ne 13, 3) := by decide +kernel
theorem dX12_marked_75 : decode cX12_marked 75 = .ok (.aload_n 0, 1) := by decide +kernel
theorem dX12_marked_76 : decode cX12_marked 76 = .ok (.getfield 88, 3) := by decide +kernel
theorem dX12_marked_79 : decode cX12_marked 79 = .ok (.iload 6, 2) := by decide +kernel
theorem dX12_marked_81 : decode cX12_marked 81 = .ok (.iaload, 1) := by decide +kernel
theorem dX12_marked_82 : decode cX12_marked 82 = .ok (.goto 10, 3) := by decide +kernel
theorem dX12_marked_85 : decode cX12_marked 85 = .ok (.aload_n 0, 1) := by decide +kernel
theorem dX12_marked_86 : decode cX12_marked 86 = .ok (.getfield 91, 3) := by decide +kernel
theorem dX12_marked_89 : decode cX12_marked 89 = .ok (.iload 6, 2) := by decide +kernel
theorem dX12_marked_91 : decode cX12_marked 91 = .ok (.iaload, 1) := by decide +kernel
theorem dX12_marked_92 : decode cX12_marked 92 = .ok (.ireturn, 1) := by decide +kernel
theorem dX12_hasBoth_0 : decode cX12_hasBoth 0 = .ok (.aload_n 0, 1) := by decide +kernel
theorem dX12_hasBoth_1 : decode cX12_hasBoth 1 = .ok (.getfield 85, 3) := by decide +kernel
theorem dX12_hasBoth_4 : decode cX12_hasBoth 4 = .ok (.sipush 384, 3) := by decide +kernel
theorem dX12_hasBoth_7 : decode cX12_hasBoth 7 = .ok (.iload_n 1, 1) := by decide +kernel
theorem dX12_hasBoth_8 : decode cX12_hasBoth 8 = .ok (.imul, 1) := by decide +kernel
theorem dX12_hasBoth_9 : decode cX12_hasBoth 9 = .ok (.iload_n 3, 1) := by decide +kernel
theorem dX12_hasBoth_10 : decode cX12_hasBoth 10 = .ok (.iadd, 1) := by decide +kernel
theorem dX12_hasBoth_11 : decode cX12_hasBoth 11 = .ok (.baload, 1) := by decide +kernel
theorem dX12_hasBoth_12 : decode cX12_hasBoth 12 = .ok (.ifCond .eq 22, 3) := by decide +kernel
theorem dX12_hasBoth_15 : decode cX12_hasBoth 15 = .ok (.aload_n 0, 1) := by decide +kernel
theorem dX12_hasBoth_16 : decode cX12_hasBoth 16 = .ok (.getfield 85, 3) := by decide +kernel
theorem dX12_hasBoth_19 : decode cX12_hasBoth 19 = .ok (.sipush 384, 3) := by decide +kernel
theorem dX12_hasBoth_22 : decode cX12_hasBoth 22 = .ok (.iload_n 2, 1) := by decide +kernel
theorem dX12_hasBoth_23 : decode cX12_hasBoth 23 = .ok (.imul, 1) := by decide +kernel
theorem dX12_hasBoth_24 : decode cX12_hasBoth 24 = .ok (.iload_n 3, 1) := by decide +kernel
theorem dX12_hasBoth_25 : decode cX12_hasBoth 25 = .ok (.iadd, 1) := by decide +kernel
theorem dX12_hasBoth_26 : decode cX12_hasBoth 26 = .ok (.baload, 1) := by decide +kernel
theorem dX12_hasBoth_27 : decode cX12_hasBoth 27 = .ok (.ifCond .eq 7, 3) := by decide +kernel
theorem dX12_hasBoth_30 : decode cX12_hasBoth 30 = .ok (.iconst 1, 1) := by decide +kernel
theorem dX12_hasBoth_31 : decode cX12_hasBoth 31 = .ok (.goto 4, 3) := by decide +kernel
theorem dX12_hasBoth_34 : decode cX12_hasBoth 34 = .ok (.iconst 0, 1) := by decide +kernel
theorem dX12_hasBoth_35 : decode cX12_hasBoth 35 = .ok (.ireturn, 1) := by decide +kernel
theorem dX12_gapOf_0 : decode cX12_gapOf 0 = .ok (.iload 4, 2) := by decide +kernel
theorem dX12_gapOf_2 : decode cX12_gapOf 2 = .ok (.ifCond .eq 31, 3) := by decide +kernel
theorem dX12_gapOf_5 : decode cX12_gapOf 5 = .ok (.aload_n 0, 1) := by decide +kernel
theorem dX12_gapOf_6 : decode cX12_gapOf 6 = .ok (.getfield 88, 3) := by decide +kernel
theorem dX12_gapOf_9 : decode cX12_gapOf 9 = .ok (.sipush 384, 3) := by decide +kernel
theorem dX12_gapOf_12 : decode cX12_gapOf 12 = .ok (.iload_n 2, 1) := by decide +kernel
theorem dX12_gapOf_13 : decode cX12_gapOf 13 = .ok (.imul, 1) := by decide +kernel
theorem dX12_gapOf_14 : decode cX12_gapOf 14 = .ok (.iload_n 3, 1) := by decide +kernel
theorem dX12_gapOf_15 : decode cX12_gapOf 15 = .ok (.iadd, 1) := by decide +kernel
theorem dX12_gapOf_16 : decode cX12_gapOf 16 = .ok (.iaload, 1) := by decide +kernel
theorem dX12_gapOf_17 : decode cX12_gapOf 17 = .ok (.aload_n 0, 1) := by decide +kernel
theorem dX12_gapOf_18 : decode cX12_gapOf 18 = .ok (.getfield 88, 3) := by decide +kernel
theorem dX12_gapOf_21 : decode cX12_gapOf 21 = .ok (.sipush 384, 3) := by decide +kernel
theorem dX12_gapOf_24 : decode cX12_gapOf 24 = .ok (.iload_n 1, 1) := by decide +kernel
theorem dX12_gapOf_25 : decode cX12_gapOf 25 = .ok (.imul, 1) := by decide +kernel
theorem dX12_gapOf_26 : decode cX12_gapOf 26 = .ok (.iload_n 3, 1) := by decide +kernel
theorem dX12_gapOf_27 : decode cX12_gapOf 27 = .ok (.iadd, 1) := by decide +kernel
theorem dX12_gapOf_28 : decode cX12_gapOf 28 = .ok (.iaload, 1) := by decide +kernel
theorem dX12_gapOf_29 : decode cX12_gapOf 29 = .ok (.isub, 1) := by decide +kernel
theorem dX12_gapOf_30 : decode cX12_gapOf 30 = .ok (.goto 28, 3) := by decide +kernel
theorem dX12_gapOf_33 : decode cX12_gapOf 33 = .ok (.aload_n 0, 1) := by decide +kernel
theorem dX12_gapOf_34 : decode cX12_gapOf 34 = .ok (.getfield 91, 3) := by decide +kernel
theorem dX12_gapOf_37 : decode cX12_gapOf 37 = .ok (.sipush 384, 3) := by decide +kernel
theorem dX12_gapOf_40 : decode cX12_gapOf 40 = .ok (.iload_n 2, 1) := by decide +kernel
theorem dX12_gapOf_41 : decode cX12_gapOf 41 = .ok (.imul, 1) := by decide +kernel
theorem dX12_gapOf_42 : decode cX12_gapOf 42 = .ok (.iload_n 3, 1) := by decide +kernel
theorem dX12_gapOf_43 : decode cX12_gapOf 43 = .ok (.iadd, 1) := by decide +kernel
theorem dX12_gapOf_44 : decode cX12_gapOf 44 = .ok (.iaload, 1) := by decide +kernel
theorem dX12_gapOf_45 : decode cX12_gapOf 45 = .ok (.aload_n 0, 1) := by decide +kernel
theorem dX12_gapOf_46 : decode cX12_gapOf 46 = .ok (.getfield 91, 3) := by decide +kernel
theorem dX12_gapOf_49 : decode cX12_gapOf 49 = .ok (.sipush 384, 3) := by decide +kernel
theorem dX12_gapOf_52 : decode cX12_gapOf 52 = .ok (.iload_n 1, 1) := by decide +kernel
theorem dX12_gapOf_53 : decode cX12_gapOf 53 = .ok (.imul, 1) := by decide +kernel
theorem dX12_gapOf_54 : decode cX12_gapOf 54 = .ok (.iload_n 3, 1) := by decide +kernel
theorem dX12_gapOf_55 : decode cX12_gapOf 55 = .ok (.iadd, 1) := by decide +kernel
theorem dX12_gapOf_56 : decode cX12_gapOf 56 = .ok (.iaload, 1) := by decide +kernel
theorem dX12_gapOf_57 : decode cX12_gapOf 57 = .ok (.isub, 1) := by decide +kernel
theorem dX12_gapOf_58 : decode cX12_gapOf 58 = .ok (.ireturn, 1) := by decide +kernel
theorem dX12_middle_0 : decode cX12_middle 0 = .ok (.iconst 0, 1) := by decide +kernel
theorem dX12_middle_1 : decode cX12_middle 1 = .ok (.istore 4, 2) := by decide +kernel
theorem dX12_middle_3 : decode cX12_middle 3 = .ok (.iconst 0, 1) := by decide +kernel
theorem dX12_middle_4 : decode cX12_middle 4 = .ok (.istore 5, 2) := by decide +kernel
theorem dX12_middle_6 : decode cX12_middle 6 = .ok (.iload 5, 2) := by decide +kernel
theorem dX12_middle_8 : decode cX12_middle 8 = .ok (.sipush 384, 3) := by decide +kernel
theorem dX12_middle_11 : decode cX12_middle 11 = .ok (.if_icmp .ge 91, 3) := by decide +kernel
theorem dX12_middle_14 : decode cX12_middle 14 = .ok (.aload_n 0, 1) := by decide +kernel
theorem dX12_middle_15 : decode cX12_middle 15 = .ok (.iload_n 1, 1) := by decide +kernel
theorem dX12_middle_16 : decode cX12_middle 16 = .ok (.iload_n 2, 1) := by decide +kernel
theorem dX12_middle_17 : decode cX12_middle 17 = .ok (.iload 5, 2) := by decide +kernel
theorem dX12_middle_19 : decode cX12_middle 19 = .ok (.invokevirtual 433, 3) := by decide +kernel
theorem dX12_middle_22 : decode cX12_middle 22 = .ok (.ifCond .ne 6, 3) := by decide +kernel
theorem dX12_middle_25 : decode cX12_middle 25 = .ok (.goto 71, 3) := by decide +kernel
theorem dX12_middle_28 : decode cX12_middle 28 = .ok (.aload_n 0, 1) := by decide +kernel
theorem dX12_middle_29 : decode cX12_middle 29 = .ok (.iload_n 1, 1) := by decide +kernel
theorem dX12_middle_30 : decode cX12_middle 30 = .ok (.iload_n 2, 1) := by decide +kernel
theorem dX12_middle_31 : decode cX12_middle 31 = .ok (.iload 5, 2) := by decide +kernel
theorem dX12_middle_33 : decode cX12_middle 33 = .ok (.iload_n 3, 1) := by decide +kernel
theorem dX12_middle_34 : decode cX12_middle 34 = .ok (.invokevirtual 436, 3) := by decide +kernel
theorem dX12_middle_37 : decode cX12_middle 37 = .ok (.istore 6, 2) := by decide +kernel
theorem dX12_middle_39 : decode cX12_middle 39 = .ok (.iload 4, 2) := by decide +kernel
theorem dX12_middle_41 : decode cX12_middle 41 = .ok (.istore 7, 2) := by decide +kernel
theorem dX12_middle_43 : decode cX12_middle 43 = .ok (.iload 7, 2) := by decide +kernel
theorem dX12_middle_45 : decode cX12_middle 45 = .ok (.ifCond .le 39, 3) := by decide +kernel
theorem dX12_middle_48 : decode cX12_middle 48 = .ok (.aload_n 0, 1) := by decide +kernel
theorem dX12_middle_49 : decode cX12_middle 49 = .ok (.getfield 94, 3) := by decide +kernel
theorem dX12_middle_52 : decode cX12_middle 52 = .ok (.iload 7, 2) := by decide +kernel
theorem dX12_middle_54 : decode cX12_middle 54 = .ok (.iconst 1, 1) := by decide +kernel
theorem dX12_middle_55 : decode cX12_middle 55 = .ok (.isub, 1) := by decide +kernel
theorem dX12_middle_56 : decode cX12_middle 56 = .ok (.iaload, 1) := by decide +kernel
theorem dX12_middle_57 : decode cX12_middle 57 = .ok (.iload 6, 2) := by decide +kernel
theorem dX12_middle_59 : decode cX12_middle 59 = .ok (.if_icmp .le 25, 3) := by decide +kernel
theorem dX12_middle_62 : decode cX12_middle 62 = .ok (.aload_n 0, 1) := by decide +kernel
theorem dX12_middle_63 : decode cX12_middle 63 = .ok (.getfield 94, 3) := by decide +kernel
theorem dX12_middle_66 : decode cX12_middle 66 = .ok (.iload 7, 2) := by decide +kernel
theorem dX12_middle_68 : decode cX12_middle 68 = .ok (.aload_n 0, 1) := by decide +kernel
theorem dX12_middle_69 : decode cX12_middle 69 = .ok (.getfield 94, 3) := by decide +kernel
theorem dX12_middle_72 : decode cX12_middle 72 = .ok (.iload 7, 2) := by decide +kernel
theorem dX12_middle_74 : decode cX12_middle 74 = .ok (.iconst 1, 1) := by decide +kernel
theorem dX12_middle_75 : decode cX12_middle 75 = .ok (.isub, 1) := by decide +kernel
theorem dX12_middle_76 : decode cX12_middle 76 = .ok (.iaload, 1) := by decide +kernel
theorem dX12_middle_77 : decode cX12_middle 77 = .ok (.iastore, 1) := by decide +kernel
theorem dX12_middle_78 : decode cX12_middle 78 = .ok (.iinc 7 (-1), 3) := by decide +kernel
theorem dX12_middle_81 : decode cX12_middle 81 = .ok (.goto (-38), 3) := by decide +kernel
theorem dX12_middle_84 : decode cX12_middle 84 = .ok (.aload_n 0, 1) := by decide +kernel
theorem dX12_middle_85 : decode cX12_middle 85 = .ok (.getfield 94, 3) := by decide +kernel
theorem dX12_middle_88 : decode cX12_middle 88 = .ok (.iload 7, 2) := by decide +kernel
theorem dX12_middle_90 : decode cX12_middle 90 = .ok (.iload 6, 2) := by decide +kernel
theorem dX12_middle_92 : decode cX12_middle 92 = .ok (.iastore, 1) := by decide +kernel
theorem dX12_middle_93 : decode cX12_middle 93 = .ok (.iinc 4 1, 3) := by decide +kernel
theorem dX12_middle_96 : decode cX12_middle 96 = .ok (.iinc 5 1, 3) := by decide +kernel
theorem dX12_middle_99 : decode cX12_middle 99 = .ok (.goto (-93), 3) := by decide +kernel
theorem dX12_middle_102 : decode cX12_middle 102 = .ok (.aload_n 0, 1) := by decide +kernel
theorem dX12_middle_103 : decode cX12_middle 103 = .ok (.iload 4, 2) := by decide +kernel
theorem dX12_middle_105 : decode cX12_middle 105 = .ok (.putfield 440, 3) := by decide +kernel
theorem dX12_middle_108 : decode cX12_middle 108 = .ok (.iload 4, 2) := by decide +kernel
theorem dX12_middle_110 : decode cX12_middle 110 = .ok (.ifCond .ne 7, 3) := by decide +kernel
theorem dX12_middle_113 : decode cX12_middle 113 = .ok (.iconst 0, 1) := by decide +kernel
theorem dX12_middle_114 : decode cX12_middle 114 = .ok (.goto 14, 3) := by decide +kernel
theorem dX12_middle_117 : decode cX12_middle 117 = .ok (.aload_n 0, 1) := by decide +kernel
theorem dX12_middle_118 : decode cX12_middle 118 = .ok (.getfield 94, 3) := by decide +kernel
theorem dX12_middle_121 : decode cX12_middle 121 = .ok (.iload 4, 2) := by decide +kernel
theorem dX12_middle_123 : decode cX12_middle 123 = .ok (.iconst 1, 1) := by decide +kernel
theorem dX12_middle_124 : decode cX12_middle 124 = .ok (.isub, 1) := by decide +kernel
theorem dX12_middle_125 : decode cX12_middle 125 = .ok (.iconst 2, 1) := by decide +kernel
theorem dX12_middle_126 : decode cX12_middle 126 = .ok (.idiv, 1) := by decide +kernel
theorem dX12_middle_127 : decode cX12_middle 127 = .ok (.iaload, 1) := by decide +kernel
theorem dX12_middle_128 : decode cX12_middle 128 = .ok (.ireturn, 1) := by decide +kernel
theorem dX12_leftBy_0 : decode cX12_leftBy 0 = .ok (.iconst 0, 1) := by decide +kernel
theorem dX12_leftBy_1 : decode cX12_leftBy 1 = .ok (.istore_n 2, 1) := by decide +kernel
theorem dX12_leftBy_2 : decode cX12_leftBy 2 = .ok (.iconst 0, 1) := by decide +kernel
theorem dX12_leftBy_3 : decode cX12_leftBy 3 = .ok (.istore_n 3, 1) := by decide +kernel
theorem dX12_leftBy_4 : decode cX12_leftBy 4 = .ok (.iload_n 3, 1) := by decide +kernel
theorem dX12_leftBy_5 : decode cX12_leftBy 5 = .ok (.aload_n 0, 1) := by decide +kernel
theorem dX12_leftBy_6 : decode cX12_leftBy 6 = .ok (.getfield 440, 3) := by decide +kernel
theorem dX12_leftBy_9 : decode cX12_leftBy 9 = .ok (.if_icmp .ge 23, 3) := by decide +kernel
theorem dX12_leftBy_12 : decode cX12_leftBy 12 = .ok (.iload_n 2, 1) := by decide +kernel
theorem dX12_leftBy_13 : decode cX12_leftBy 13 = .ok (.aload_n 0, 1) := by decide +kernel
theorem dX12_leftBy_14 : decode cX12_leftBy 14 = .ok (.getfield 94, 3) := by decide +kernel
theorem dX12_leftBy_17 : decode cX12_leftBy 17 = .ok (.iload_n 3, 1) := by decide +kernel
theorem dX12_leftBy_18 : decode cX12_leftBy 18 = .ok (.iaload, 1) := by decide +kernel
theorem dX12_leftBy_19 : decode cX12_leftBy 19 = .ok (.iload_n 1, 1) := by decide +kernel
theorem dX12_leftBy_20 : decode cX12_leftBy 20 = .ok (.isub, 1) := by decide +kernel
theorem dX12_leftBy_21 : decode cX12_leftBy 21 = .ok (.invokestatic 443, 3) := by decide +kernel
theorem dX12_leftBy_24 : decode cX12_leftBy 24 = .ok (.iadd, 1) := by decide +kernel
theorem dX12_leftBy_25 : decode cX12_leftBy 25 = .ok (.istore_n 2, 1) := by decide +kernel
theorem dX12_leftBy_26 : decode cX12_leftBy 26 = .ok (.iinc 3 1, 3) := by decide +kernel
theorem dX12_leftBy_29 : decode cX12_leftBy 29 = .ok (.goto (-25), 3) := by decide +kernel
theorem dX12_leftBy_32 : decode cX12_leftBy 32 = .ok (.iload_n 2, 1) := by decide +kernel
theorem dX12_leftBy_33 : decode cX12_leftBy 33 = .ok (.ireturn, 1) := by decide +kernel
theorem dX12_joinsBoth_0 : decode cX12_joinsBoth 0 = .ok (.aload_n 0, 1) := by decide +kernel
theorem dX12_joinsBoth_1 : decode cX12_joinsBoth 1 = .ok (.aload_n 0, 1) := by decide +kernel
theorem dX12_joinsBoth_2 : decode cX12_joinsBoth 2 = .ok (.iload_n 1, 1) := by decide +kernel
theorem dX12_joinsBoth_3 : decode cX12_joinsBoth 3 = .ok (.iload_n 2, 1) := by decide +kernel
theorem dX12_joinsBoth_4 : decode cX12_joinsBoth 4 = .ok (.iconst 1, 1) := by decide +kernel
theorem dX12_joinsBoth_5 : decode cX12_joinsBoth 5 = .ok (.invokevirtual 446, 3) := by decide +kernel
theorem dX12_joinsBoth_8 : decode cX12_joinsBoth 8 = .ok (.putfield 450, 3) := by decide +kernel
theorem dX12_joinsBoth_11 : decode cX12_joinsBoth 11 = .ok (.aload_n 0, 1) := by decide +kernel
theorem dX12_joinsBoth_12 : decode cX12_joinsBoth 12 = .ok (.aload_n 0, 1) := by decide +kernel
theorem dX12_joinsBoth_13 : decode cX12_joinsBoth 13 = .ok (.aload_n 0, 1) := by decide +kernel
theorem dX12_joinsBoth_14 : decode cX12_joinsBoth 14 = .ok (.getfield 450, 3) := by decide +kernel
theorem dX12_joinsBoth_17 : decode cX12_joinsBoth 17 = .ok (.invokevirtual 453, 3) := by decide +kernel
theorem dX12_joinsBoth_20 : decode cX12_joinsBoth 20 = .ok (.putfield 456, 3) := by decide +kernel
theorem dX12_joinsBoth_23 : decode cX12_joinsBoth 23 = .ok (.aload_n 0, 1) := by decide +kernel
theorem dX12_joinsBoth_24 : decode cX12_joinsBoth 24 = .ok (.aload_n 0, 1) := by decide +kernel
theorem dX12_joinsBoth_25 : decode cX12_joinsBoth 25 = .ok (.iload_n 1, 1) := by decide +kernel
theorem dX12_joinsBoth_26 : decode cX12_joinsBoth 26 = .ok (.iload_n 2, 1) := by decide +kernel
theorem dX12_joinsBoth_27 : decode cX12_joinsBoth 27 = .ok (.iconst 0, 1) := by decide +kernel
theorem dX12_joinsBoth_28 : decode cX12_joinsBoth 28 = .ok (.invokevirtual 446, 3) := by decide +kernel
theorem dX12_joinsBoth_31 : decode cX12_joinsBoth 31 = .ok (.putfield 459, 3) := by decide +kernel
theorem dX12_joinsBoth_34 : decode cX12_joinsBoth 34 = .ok (.aload_n 0, 1) := by decide +kernel
theorem dX12_joinsBoth_35 : decode cX12_joinsBoth 35 = .ok (.aload_n 0, 1) := by decide +kernel
theorem dX12_joinsBoth_36 : decode cX12_joinsBoth 36 = .ok (.aload_n 0, 1) := by decide +kernel
theorem dX12_joinsBoth_37 : decode cX12_joinsBoth 37 = .ok (.getfield 459, 3) := by decide +kernel
theorem dX12_joinsBoth_40 : decode cX12_joinsBoth 40 = .ok (.invokevirtual 453, 3) := by decide +kernel
theorem dX12_joinsBoth_43 : decode cX12_joinsBoth 43 = .ok (.putfield 462, 3) := by decide +kernel
theorem dX12_joinsBoth_46 : decode cX12_joinsBoth 46 = .ok (.return_, 1) := by decide +kernel
theorem dX12_areTwo_0 : decode cX12_areTwo 0 = .ok (.aload_n 0, 1) := by decide +kernel
theorem dX12_areTwo_1 : decode cX12_areTwo 1 = .ok (.iload_n 1, 1) := by decide +kernel
theorem dX12_areTwo_2 : decode cX12_areTwo 2 = .ok (.invokevirtual 415, 3) := by decide +kernel
theorem dX12_areTwo_5 : decode cX12_areTwo 5 = .ok (.ifCond .eq 20, 3) := by decide +kernel
theorem dX12_areTwo_8 : decode cX12_areTwo 8 = .ok (.aload_n 0, 1) := by decide +kernel
theorem dX12_areTwo_9 : decode cX12_areTwo 9 = .ok (.iload_n 2, 1) := by decide +kernel
theorem dX12_areTwo_10 : decode cX12_areTwo 10 = .ok (.invokevirtual 415, 3) := by decide +kernel
theorem dX12_areTwo_13 : decode cX12_areTwo 13 = .ok (.ifCond .eq 12, 3) := by decide +kernel
theorem dX12_areTwo_16 : decode cX12_areTwo 16 = .ok (.iload_n 1, 1) := by decide +kernel
theorem dX12_areTwo_17 : decode cX12_areTwo 17 = .ok (.iload_n 2, 1) := by decide +kernel
theorem dX12_areTwo_18 : decode cX12_areTwo 18 = .ok (.if_icmp .eq 7, 3) := by decide +kernel
theorem dX12_areTwo_21 : decode cX12_areTwo 21 = .ok (.iconst 1, 1) := by decide +kernel
theorem dX12_areTwo_22 : decode cX12_areTwo 22 = .ok (.goto 4, 3) := by decide +kernel
theorem dX12_areTwo_25 : decode cX12_areTwo 25 = .ok (.iconst 0, 1) := by decide +kernel
theorem dX12_areTwo_26 : decode cX12_areTwo 26 = .ok (.ireturn, 1) := by decide +kernel
theorem dX12_joined_0 : decode cX12_joined 0 = .ok (.aload_n 0, 1) := by decide +kernel
theorem dX12_joined_1 : decode cX12_joined 1 = .ok (.iload_n 1, 1) := by decide +kernel
theorem dX12_joined_2 : decode cX12_joined 2 = .ok (.iload_n 2, 1) := by decide +kernel
theorem dX12_joined_3 : decode cX12_joined 3 = .ok (.invokevirtual 465, 3) := by decide +kernel
theorem dX12_joined_6 : decode cX12_joined 6 = .ok (.ifCond .eq 15, 3) := by decide +kernel
theorem dX12_joined_9 : decode cX12_joined 9 = .ok (.iload_n 3, 1) := by decide +kernel
theorem dX12_joined_10 : decode cX12_joined 10 = .ok (.i2l, 1) := by decide +kernel
theorem dX12_joined_11 : decode cX12_joined 11 = .ok (.lconst 0, 1) := by decide +kernel
theorem dX12_joined_12 : decode cX12_joined 12 = .ok (.ldc2_w 468, 3) := by decide +kernel
theorem dX12_joined_15 : decode cX12_joined 15 = .ok (.invokestatic 155, 3) := by decide +kernel
theorem dX12_joined_18 : decode cX12_joined 18 = .ok (.ifCond .ne 7, 3) := by decide +kernel
theorem dX12_joined_21 : decode cX12_joined 21 = .ok (.ldc_w 470, 3) := by decide +kernel
theorem dX12_joined_24 : decode cX12_joined 24 = .ok (.ireturn, 1) := by decide +kernel
theorem dX12_joined_25 : decode cX12_joined 25 = .ok (.aload_n 0, 1) := by decide +kernel
theorem dX12_joined_26 : decode cX12_joined 26 = .ok (.iload_n 1, 1) := by decide +kernel
theorem dX12_joined_27 : decode cX12_joined 27 = .ok (.iload_n 2, 1) := by decide +kernel
theorem dX12_joined_28 : decode cX12_joined 28 = .ok (.invokevirtual 471, 3) := by decide +kernel
theorem dX12_joined_31 : decode cX12_joined 31 = .ok (.iload_n 3, 1) := by decide +kernel
theorem dX12_joined_32 : decode cX12_joined 32 = .ok (.iconst 2, 1) := by decide +kernel
theorem dX12_joined_33 : decode cX12_joined 33 = .ok (.if_icmp .ne 8, 3) := by decide +kernel
theorem dX12_joined_36 : decode cX12_joined 36 = .ok (.aload_n 0, 1) := by decide +kernel
theorem dX12_joined_37 : decode cX12_joined 37 = .ok (.getfield 440, 3) := by decide +kernel
theorem dX12_joined_40 : decode cX12_joined 40 = .ok (.ireturn, 1) := by decide +kernel
theorem dX12_joined_41 : decode cX12_joined 41 = .ok (.aload_n 0, 1) := by decide +kernel
theorem dX12_joined_42 : decode cX12_joined 42 = .ok (.getfield 440, 3) := by decide +kernel
theorem dX12_joined_45 : decode cX12_joined 45 = .ok (.ifCond .ne 7, 3) := by decide +kernel
theorem dX12_joined_48 : decode cX12_joined 48 = .ok (.ldc_w 470, 3) := by decide +kernel
theorem dX12_joined_51 : decode cX12_joined 51 = .ok (.ireturn, 1) := by decide +kernel
theorem dX12_joined_52 : decode cX12_joined 52 = .ok (.iload_n 3, 1) := by decide +kernel
theorem dX12_joined_53 : decode cX12_joined 53 = .ok (.ifCond .ne 10, 3) := by decide +kernel
theorem dX12_joined_56 : decode cX12_joined 56 = .ok (.aload_n 0, 1) := by decide +kernel
theorem dX12_joined_57 : decode cX12_joined 57 = .ok (.getfield 450, 3) := by decide +kernel
theorem dX12_joined_60 : decode cX12_joined 60 = .ok (.goto 31, 3) := by decide +kernel
theorem dX12_joined_63 : decode cX12_joined 63 = .ok (.iload_n 3, 1) := by decide +kernel
theorem dX12_joined_64 : decode cX12_joined 64 = .ok (.iconst 1, 1) := by decide +kernel
theorem dX12_joined_65 : decode cX12_joined 65 = .ok (.if_icmp .ne 10, 3) := by decide +kernel
theorem dX12_joined_68 : decode cX12_joined 68 = .ok (.aload_n 0, 1) := by decide +kernel
theorem dX12_joined_69 : decode cX12_joined 69 = .ok (.getfield 459, 3) := by decide +kernel
theorem dX12_joined_72 : decode cX12_joined 72 = .ok (.goto 19, 3) := by decide +kernel
theorem dX12_joined_75 : decode cX12_joined 75 = .ok (.iload_n 3, 1) := by decide +kernel
theorem dX12_joined_76 : decode cX12_joined 76 = .ok (.iconst 3, 1) := by decide +kernel
theorem dX12_joined_77 : decode cX12_joined 77 = .ok (.if_icmp .ne 10, 3) := by decide +kernel
theorem dX12_joined_80 : decode cX12_joined 80 = .ok (.aload_n 0, 1) := by decide +kernel
theorem dX12_joined_81 : decode cX12_joined 81 = .ok (.getfield 456, 3) := by decide +kernel
theorem dX12_joined_84 : decode cX12_joined 84 = .ok (.goto 7, 3) := by decide +kernel
theorem dX12_joined_87 : decode cX12_joined 87 = .ok (.aload_n 0, 1) := by decide +kernel
theorem dX12_joined_88 : decode cX12_joined 88 = .ok (.getfield 462, 3) := by decide +kernel
theorem dX12_joined_91 : decode cX12_joined 91 = .ok (.ireturn, 1) := by decide +kernel
theorem dX12_off_0 : decode cX12_off 0 = .ok (.aload_n 0, 1) := by decide +kernel
theorem dX12_off_1 : decode cX12_off 1 = .ok (.iload_n 1, 1) := by decide +kernel
theorem dX12_off_2 : decode cX12_off 2 = .ok (.iload_n 2, 1) := by decide +kernel
theorem dX12_off_3 : decode cX12_off 3 = .ok (.invokevirtual 465, 3) := by decide +kernel
theorem dX12_off_6 : decode cX12_off 6 = .ok (.ifCond .eq 15, 3) := by decide +kernel
theorem dX12_off_9 : decode cX12_off 9 = .ok (.iload_n 3, 1) := by decide +kernel
theorem dX12_off_10 : decode cX12_off 10 = .ok (.i2l, 1) := by decide +kernel
theorem dX12_off_11 : decode cX12_off 11 = .ok (.lconst 0, 1) := by decide +kernel
theorem dX12_off_12 : decode cX12_off 12 = .ok (.ldc2_w 474, 3) := by decide +kernel
theorem dX12_off_15 : decode cX12_off 15 = .ok (.invokestatic 155, 3) := by decide +kernel
theorem dX12_off_18 : decode cX12_off 18 = .ok (.ifCond .ne 5, 3) := by decide +kernel
theorem dX12_off_21 : decode cX12_off 21 = .ok (.iconst (-1), 1) := by decide +kernel
theorem dX12_off_22 : decode cX12_off 22 = .ok (.ireturn, 1) := by decide +kernel
theorem dX12_off_23 : decode cX12_off 23 = .ok (.aload_n 0, 1) := by decide +kernel
theorem dX12_off_24 : decode cX12_off 24 = .ok (.iload_n 1, 1) := by decide +kernel
theorem dX12_off_25 : decode cX12_off 25 = .ok (.iload_n 2, 1) := by decide +kernel
theorem dX12_off_26 : decode cX12_off 26 = .ok (.invokevirtual 471, 3) := by decide +kernel
theorem dX12_off_29 : decode cX12_off 29 = .ok (.aload_n 0, 1) := by decide +kernel
theorem dX12_off_30 : decode cX12_off 30 = .ok (.getfield 440, 3) := by decide +kernel
theorem dX12_off_33 : decode cX12_off 33 = .ok (.ifCond .ne 5, 3) := by decide +kernel
theorem dX12_off_36 : decode cX12_off 36 = .ok (.iconst (-1), 1) := by decide +kernel
theorem dX12_off_37 : decode cX12_off 37 = .ok (.ireturn, 1) := by decide +kernel
theorem dX12_off_38 : decode cX12_off 38 = .ok (.iconst 0, 1) := by decide +kernel
theorem dX12_off_39 : decode cX12_off 39 = .ok (.istore 4, 2) := by decide +kernel
theorem dX12_off_41 : decode cX12_off 41 = .ok (.iconst 0, 1) := by decide +kernel
theorem dX12_off_42 : decode cX12_off 42 = .ok (.istore 5, 2) := by decide +kernel
theorem dX12_off_44 : decode cX12_off 44 = .ok (.iload 5, 2) := by decide +kernel
theorem dX12_off_46 : decode cX12_off 46 = .ok (.sipush 384, 3) := by decide +kernel
theorem dX12_off_49 : decode cX12_off 49 = .ok (.if_icmp .ge 65, 3) := by decide +kernel
theorem dX12_off_52 : decode cX12_off 52 = .ok (.aload_n 0, 1) := by decide +kernel
theorem dX12_off_53 : decode cX12_off 53 = .ok (.iload_n 1, 1) := by decide +kernel
theorem dX12_off_54 : decode cX12_off 54 = .ok (.iload_n 2, 1) := by decide +kernel
theorem dX12_off_55 : decode cX12_off 55 = .ok (.iload 5, 2) := by decide +kernel
theorem dX12_off_57 : decode cX12_off 57 = .ok (.invokevirtual 433, 3) := by decide +kernel
theorem dX12_off_60 : decode cX12_off 60 = .ok (.ifCond .eq 48, 3) := by decide +kernel
theorem dX12_off_63 : decode cX12_off 63 = .ok (.aload_n 0, 1) := by decide +kernel
theorem dX12_off_64 : decode cX12_off 64 = .ok (.iload_n 1, 1) := by decide +kernel
theorem dX12_off_65 : decode cX12_off 65 = .ok (.iload_n 2, 1) := by decide +kernel
theorem dX12_off_66 : decode cX12_off 66 = .ok (.iload 5, 2) := by decide +kernel
theorem dX12_off_68 : decode cX12_off 68 = .ok (.iconst 1, 1) := by decide +kernel
theorem dX12_off_69 : decode cX12_off 69 = .ok (.invokevirtual 436, 3) := by decide +kernel
theorem dX12_off_72 : decode cX12_off 72 = .ok (.aload_n 0, 1) := by decide +kernel
theorem dX12_off_73 : decode cX12_off 73 = .ok (.getfield 450, 3) := by decide +kernel
theorem dX12_off_76 : decode cX12_off 76 = .ok (.isub, 1) := by decide +kernel
theorem dX12_off_77 : decode cX12_off 77 = .ok (.invokestatic 443, 3) := by decide +kernel
theorem dX12_off_80 : decode cX12_off 80 = .ok (.iload_n 3, 1) := by decide +kernel
theorem dX12_off_81 : decode cX12_off 81 = .ok (.if_icmp .gt 24, 3) := by decide +kernel
theorem dX12_off_84 : decode cX12_off 84 = .ok (.aload_n 0, 1) := by decide +kernel
theorem dX12_off_85 : decode cX12_off 85 = .ok (.iload_n 1, 1) := by decide +kernel
theorem dX12_off_86 : decode cX12_off 86 = .ok (.iload_n 2, 1) := by decide +kernel
theorem dX12_off_87 : decode cX12_off 87 = .ok (.iload 5, 2) := by decide +kernel
theorem dX12_off_89 : decode cX12_off 89 = .ok (.iconst 0, 1) := by decide +kernel
theorem dX12_off_90 : decode cX12_off 90 = .ok (.invokevirtual 436, 3) := by decide +kernel
theorem dX12_off_93 : decode cX12_off 93 = .ok (.aload_n 0, 1) := by decide +kernel
theorem dX12_off_94 : decode cX12_off 94 = .ok (.getfield 459, 3) := by decide +kernel
theorem dX12_off_97 : decode cX12_off 97 = .ok (.isub, 1) := by decide +kernel
theorem dX12_off_98 : decode cX12_off 98 = .ok (.invokestatic 443, 3) := by decide +kernel
theorem dX12_off_101 : decode cX12_off 101 = .ok (.iload_n 3, 1) := by decide +kernel
theorem dX12_off_102 : decode cX12_off 102 = .ok (.if_icmp .le 6, 3) := by decide +kernel
theorem dX12_off_105 : decode cX12_off 105 = .ok (.iinc 4 1, 3) := by decide +kernel
theorem dX12_off_108 : decode cX12_off 108 = .ok (.iinc 5 1, 3) := by decide +kernel
theorem dX12_off_111 : decode cX12_off 111 = .ok (.goto (-67), 3) := by decide +kernel
theorem dX12_off_114 : decode cX12_off 114 = .ok (.iload 4, 2) := by decide +kernel
theorem dX12_off_116 : decode cX12_off 116 = .ok (.ireturn, 1) := by decide +kernel
theorem dX12_farFrom_0 : decode cX12_farFrom 0 = .ok (.aload_n 0, 1) := by decide +kernel
theorem dX12_farFrom_1 : decode cX12_farFrom 1 = .ok (.iload_n 1, 1) := by decide +kernel
theorem dX12_farFrom_2 : decode cX12_farFrom 2 = .ok (.iload_n 2, 1) := by decide +kernel
theorem dX12_farFrom_3 : decode cX12_farFrom 3 = .ok (.invokevirtual 471, 3) := by decide +kernel
theorem dX12_farFrom_6 : decode cX12_farFrom 6 = .ok (.aload_n 0, 1) := by decide +kernel
theorem dX12_farFrom_7 : decode cX12_farFrom 7 = .ok (.iload_n 1, 1) := by decide +kernel
theorem dX12_farFrom_8 : decode cX12_farFrom 8 = .ok (.iload_n 2, 1) := by decide +kernel
theorem dX12_farFrom_9 : decode cX12_farFrom 9 = .ok (.iload_n 3, 1) := by decide +kernel
theorem dX12_farFrom_10 : decode cX12_farFrom 10 = .ok (.iconst 1, 1) := by decide +kernel
theorem dX12_farFrom_11 : decode cX12_farFrom 11 = .ok (.invokevirtual 436, 3) := by decide +kernel
theorem dX12_farFrom_14 : decode cX12_farFrom 14 = .ok (.aload_n 0, 1) := by decide +kernel
theorem dX12_farFrom_15 : decode cX12_farFrom 15 = .ok (.getfield 450, 3) := by decide +kernel
theorem dX12_farFrom_18 : decode cX12_farFrom 18 = .ok (.isub, 1) := by decide +kernel
theorem dX12_farFrom_19 : decode cX12_farFrom 19 = .ok (.invokestatic 443, 3) := by decide +kernel
theorem dX12_farFrom_22 : decode cX12_farFrom 22 = .ok (.aload_n 0, 1) := by decide +kernel
theorem dX12_farFrom_23 : decode cX12_farFrom 23 = .ok (.iload_n 1, 1) := by decide +kernel
theorem dX12_farFrom_24 : decode cX12_farFrom 24 = .ok (.iload_n 2, 1) := by decide +kernel
theorem dX12_farFrom_25 : decode cX12_farFrom 25 = .ok (.iload_n 3, 1) := by decide +kernel
theorem dX12_farFrom_26 : decode cX12_farFrom 26 = .ok (.iconst 0, 1) := by decide +kernel
theorem dX12_farFrom_27 : decode cX12_farFrom 27 = .ok (.invokevirtual 436, 3) := by decide +kernel
theorem dX12_farFrom_30 : decode cX12_farFrom 30 = .ok (.aload_n 0, 1) := by decide +kernel
theorem dX12_farFrom_31 : decode cX12_farFrom 31 = .ok (.getfield 459, 3) := by decide +kernel
theorem dX12_farFrom_34 : decode cX12_farFrom 34 = .ok (.isub, 1) := by decide +kernel
theorem dX12_farFrom_35 : decode cX12_farFrom 35 = .ok (.invokestatic 443, 3) := by decide +kernel
theorem dX12_farFrom_38 : decode cX12_farFrom 38 = .ok (.iadd, 1) := by decide +kernel
theorem dX12_farFrom_39 : decode cX12_farFrom 39 = .ok (.ireturn, 1) := by decide +kernel
theorem dX12_slipped_0 : decode cX12_slipped 0 = .ok (.aload_n 0, 1) := by decide +kernel
theorem dX12_slipped_1 : decode cX12_slipped 1 = .ok (.iload_n 1, 1) := by decide +kernel
theorem dX12_slipped_2 : decode cX12_slipped 2 = .ok (.iload_n 2, 1) := by decide +kernel
theorem dX12_slipped_3 : decode cX12_slipped 3 = .ok (.invokevirtual 465, 3) := by decide +kernel
theorem dX12_slipped_6 : decode cX12_slipped 6 = .ok (.ifCond .eq 34, 3) := by decide +kernel
theorem dX12_slipped_9 : decode cX12_slipped 9 = .ok (.aload_n 0, 1) := by decide +kernel
theorem dX12_slipped_10 : decode cX12_slipped 10 = .ok (.iload_n 1, 1) := by decide +kernel
theorem dX12_slipped_11 : decode cX12_slipped 11 = .ok (.iload_n 3, 1) := by decide +kernel
theorem dX12_slipped_12 : decode cX12_slipped 12 = .ok (.invokevirtual 465, 3) := by decide +kernel
theorem dX12_slipped_15 : decode cX12_slipped 15 = .ok (.ifCond .eq 25, 3) := by decide +kernel
theorem dX12_slipped_18 : decode cX12_slipped 18 = .ok (.aload_n 0, 1) := by decide +kernel
theorem dX12_slipped_19 : decode cX12_slipped 19 = .ok (.iload_n 2, 1) := by decide +kernel
theorem dX12_slipped_20 : decode cX12_slipped 20 = .ok (.iload_n 3, 1) := by decide +kernel
theorem dX12_slipped_21 : decode cX12_slipped 21 = .ok (.invokevirtual 465, 3) := by decide +kernel
theorem dX12_slipped_24 : decode cX12_slipped 24 = .ok (.ifCond .eq 16, 3) := by decide +kernel
theorem dX12_slipped_27 : decode cX12_slipped 27 = .ok (.aload_n 0, 1) := by decide +kernel
theorem dX12_slipped_28 : decode cX12_slipped 28 = .ok (.iload 4, 2) := by decide +kernel
theorem dX12_slipped_30 : decode cX12_slipped 30 = .ok (.iload 5, 2) := by decide +kernel
theorem dX12_slipped_32 : decode cX12_slipped 32 = .ok (.iload 6, 2) := by decide +kernel
theorem dX12_slipped_34 : decode cX12_slipped 34 = .ok (.invokevirtual 402, 3) := by decide +kernel
theorem dX12_slipped_37 : decode cX12_slipped 37 = .ok (.ifCond .ne 5, 3) := by decide +kernel
theorem dX12_slipped_40 : decode cX12_slipped 40 = .ok (.iconst (-1), 1) := by decide +kernel
theorem dX12_slipped_41 : decode cX12_slipped 41 = .ok (.ireturn, 1) := by decide +kernel
theorem dX12_slipped_42 : decode cX12_slipped 42 = .ok (.iload 4, 2) := by decide +kernel
theorem dX12_slipped_44 : decode cX12_slipped 44 = .ok (.iload 5, 2) := by decide +kernel
theorem dX12_slipped_46 : decode cX12_slipped 46 = .ok (.iload 6, 2) := by decide +kernel
theorem dX12_slipped_48 : decode cX12_slipped 48 = .ok (.invokestatic 350, 3) := by decide +kernel
theorem dX12_slipped_51 : decode cX12_slipped 51 = .ok (.istore 7, 2) := by decide +kernel
theorem dX12_slipped_53 : decode cX12_slipped 53 = .ok (.aload_n 0, 1) := by decide +kernel
theorem dX12_slipped_54 : decode cX12_slipped 54 = .ok (.iload_n 1, 1) := by decide +kernel
theorem dX12_slipped_55 : decode cX12_slipped 55 = .ok (.iload_n 2, 1) := by decide +kernel
theorem dX12_slipped_56 : decode cX12_slipped 56 = .ok (.iload 7, 2) := by decide +kernel
theorem dX12_slipped_58 : decode cX12_slipped 58 = .ok (.invokevirtual 433, 3) := by decide +kernel
theorem dX12_slipped_61 : decode cX12_slipped 61 = .ok (.ifCond .eq 14, 3) := by decide +kernel
theorem dX12_slipped_64 : decode cX12_slipped 64 = .ok (.aload_n 0, 1) := by decide +kernel
theorem dX12_slipped_65 : decode cX12_slipped 65 = .ok (.iload_n 1, 1) := by decide +kernel
theorem dX12_slipped_66 : decode cX12_slipped 66 = .ok (.iload_n 3, 1) := by decide +kernel
theorem dX12_slipped_67 : decode cX12_slipped 67 = .ok (.iload 7, 2) := by decide +kernel
theorem dX12_slipped_69 : decode cX12_slipped 69 = .ok (.invokevirtual 433, 3) := by decide +kernel
theorem dX12_slipped_72 : decode cX12_slipped 72 = .ok (.ifCond .ne 5, 3) := by decide +kernel
theorem dX12_slipped_75 : decode cX12_slipped 75 = .ok (.iconst (-1), 1) := by decide +kernel
theorem dX12_slipped_76 : decode cX12_slipped 76 = .ok (.ireturn, 1) := by decide +kernel
theorem dX12_slipped_77 : decode cX12_slipped 77 = .ok (.aload_n 0, 1) := by decide +kernel
theorem dX12_slipped_78 : decode cX12_slipped 78 = .ok (.iload_n 1, 1) := by decide +kernel
theorem dX12_slipped_79 : decode cX12_slipped 79 = .ok (.iload_n 3, 1) := by decide +kernel
theorem dX12_slipped_80 : decode cX12_slipped 80 = .ok (.iload 7, 2) := by decide +kernel
theorem dX12_slipped_82 : decode cX12_slipped 82 = .ok (.invokevirtual 476, 3) := by decide +kernel
theorem dX12_slipped_85 : decode cX12_slipped 85 = .ok (.istore 8, 2) := by decide +kernel
theorem dX12_slipped_87 : decode cX12_slipped 87 = .ok (.aload_n 0, 1) := by decide +kernel
theorem dX12_slipped_88 : decode cX12_slipped 88 = .ok (.iload_n 2, 1) := by decide +kernel
theorem dX12_slipped_89 : decode cX12_slipped 89 = .ok (.iload_n 3, 1) := by decide +kernel
theorem dX12_slipped_90 : decode cX12_slipped 90 = .ok (.iload 7, 2) := by decide +kernel
theorem dX12_slipped_92 : decode cX12_slipped 92 = .ok (.invokevirtual 476, 3) := by decide +kernel
theorem dX12_slipped_95 : decode cX12_slipped 95 = .ok (.istore 9, 2) := by decide +kernel
theorem dX12_slipped_97 : decode cX12_slipped 97 = .ok (.iload 8, 2) := by decide +kernel
theorem dX12_slipped_99 : decode cX12_slipped 99 = .ok (.iload 9, 2) := by decide +kernel
theorem dX12_slipped_101 : decode cX12_slipped 101 = .ok (.if_icmp .le 7, 3) := by decide +kernel
theorem dX12_slipped_104 : decode cX12_slipped 104 = .ok (.iconst 0, 1) := by decide +kernel
theorem dX12_slipped_105 : decode cX12_slipped 105 = .ok (.goto 15, 3) := by decide +kernel
theorem dX12_slipped_108 : decode cX12_slipped 108 = .ok (.iload 9, 2) := by decide +kernel
theorem dX12_slipped_110 : decode cX12_slipped 110 = .ok (.iload 8, 2) := by decide +kernel
theorem dX12_slipped_112 : decode cX12_slipped 112 = .ok (.if_icmp .le 7, 3) := by decide +kernel
theorem dX12_slipped_115 : decode cX12_slipped 115 = .ok (.iconst 1, 1) := by decide +kernel
theorem dX12_slipped_116 : decode cX12_slipped 116 = .ok (.goto 4, 3) := by decide +kernel
theorem dX12_slipped_119 : decode cX12_slipped 119 = .ok (.iconst 2, 1) := by decide +kernel
theorem dX12_slipped_120 : decode cX12_slipped 120 = .ok (.ireturn, 1) := by decide +kernel
theorem dX12_changes_0 : decode cX12_changes 0 = .ok (.iconst 0, 1) := by decide +kernel
theorem dX12_changes_1 : decode cX12_changes 1 = .ok (.istore_n 1, 1) := by decide +kernel
theorem dX12_changes_2 : decode cX12_changes 2 = .ok (.iload_n 1, 1) := by decide +kernel
theorem dX12_changes_3 : decode cX12_changes 3 = .ok (.bipush 8, 2) := by decide +kernel
theorem dX12_changes_5 : decode cX12_changes 5 = .ok (.if_icmp .ge 16, 3) := by decide +kernel
theorem dX12_changes_8 : decode cX12_changes 8 = .ok (.aload_n 0, 1) := by decide +kernel
theorem dX12_changes_9 : decode cX12_changes 9 = .ok (.getfield 115, 3) := by decide +kernel
theorem dX12_changes_12 : decode cX12_changes 12 = .ok (.iload_n 1, 1) := by decide +kernel
theorem dX12_changes_13 : decode cX12_changes 13 = .ok (.iconst 0, 1) := by decide +kernel
theorem dX12_changes_14 : decode cX12_changes 14 = .ok (.bastore, 1) := by decide +kernel
theorem dX12_changes_15 : decode cX12_changes 15 = .ok (.iinc 1 1, 3) := by decide +kernel
theorem dX12_changes_18 : decode cX12_changes 18 = .ok (.goto (-16), 3) := by decide +kernel
theorem dX12_changes_21 : decode cX12_changes 21 = .ok (.return_, 1) := by decide +kernel
theorem dX12_sees_0 : decode cX12_sees 0 = .ok (.iconst 0, 1) := by decide +kernel
theorem dX12_sees_1 : decode cX12_sees 1 = .ok (.istore_n 3, 1) := by decide +kernel
theorem dX12_sees_2 : decode cX12_sees 2 = .ok (.iload_n 3, 1) := by decide +kernel
theorem dX12_sees_3 : decode cX12_sees 3 = .ok (.aload_n 0, 1) := by decide +kernel
theorem dX12_sees_4 : decode cX12_sees 4 = .ok (.getfield 338, 3) := by decide +kernel
theorem dX12_sees_7 : decode cX12_sees 7 = .ok (.if_icmp .ge 180, 3) := by decide +kernel
theorem dX12_sees_10 : decode cX12_sees 10 = .ok (.aload_n 0, 1) := by decide +kernel
theorem dX12_sees_11 : decode cX12_sees 11 = .ok (.getfield 109, 3) := by decide +kernel
theorem dX12_sees_14 : decode cX12_sees 14 = .ok (.iload_n 3, 1) := by decide +kernel
theorem dX12_sees_15 : decode cX12_sees 15 = .ok (.aload_n 0, 1) := by decide +kernel
theorem dX12_sees_16 : decode cX12_sees 16 = .ok (.iload_n 3, 1) := by decide +kernel
theorem dX12_sees_17 : decode cX12_sees 17 = .ok (.iload_n 1, 1) := by decide +kernel
theorem dX12_sees_18 : decode cX12_sees 18 = .ok (.iconst 0, 1) := by decide +kernel
theorem dX12_sees_19 : decode cX12_sees 19 = .ok (.invokevirtual 410, 3) := by decide +kernel
theorem dX12_sees_22 : decode cX12_sees 22 = .ok (.ifCond .ne 13, 3) := by decide +kernel
theorem dX12_sees_25 : decode cX12_sees 25 = .ok (.aload_n 0, 1) := by decide +kernel
theorem dX12_sees_26 : decode cX12_sees 26 = .ok (.iload_n 3, 1) := by decide +kernel
theorem dX12_sees_27 : decode cX12_sees 27 = .ok (.iload_n 1, 1) := by decide +kernel
theorem dX12_sees_28 : decode cX12_sees 28 = .ok (.iconst 1, 1) := by decide +kernel
theorem dX12_sees_29 : decode cX12_sees 29 = .ok (.invokevirtual 410, 3) := by decide +kernel
theorem dX12_sees_32 : decode cX12_sees 32 = .ok (.ifCond .eq 7, 3) := by decide +kernel
theorem dX12_sees_35 : decode cX12_sees 35 = .ok (.iconst 1, 1) := by decide +kernel
theorem dX12_sees_36 : decode cX12_sees 36 = .ok (.goto 4, 3) := by decide +kernel
theorem dX12_sees_39 : decode cX12_sees 39 = .ok (.iconst 0, 1) := by decide +kernel
theorem dX12_sees_40 : decode cX12_sees 40 = .ok (.bastore, 1) := by decide +kernel
theorem dX12_sees_41 : decode cX12_sees 41 = .ok (.aload_n 0, 1) := by decide +kernel
theorem dX12_sees_42 : decode cX12_sees 42 = .ok (.getfield 70, 3) := by decide +kernel
theorem dX12_sees_45 : decode cX12_sees 45 = .ok (.iload_n 3, 1) := by decide +kernel
theorem dX12_sees_46 : decode cX12_sees 46 = .ok (.iload_n 1, 1) := by decide +kernel
theorem dX12_sees_47 : decode cX12_sees 47 = .ok (.iconst 0, 1) := by decide +kernel
theorem dX12_sees_48 : decode cX12_sees 48 = .ok (.invokestatic 350, 3) := by decide +kernel
theorem dX12_sees_51 : decode cX12_sees 51 = .ok (.iaload, 1) := by decide +kernel
theorem dX12_sees_52 : decode cX12_sees 52 = .ok (.istore 4, 2) := by decide +kernel
theorem dX12_sees_54 : decode cX12_sees 54 = .ok (.aload_n 0, 1) := by decide +kernel
theorem dX12_sees_55 : decode cX12_sees 55 = .ok (.getfield 70, 3) := by decide +kernel
theorem dX12_sees_58 : decode cX12_sees 58 = .ok (.iload_n 3, 1) := by decide +kernel
theorem dX12_sees_59 : decode cX12_sees 59 = .ok (.iload_n 1, 1) := by decide +kernel
theorem dX12_sees_60 : decode cX12_sees 60 = .ok (.iconst 1, 1) := by decide +kernel
theorem dX12_sees_61 : decode cX12_sees 61 = .ok (.invokestatic 350, 3) := by decide +kernel
theorem dX12_sees_64 : decode cX12_sees 64 = .ok (.iaload, 1) := by decide +kernel
theorem dX12_sees_65 : decode cX12_sees 65 = .ok (.istore 5, 2) := by decide +kernel
theorem dX12_sees_67 : decode cX12_sees 67 = .ok (.aload_n 0, 1) := by decide +kernel
theorem dX12_sees_68 : decode cX12_sees 68 = .ok (.iload_n 3, 1) := by decide +kernel
theorem dX12_sees_69 : decode cX12_sees 69 = .ok (.iload_n 1, 1) := by decide +kernel
theorem dX12_sees_70 : decode cX12_sees 70 = .ok (.iconst 0, 1) := by decide +kernel
theorem dX12_sees_71 : decode cX12_sees 71 = .ok (.invokevirtual 410, 3) := by decide +kernel
theorem dX12_sees_74 : decode cX12_sees 74 = .ok (.ifCond .eq 17, 3) := by decide +kernel
theorem dX12_sees_77 : decode cX12_sees 77 = .ok (.aload_n 0, 1) := by decide +kernel
theorem dX12_sees_78 : decode cX12_sees 78 = .ok (.iload_n 3, 1) := by decide +kernel
theorem dX12_sees_79 : decode cX12_sees 79 = .ok (.iload_n 1, 1) := by decide +kernel
theorem dX12_sees_80 : decode cX12_sees 80 = .ok (.iconst 1, 1) := by decide +kernel
theorem dX12_sees_81 : decode cX12_sees 81 = .ok (.invokevirtual 410, 3) := by decide +kernel
theorem dX12_sees_84 : decode cX12_sees 84 = .ok (.ifCond .eq 7, 3) := by decide +kernel
theorem dX12_sees_87 : decode cX12_sees 87 = .ok (.iconst 1, 1) := by decide +kernel
theorem dX12_sees_88 : decode cX12_sees 88 = .ok (.goto 4, 3) := by decide +kernel
theorem dX12_sees_91 : decode cX12_sees 91 = .ok (.iconst 0, 1) := by decide +kernel
theorem dX12_sees_92 : decode cX12_sees 92 = .ok (.istore 6, 2) := by decide +kernel
theorem dX12_sees_94 : decode cX12_sees 94 = .ok (.iload 6, 2) := by decide +kernel
theorem dX12_sees_96 : decode cX12_sees 96 = .ok (.ifCond .eq 20, 3) := by decide +kernel
