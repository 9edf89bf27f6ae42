theorem dX2_choose_18 : decode cX2_choose 18 = .ok (.iadd, 1) := by decide +kernel
theorem dX2_choose_19 : decode cX2_choose 19 = .ok (.imul, 1) := by decide +kernel
theorem dX2_choose_20 : decode cX2_choose 20 = .ok (.isub, 1) := by decide +kernel
theorem dX2_choose_21 : decode cX2_choose 21 = .ok (.aload_n 0, 1) := by decide +kernel
theorem dX2_choose_22 : decode cX2_choose 22 = .ok (.getfield 11, 3) := by decide +kernel
theorem dX2_choose_25 : decode cX2_choose 25 = .ok (.iload_n 1, 1) := by decide +kernel
theorem dX2_choose_26 : decode cX2_choose 26 = .ok (.iconst 2, 1) := by decide +kernel
theorem dX2_choose_27 : decode cX2_choose 27 = .ok (.iadd, 1) := by decide +kernel
theorem dX2_choose_28 : decode cX2_choose 28 = .ok (.iaload, 1) := by decide +kernel
theorem dX2_choose_29 : decode cX2_choose 29 = .ok (.iadd, 1) := by decide +kernel
theorem dX2_choose_30 : decode cX2_choose 30 = .ok (.istore 6, 2) := by decide +kernel
theorem dX2_choose_32 : decode cX2_choose 32 = .ok (.ldc2_w 126, 3) := by decide +kernel
theorem dX2_choose_35 : decode cX2_choose 35 = .ok (.lstore 7, 2) := by decide +kernel
theorem dX2_choose_37 : decode cX2_choose 37 = .ok (.iload 4, 2) := by decide +kernel
theorem dX2_choose_39 : decode cX2_choose 39 = .ok (.istore 9, 2) := by decide +kernel
theorem dX2_choose_41 : decode cX2_choose 41 = .ok (.iload 4, 2) := by decide +kernel
theorem dX2_choose_43 : decode cX2_choose 43 = .ok (.istore 10, 2) := by decide +kernel
theorem dX2_choose_45 : decode cX2_choose 45 = .ok (.iload 10, 2) := by decide +kernel
theorem dX2_choose_47 : decode cX2_choose 47 = .ok (.iload 5, 2) := by decide +kernel
theorem dX2_choose_49 : decode cX2_choose 49 = .ok (.if_icmp .gt 53, 3) := by decide +kernel
theorem dX2_choose_52 : decode cX2_choose 52 = .ok (.iload 6, 2) := by decide +kernel
theorem dX2_choose_54 : decode cX2_choose 54 = .ok (.iload 10, 2) := by decide +kernel
theorem dX2_choose_56 : decode cX2_choose 56 = .ok (.iadd, 1) := by decide +kernel
theorem dX2_choose_57 : decode cX2_choose 57 = .ok (.i2l, 1) := by decide +kernel
theorem dX2_choose_58 : decode cX2_choose 58 = .ok (.lstore 11, 2) := by decide +kernel
theorem dX2_choose_60 : decode cX2_choose 60 = .ok (.lload 11, 2) := by decide +kernel
theorem dX2_choose_62 : decode cX2_choose 62 = .ok (.lload 11, 2) := by decide +kernel
theorem dX2_choose_64 : decode cX2_choose 64 = .ok (.lmul, 1) := by decide +kernel
theorem dX2_choose_65 : decode cX2_choose 65 = .ok (.aload_n 0, 1) := by decide +kernel
theorem dX2_choose_66 : decode cX2_choose 66 = .ok (.getfield 46, 3) := by decide +kernel
theorem dX2_choose_69 : decode cX2_choose 69 = .ok (.iload_n 3, 1) := by decide +kernel
theorem dX2_choose_70 : decode cX2_choose 70 = .ok (.bipush 61, 2) := by decide +kernel
theorem dX2_choose_72 : decode cX2_choose 72 = .ok (.imul, 1) := by decide +kernel
theorem dX2_choose_73 : decode cX2_choose 73 = .ok (.iload 10, 2) := by decide +kernel
theorem dX2_choose_75 : decode cX2_choose 75 = .ok (.iadd, 1) := by decide +kernel
theorem dX2_choose_76 : decode cX2_choose 76 = .ok (.laload, 1) := by decide +kernel
theorem dX2_choose_77 : decode cX2_choose 77 = .ok (.ladd, 1) := by decide +kernel
theorem dX2_choose_78 : decode cX2_choose 78 = .ok (.lstore 13, 2) := by decide +kernel
theorem dX2_choose_80 : decode cX2_choose 80 = .ok (.lload 13, 2) := by decide +kernel
theorem dX2_choose_82 : decode cX2_choose 82 = .ok (.lload 7, 2) := by decide +kernel
theorem dX2_choose_84 : decode cX2_choose 84 = .ok (.lcmp, 1) := by decide +kernel
theorem dX2_choose_85 : decode cX2_choose 85 = .ok (.ifCond .ge 11, 3) := by decide +kernel
theorem dX2_choose_88 : decode cX2_choose 88 = .ok (.lload 13, 2) := by decide +kernel
theorem dX2_choose_90 : decode cX2_choose 90 = .ok (.lstore 7, 2) := by decide +kernel
theorem dX2_choose_92 : decode cX2_choose 92 = .ok (.iload 10, 2) := by decide +kernel
theorem dX2_choose_94 : decode cX2_choose 94 = .ok (.istore 9, 2) := by decide +kernel
theorem dX2_choose_96 : decode cX2_choose 96 = .ok (.iinc 10 1, 3) := by decide +kernel
theorem dX2_choose_99 : decode cX2_choose 99 = .ok (.goto (-54), 3) := by decide +kernel
theorem dX2_choose_102 : decode cX2_choose 102 = .ok (.aload_n 0, 1) := by decide +kernel
theorem dX2_choose_103 : decode cX2_choose 103 = .ok (.getfield 43, 3) := by decide +kernel
theorem dX2_choose_106 : decode cX2_choose 106 = .ok (.iload_n 2, 1) := by decide +kernel
theorem dX2_choose_107 : decode cX2_choose 107 = .ok (.bipush 61, 2) := by decide +kernel
theorem dX2_choose_109 : decode cX2_choose 109 = .ok (.imul, 1) := by decide +kernel
theorem dX2_choose_110 : decode cX2_choose 110 = .ok (.iload_n 3, 1) := by decide +kernel
theorem dX2_choose_111 : decode cX2_choose 111 = .ok (.iadd, 1) := by decide +kernel
theorem dX2_choose_112 : decode cX2_choose 112 = .ok (.lload 7, 2) := by decide +kernel
theorem dX2_choose_114 : decode cX2_choose 114 = .ok (.lastore, 1) := by decide +kernel
theorem dX2_choose_115 : decode cX2_choose 115 = .ok (.aload_n 0, 1) := by decide +kernel
theorem dX2_choose_116 : decode cX2_choose 116 = .ok (.getfield 39, 3) := by decide +kernel
theorem dX2_choose_119 : decode cX2_choose 119 = .ok (.aload_n 0, 1) := by decide +kernel
theorem dX2_choose_120 : decode cX2_choose 120 = .ok (.iload_n 1, 1) := by decide +kernel
theorem dX2_choose_121 : decode cX2_choose 121 = .ok (.iload_n 2, 1) := by decide +kernel
theorem dX2_choose_122 : decode cX2_choose 122 = .ok (.iload_n 3, 1) := by decide +kernel
theorem dX2_choose_123 : decode cX2_choose 123 = .ok (.invokevirtual 119, 3) := by decide +kernel
theorem dX2_choose_126 : decode cX2_choose 126 = .ok (.iload 9, 2) := by decide +kernel
theorem dX2_choose_128 : decode cX2_choose 128 = .ok (.i2b, 1) := by decide +kernel
theorem dX2_choose_129 : decode cX2_choose 129 = .ok (.bastore, 1) := by decide +kernel
theorem dX2_choose_130 : decode cX2_choose 130 = .ok (.return_, 1) := by decide +kernel
theorem dX2_follow_0 : decode cX2_follow 0 = .ok (.ldc2_w 126, 3) := by decide +kernel
theorem dX2_follow_3 : decode cX2_follow 3 = .ok (.lstore_n 2, 1) := by decide +kernel
theorem dX2_follow_4 : decode cX2_follow 4 = .ok (.iconst 0, 1) := by decide +kernel
theorem dX2_follow_5 : decode cX2_follow 5 = .ok (.istore 4, 2) := by decide +kernel
theorem dX2_follow_7 : decode cX2_follow 7 = .ok (.iconst 0, 1) := by decide +kernel
theorem dX2_follow_8 : decode cX2_follow 8 = .ok (.istore 5, 2) := by decide +kernel
theorem dX2_follow_10 : decode cX2_follow 10 = .ok (.iconst 0, 1) := by decide +kernel
theorem dX2_follow_11 : decode cX2_follow 11 = .ok (.istore 6, 2) := by decide +kernel
theorem dX2_follow_13 : decode cX2_follow 13 = .ok (.iload 6, 2) := by decide +kernel
theorem dX2_follow_15 : decode cX2_follow 15 = .ok (.aload_n 0, 1) := by decide +kernel
theorem dX2_follow_16 : decode cX2_follow 16 = .ok (.iconst 0, 1) := by decide +kernel
theorem dX2_follow_17 : decode cX2_follow 17 = .ok (.invokevirtual 108, 3) := by decide +kernel
theorem dX2_follow_20 : decode cX2_follow 20 = .ok (.if_icmp .ge 68, 3) := by decide +kernel
theorem dX2_follow_23 : decode cX2_follow 23 = .ok (.iconst 0, 1) := by decide +kernel
theorem dX2_follow_24 : decode cX2_follow 24 = .ok (.istore 7, 2) := by decide +kernel
theorem dX2_follow_26 : decode cX2_follow 26 = .ok (.iload 7, 2) := by decide +kernel
theorem dX2_follow_28 : decode cX2_follow 28 = .ok (.aload_n 0, 1) := by decide +kernel
theorem dX2_follow_29 : decode cX2_follow 29 = .ok (.iconst 1, 1) := by decide +kernel
theorem dX2_follow_30 : decode cX2_follow 30 = .ok (.invokevirtual 108, 3) := by decide +kernel
theorem dX2_follow_33 : decode cX2_follow 33 = .ok (.if_icmp .ge 49, 3) := by decide +kernel
theorem dX2_follow_36 : decode cX2_follow 36 = .ok (.aload_n 0, 1) := by decide +kernel
theorem dX2_follow_37 : decode cX2_follow 37 = .ok (.getfield 46, 3) := by decide +kernel
theorem dX2_follow_40 : decode cX2_follow 40 = .ok (.iload 6, 2) := by decide +kernel
theorem dX2_follow_42 : decode cX2_follow 42 = .ok (.bipush 61, 2) := by decide +kernel
theorem dX2_follow_44 : decode cX2_follow 44 = .ok (.imul, 1) := by decide +kernel
theorem dX2_follow_45 : decode cX2_follow 45 = .ok (.iload 7, 2) := by decide +kernel
theorem dX2_follow_47 : decode cX2_follow 47 = .ok (.iadd, 1) := by decide +kernel
theorem dX2_follow_48 : decode cX2_follow 48 = .ok (.laload, 1) := by decide +kernel
theorem dX2_follow_49 : decode cX2_follow 49 = .ok (.lload_n 2, 1) := by decide +kernel
theorem dX2_follow_50 : decode cX2_follow 50 = .ok (.lcmp, 1) := by decide +kernel
theorem dX2_follow_51 : decode cX2_follow 51 = .ok (.ifCond .ge 25, 3) := by decide +kernel
theorem dX2_follow_54 : decode cX2_follow 54 = .ok (.aload_n 0, 1) := by decide +kernel
theorem dX2_follow_55 : decode cX2_follow 55 = .ok (.getfield 46, 3) := by decide +kernel
theorem dX2_follow_58 : decode cX2_follow 58 = .ok (.iload 6, 2) := by decide +kernel
theorem dX2_follow_60 : decode cX2_follow 60 = .ok (.bipush 61, 2) := by decide +kernel
theorem dX2_follow_62 : decode cX2_follow 62 = .ok (.imul, 1) := by decide +kernel
theorem dX2_follow_63 : decode cX2_follow 63 = .ok (.iload 7, 2) := by decide +kernel
theorem dX2_follow_65 : decode cX2_follow 65 = .ok (.iadd, 1) := by decide +kernel
theorem dX2_follow_66 : decode cX2_follow 66 = .ok (.laload, 1) := by decide +kernel
theorem dX2_follow_67 : decode cX2_follow 67 = .ok (.lstore_n 2, 1) := by decide +kernel
theorem dX2_follow_68 : decode cX2_follow 68 = .ok (.iload 6, 2) := by decide +kernel
theorem dX2_follow_70 : decode cX2_follow 70 = .ok (.istore 4, 2) := by decide +kernel
theorem dX2_follow_72 : decode cX2_follow 72 = .ok (.iload 7, 2) := by decide +kernel
theorem dX2_follow_74 : decode cX2_follow 74 = .ok (.istore 5, 2) := by decide +kernel
theorem dX2_follow_76 : decode cX2_follow 76 = .ok (.iinc 7 1, 3) := by decide +kernel
theorem dX2_follow_79 : decode cX2_follow 79 = .ok (.goto (-53), 3) := by decide +kernel
theorem dX2_follow_82 : decode cX2_follow 82 = .ok (.iinc 6 1, 3) := by decide +kernel
theorem dX2_follow_85 : decode cX2_follow 85 = .ok (.goto (-72), 3) := by decide +kernel
theorem dX2_follow_88 : decode cX2_follow 88 = .ok (.aload_n 0, 1) := by decide +kernel
theorem dX2_follow_89 : decode cX2_follow 89 = .ok (.getfield 25, 3) := by decide +kernel
theorem dX2_follow_92 : decode cX2_follow 92 = .ok (.iload_n 1, 1) := by decide +kernel
theorem dX2_follow_93 : decode cX2_follow 93 = .ok (.lload_n 2, 1) := by decide +kernel
theorem dX2_follow_94 : decode cX2_follow 94 = .ok (.lastore, 1) := by decide +kernel
theorem dX2_follow_95 : decode cX2_follow 95 = .ok (.iconst 0, 1) := by decide +kernel
theorem dX2_follow_96 : decode cX2_follow 96 = .ok (.istore 6, 2) := by decide +kernel
theorem dX2_follow_98 : decode cX2_follow 98 = .ok (.iload 6, 2) := by decide +kernel
theorem dX2_follow_100 : decode cX2_follow 100 = .ok (.aload_n 0, 1) := by decide +kernel
theorem dX2_follow_101 : decode cX2_follow 101 = .ok (.getfield 49, 3) := by decide +kernel
theorem dX2_follow_104 : decode cX2_follow 104 = .ok (.getfield 74, 3) := by decide +kernel
theorem dX2_follow_107 : decode cX2_follow 107 = .ok (.if_icmp .ge 74, 3) := by decide +kernel
theorem dX2_follow_110 : decode cX2_follow 110 = .ok (.aload_n 0, 1) := by decide +kernel
theorem dX2_follow_111 : decode cX2_follow 111 = .ok (.getfield 22, 3) := by decide +kernel
theorem dX2_follow_114 : decode cX2_follow 114 = .ok (.iload_n 1, 1) := by decide +kernel
theorem dX2_follow_115 : decode cX2_follow 115 = .ok (.bipush 24, 2) := by decide +kernel
theorem dX2_follow_117 : decode cX2_follow 117 = .ok (.imul, 1) := by decide +kernel
theorem dX2_follow_118 : decode cX2_follow 118 = .ok (.iload 6, 2) := by decide +kernel
theorem dX2_follow_120 : decode cX2_follow 120 = .ok (.iadd, 1) := by decide +kernel
theorem dX2_follow_121 : decode cX2_follow 121 = .ok (.aload_n 0, 1) := by decide +kernel
theorem dX2_follow_122 : decode cX2_follow 122 = .ok (.getfield 11, 3) := by decide +kernel
theorem dX2_follow_125 : decode cX2_follow 125 = .ok (.iload 6, 2) := by decide +kernel
theorem dX2_follow_127 : decode cX2_follow 127 = .ok (.iaload, 1) := by decide +kernel
theorem dX2_follow_128 : decode cX2_follow 128 = .ok (.iload 4, 2) := by decide +kernel
theorem dX2_follow_130 : decode cX2_follow 130 = .ok (.iadd, 1) := by decide +kernel
theorem dX2_follow_131 : decode cX2_follow 131 = .ok (.iastore, 1) := by decide +kernel
theorem dX2_follow_132 : decode cX2_follow 132 = .ok (.iload 6, 2) := by decide +kernel
theorem dX2_follow_134 : decode cX2_follow 134 = .ok (.iconst 2, 1) := by decide +kernel
theorem dX2_follow_135 : decode cX2_follow 135 = .ok (.iadd, 1) := by decide +kernel
theorem dX2_follow_136 : decode cX2_follow 136 = .ok (.aload_n 0, 1) := by decide +kernel
theorem dX2_follow_137 : decode cX2_follow 137 = .ok (.getfield 49, 3) := by decide +kernel
theorem dX2_follow_140 : decode cX2_follow 140 = .ok (.getfield 74, 3) := by decide +kernel
theorem dX2_follow_143 : decode cX2_follow 143 = .ok (.if_icmp .ge 21, 3) := by decide +kernel
theorem dX2_follow_146 : decode cX2_follow 146 = .ok (.aload_n 0, 1) := by decide +kernel
theorem dX2_follow_147 : decode cX2_follow 147 = .ok (.getfield 39, 3) := by decide +kernel
theorem dX2_follow_150 : decode cX2_follow 150 = .ok (.aload_n 0, 1) := by decide +kernel
theorem dX2_follow_151 : decode cX2_follow 151 = .ok (.iload 6, 2) := by decide +kernel
theorem dX2_follow_153 : decode cX2_follow 153 = .ok (.iload 4, 2) := by decide +kernel
theorem dX2_follow_155 : decode cX2_follow 155 = .ok (.iload 5, 2) := by decide +kernel
theorem dX2_follow_157 : decode cX2_follow 157 = .ok (.invokevirtual 119, 3) := by decide +kernel
theorem dX2_follow_160 : decode cX2_follow 160 = .ok (.baload, 1) := by decide +kernel
theorem dX2_follow_161 : decode cX2_follow 161 = .ok (.goto 4, 3) := by decide +kernel
theorem dX2_follow_164 : decode cX2_follow 164 = .ok (.iconst 0, 1) := by decide +kernel
theorem dX2_follow_165 : decode cX2_follow 165 = .ok (.istore 7, 2) := by decide +kernel
theorem dX2_follow_167 : decode cX2_follow 167 = .ok (.iload 5, 2) := by decide +kernel
theorem dX2_follow_169 : decode cX2_follow 169 = .ok (.istore 4, 2) := by decide +kernel
theorem dX2_follow_171 : decode cX2_follow 171 = .ok (.iload 7, 2) := by decide +kernel
theorem dX2_follow_173 : decode cX2_follow 173 = .ok (.istore 5, 2) := by decide +kernel
theorem dX2_follow_175 : decode cX2_follow 175 = .ok (.iinc 6 1, 3) := by decide +kernel
theorem dX2_follow_178 : decode cX2_follow 178 = .ok (.goto (-80), 3) := by decide +kernel
theorem dX2_follow_181 : decode cX2_follow 181 = .ok (.return_, 1) := by decide +kernel
theorem dX2_beyond_0 : decode cX2_beyond 0 = .ok (.aload_n 0, 1) := by decide +kernel
theorem dX2_beyond_1 : decode cX2_beyond 1 = .ok (.iload_n 1, 1) := by decide +kernel
theorem dX2_beyond_2 : decode cX2_beyond 2 = .ok (.iload_n 2, 1) := by decide +kernel
theorem dX2_beyond_3 : decode cX2_beyond 3 = .ok (.ifCond .ne 7, 3) := by decide +kernel
theorem dX2_beyond_6 : decode cX2_beyond 6 = .ok (.iconst 0, 1) := by decide +kernel
theorem dX2_beyond_7 : decode cX2_beyond 7 = .ok (.goto 12, 3) := by decide +kernel
theorem dX2_beyond_10 : decode cX2_beyond 10 = .ok (.aload_n 0, 1) := by decide +kernel
theorem dX2_beyond_11 : decode cX2_beyond 11 = .ok (.getfield 49, 3) := by decide +kernel
theorem dX2_beyond_14 : decode cX2_beyond 14 = .ok (.getfield 74, 3) := by decide +kernel
theorem dX2_beyond_17 : decode cX2_beyond 17 = .ok (.iconst 1, 1) := by decide +kernel
theorem dX2_beyond_18 : decode cX2_beyond 18 = .ok (.isub, 1) := by decide +kernel
theorem dX2_beyond_19 : decode cX2_beyond 19 = .ok (.invokevirtual 128, 3) := by decide +kernel
theorem dX2_beyond_22 : decode cX2_beyond 22 = .ok (.istore_n 3, 1) := by decide +kernel
theorem dX2_beyond_23 : decode cX2_beyond 23 = .ok (.aload_n 0, 1) := by decide +kernel
theorem dX2_beyond_24 : decode cX2_beyond 24 = .ok (.iload_n 1, 1) := by decide +kernel
theorem dX2_beyond_25 : decode cX2_beyond 25 = .ok (.iload_n 2, 1) := by decide +kernel
theorem dX2_beyond_26 : decode cX2_beyond 26 = .ok (.ifCond .ne 7, 3) := by decide +kernel
theorem dX2_beyond_29 : decode cX2_beyond 29 = .ok (.iconst 1, 1) := by decide +kernel
theorem dX2_beyond_30 : decode cX2_beyond 30 = .ok (.goto 12, 3) := by decide +kernel
theorem dX2_beyond_33 : decode cX2_beyond 33 = .ok (.aload_n 0, 1) := by decide +kernel
theorem dX2_beyond_34 : decode cX2_beyond 34 = .ok (.getfield 49, 3) := by decide +kernel
theorem dX2_beyond_37 : decode cX2_beyond 37 = .ok (.getfield 74, 3) := by decide +kernel
theorem dX2_beyond_40 : decode cX2_beyond 40 = .ok (.iconst 2, 1) := by decide +kernel
theorem dX2_beyond_41 : decode cX2_beyond 41 = .ok (.isub, 1) := by decide +kernel
theorem dX2_beyond_42 : decode cX2_beyond 42 = .ok (.invokevirtual 128, 3) := by decide +kernel
theorem dX2_beyond_45 : decode cX2_beyond 45 = .ok (.istore 4, 2) := by decide +kernel
theorem dX2_beyond_47 : decode cX2_beyond 47 = .ok (.iload 4, 2) := by decide +kernel
theorem dX2_beyond_49 : decode cX2_beyond 49 = .ok (.iload_n 3, 1) := by decide +kernel
theorem dX2_beyond_50 : decode cX2_beyond 50 = .ok (.isub, 1) := by decide +kernel
theorem dX2_beyond_51 : decode cX2_beyond 51 = .ok (.istore 5, 2) := by decide +kernel
theorem dX2_beyond_53 : decode cX2_beyond 53 = .ok (.iload 5, 2) := by decide +kernel
theorem dX2_beyond_55 : decode cX2_beyond 55 = .ok (.ifCond .gt 6, 3) := by decide +kernel
theorem dX2_beyond_58 : decode cX2_beyond 58 = .ok (.bipush (-2), 2) := by decide +kernel
theorem dX2_beyond_60 : decode cX2_beyond 60 = .ok (.ireturn, 1) := by decide +kernel
theorem dX2_beyond_61 : decode cX2_beyond 61 = .ok (.iload_n 3, 1) := by decide +kernel
theorem dX2_beyond_62 : decode cX2_beyond 62 = .ok (.ifCond .gt 7, 3) := by decide +kernel
theorem dX2_beyond_65 : decode cX2_beyond 65 = .ok (.iconst 0, 1) := by decide +kernel
theorem dX2_beyond_66 : decode cX2_beyond 66 = .ok (.goto 12, 3) := by decide +kernel
theorem dX2_beyond_69 : decode cX2_beyond 69 = .ok (.iload_n 3, 1) := by decide +kernel
theorem dX2_beyond_70 : decode cX2_beyond 70 = .ok (.iload 5, 2) := by decide +kernel
theorem dX2_beyond_72 : decode cX2_beyond 72 = .ok (.iadd, 1) := by decide +kernel
theorem dX2_beyond_73 : decode cX2_beyond 73 = .ok (.iconst 1, 1) := by decide +kernel
theorem dX2_beyond_74 : decode cX2_beyond 74 = .ok (.isub, 1) := by decide +kernel
theorem dX2_beyond_75 : decode cX2_beyond 75 = .ok (.iload 5, 2) := by decide +kernel
theorem dX2_beyond_77 : decode cX2_beyond 77 = .ok (.idiv, 1) := by decide +kernel
theorem dX2_beyond_78 : decode cX2_beyond 78 = .ok (.ireturn, 1) := by decide +kernel
theorem dX3_init_0 : decode cX3_init 0 = .ok (.aload_n 0, 1) := by decide +kernel
theorem dX3_init_1 : decode cX3_init 1 = .ok (.invokespecial 3, 3) := by decide +kernel
theorem dX3_init_4 : decode cX3_init 4 = .ok (.aload_n 0, 1) := by decide +kernel
theorem dX3_init_5 : decode cX3_init 5 = .ok (.aload_n 1, 1) := by decide +kernel
theorem dX3_init_6 : decode cX3_init 6 = .ok (.putfield 9, 3) := by decide +kernel
theorem dX3_init_9 : decode cX3_init 9 = .ok (.return_, 1) := by decide +kernel
theorem dX3_read_0 : decode cX3_read 0 = .ok (.aload_n 0, 1) := by decide +kernel
theorem dX3_read_1 : decode cX3_read 1 = .ok (.aload_n 3, 1) := by decide +kernel
theorem dX3_read_2 : decode cX3_read 2 = .ok (.putfield 15, 3) := by decide +kernel
theorem dX3_read_5 : decode cX3_read 5 = .ok (.aload_n 0, 1) := by decide +kernel
theorem dX3_read_6 : decode cX3_read 6 = .ok (.getfield 15, 3) := by decide +kernel
theorem dX3_read_9 : decode cX3_read 9 = .ok (.invokevirtual 19, 3) := by decide +kernel
theorem dX3_read_12 : decode cX3_read 12 = .ok (.aload_n 0, 1) := by decide +kernel
theorem dX3_read_13 : decode cX3_read 13 = .ok (.iload_n 1, 1) := by decide +kernel
theorem dX3_read_14 : decode cX3_read 14 = .ok (.putfield 24, 3) := by decide +kernel
theorem dX3_read_17 : decode cX3_read 17 = .ok (.aload_n 0, 1) := by decide +kernel
theorem dX3_read_18 : decode cX3_read 18 = .ok (.iconst 0, 1) := by decide +kernel
theorem dX3_read_19 : decode cX3_read 19 = .ok (.putfield 28, 3) := by decide +kernel
theorem dX3_read_22 : decode cX3_read 22 = .ok (.aload_n 0, 1) := by decide +kernel
theorem dX3_read_23 : decode cX3_read 23 = .ok (.aload_n 0, 1) := by decide +kernel
theorem dX3_read_24 : decode cX3_read 24 = .ok (.getfield 9, 3) := by decide +kernel
theorem dX3_read_27 : decode cX3_read 27 = .ok (.iconst 0, 1) := by decide +kernel
theorem dX3_read_28 : decode cX3_read 28 = .ok (.invokevirtual 31, 3) := by decide +kernel
theorem dX3_read_31 : decode cX3_read 31 = .ok (.putfield 37, 3) := by decide +kernel
theorem dX3_read_34 : decode cX3_read 34 = .ok (.aload_n 0, 1) := by decide +kernel
theorem dX3_read_35 : decode cX3_read 35 = .ok (.iconst 0, 1) := by decide +kernel
theorem dX3_read_36 : decode cX3_read 36 = .ok (.putfield 40, 3) := by decide +kernel
theorem dX3_read_39 : decode cX3_read 39 = .ok (.aload_n 0, 1) := by decide +kernel
theorem dX3_read_40 : decode cX3_read 40 = .ok (.iconst 0, 1) := by decide +kernel
theorem dX3_read_41 : decode cX3_read 41 = .ok (.putfield 43, 3) := by decide +kernel
theorem dX3_read_44 : decode cX3_read 44 = .ok (.aload_n 0, 1) := by decide +kernel
theorem dX3_read_45 : decode cX3_read 45 = .ok (.aload_n 2, 1) := by decide +kernel
theorem dX3_read_46 : decode cX3_read 46 = .ok (.invokevirtual 46, 3) := by decide +kernel
theorem dX3_read_49 : decode cX3_read 49 = .ok (.aload_n 0, 1) := by decide +kernel
theorem dX3_read_50 : decode cX3_read 50 = .ok (.getfield 28, 3) := by decide +kernel
theorem dX3_read_53 : decode cX3_read 53 = .ok (.aload_n 0, 1) := by decide +kernel
theorem dX3_read_54 : decode cX3_read 54 = .ok (.getfield 24, 3) := by decide +kernel
theorem dX3_read_57 : decode cX3_read 57 = .ok (.if_icmp .ge 24, 3) := by decide +kernel
theorem dX3_read_60 : decode cX3_read 60 = .ok (.aload_n 0, 1) := by decide +kernel
theorem dX3_read_61 : decode cX3_read 61 = .ok (.ldc 50, 2) := by decide +kernel
theorem dX3_read_63 : decode cX3_read 63 = .ok (.invokevirtual 52, 3) := by decide +kernel
theorem dX3_read_66 : decode cX3_read 66 = .ok (.ifCond .eq 15, 3) := by decide +kernel
theorem dX3_read_69 : decode cX3_read 69 = .ok (.aload_n 0, 1) := by decide +kernel
theorem dX3_read_70 : decode cX3_read 70 = .ok (.invokevirtual 56, 3) := by decide +kernel
theorem dX3_read_73 : decode cX3_read 73 = .ok (.aload_n 0, 1) := by decide +kernel
theorem dX3_read_74 : decode cX3_read 74 = .ok (.aload_n 2, 1) := by decide +kernel
theorem dX3_read_75 : decode cX3_read 75 = .ok (.invokevirtual 46, 3) := by decide +kernel
theorem dX3_read_78 : decode cX3_read 78 = .ok (.goto (-29), 3) := by decide +kernel
theorem dX3_read_81 : decode cX3_read 81 = .ok (.aload_n 0, 1) := by decide +kernel
theorem dX3_read_82 : decode cX3_read 82 = .ok (.getfield 28, 3) := by decide +kernel
theorem dX3_read_85 : decode cX3_read 85 = .ok (.aload_n 0, 1) := by decide +kernel
theorem dX3_read_86 : decode cX3_read 86 = .ok (.getfield 24, 3) := by decide +kernel
theorem dX3_read_89 : decode cX3_read 89 = .ok (.if_icmp .ge 8, 3) := by decide +kernel
theorem dX3_read_92 : decode cX3_read 92 = .ok (.aload_n 0, 1) := by decide +kernel
theorem dX3_read_93 : decode cX3_read 93 = .ok (.iconst 1, 1) := by decide +kernel
theorem dX3_read_94 : decode cX3_read 94 = .ok (.invokevirtual 59, 3) := by decide +kernel
theorem dX3_read_97 : decode cX3_read 97 = .ok (.aload_n 0, 1) := by decide +kernel
theorem dX3_read_98 : decode cX3_read 98 = .ok (.getfield 43, 3) := by decide +kernel
theorem dX3_read_101 : decode cX3_read 101 = .ok (.ifCond .ne 13, 3) := by decide +kernel
theorem dX3_read_104 : decode cX3_read 104 = .ok (.aload_n 0, 1) := by decide +kernel
theorem dX3_read_105 : decode cX3_read 105 = .ok (.getfield 15, 3) := by decide +kernel
theorem dX3_read_108 : decode cX3_read 108 = .ok (.getfield 63, 3) := by decide +kernel
theorem dX3_read_111 : decode cX3_read 111 = .ok (.goto 16, 3) := by decide +kernel
theorem dX3_read_114 : decode cX3_read 114 = .ok (.sipush (-1000), 3) := by decide +kernel
theorem dX3_read_117 : decode cX3_read 117 = .ok (.aload_n 0, 1) := by decide +kernel
theorem dX3_read_118 : decode cX3_read 118 = .ok (.getfield 43, 3) := by decide +kernel
theorem dX3_read_121 : decode cX3_read 121 = .ok (.imul, 1) := by decide +kernel
theorem dX3_read_122 : decode cX3_read 122 = .ok (.aload_n 0, 1) := by decide +kernel
theorem dX3_read_123 : decode cX3_read 123 = .ok (.getfield 28, 3) := by decide +kernel
theorem dX3_read_126 : decode cX3_read 126 = .ok (.isub, 1) := by decide +kernel
theorem dX3_read_127 : decode cX3_read 127 = .ok (.ireturn, 1) := by decide +kernel
theorem dX3_advance_0 : decode cX3_advance 0 = .ok (.aload_n 0, 1) := by decide +kernel
theorem dX3_advance_1 : decode cX3_advance 1 = .ok (.dup, 1) := by decide +kernel
theorem dX3_advance_2 : decode cX3_advance 2 = .ok (.getfield 28, 3) := by decide +kernel
theorem dX3_advance_5 : decode cX3_advance 5 = .ok (.iconst 1, 1) := by decide +kernel
theorem dX3_advance_6 : decode cX3_advance 6 = .ok (.iadd, 1) := by decide +kernel
theorem dX3_advance_7 : decode cX3_advance 7 = .ok (.putfield 28, 3) := by decide +kernel
theorem dX3_advance_10 : decode cX3_advance 10 = .ok (.aload_n 0, 1) := by decide +kernel
theorem dX3_advance_11 : decode cX3_advance 11 = .ok (.aload_n 0, 1) := by decide +kernel
theorem dX3_advance_12 : decode cX3_advance 12 = .ok (.getfield 28, 3) := by decide +kernel
theorem dX3_advance_15 : decode cX3_advance 15 = .ok (.aload_n 0, 1) := by decide +kernel
theorem dX3_advance_16 : decode cX3_advance 16 = .ok (.getfield 24, 3) := by decide +kernel
theorem dX3_advance_19 : decode cX3_advance 19 = .ok (.if_icmp .ge 17, 3) := by decide +kernel
theorem dX3_advance_22 : decode cX3_advance 22 = .ok (.aload_n 0, 1) := by decide +kernel
theorem dX3_advance_23 : decode cX3_advance 23 = .ok (.getfield 9, 3) := by decide +kernel
theorem dX3_advance_26 : decode cX3_advance 26 = .ok (.aload_n 0, 1) := by decide +kernel
theorem dX3_advance_27 : decode cX3_advance 27 = .ok (.getfield 28, 3) := by decide +kernel
theorem dX3_advance_30 : decode cX3_advance 30 = .ok (.invokevirtual 31, 3) := by decide +kernel
theorem dX3_advance_33 : decode cX3_advance 33 = .ok (.goto 4, 3) := by decide +kernel
theorem dX3_advance_36 : decode cX3_advance 36 = .ok (.iconst (-1), 1) := by decide +kernel
theorem dX3_advance_37 : decode cX3_advance 37 = .ok (.putfield 37, 3) := by decide +kernel
theorem dX3_advance_40 : decode cX3_advance 40 = .ok (.return_, 1) := by decide +kernel
theorem dX3_refuse_0 : decode cX3_refuse 0 = .ok (.aload_n 0, 1) := by decide +kernel
theorem dX3_refuse_1 : decode cX3_refuse 1 = .ok (.getfield 43, 3) := by decide +kernel
theorem dX3_refuse_4 : decode cX3_refuse 4 = .ok (.ifCond .ne 8, 3) := by decide +kernel
theorem dX3_refuse_7 : decode cX3_refuse 7 = .ok (.aload_n 0, 1) := by decide +kernel
theorem dX3_refuse_8 : decode cX3_refuse 8 = .ok (.iload_n 1, 1) := by decide +kernel
theorem dX3_refuse_9 : decode cX3_refuse 9 = .ok (.putfield 43, 3) := by decide +kernel
theorem dX3_refuse_12 : decode cX3_refuse 12 = .ok (.return_, 1) := by decide +kernel
theorem dX3_take_0 : decode cX3_take 0 = .ok (.aload_n 0, 1) := by decide +kernel
theorem dX3_take_1 : decode cX3_take 1 = .ok (.aload_n 1, 1) := by decide +kernel
theorem dX3_take_2 : decode cX3_take 2 = .ok (.invokevirtual 52, 3) := by decide +kernel
theorem dX3_take_5 : decode cX3_take 5 = .ok (.ifCond .eq 10, 3) := by decide +kernel
theorem dX3_take_8 : decode cX3_take 8 = .ok (.aload_n 0, 1) := by decide +kernel
theorem dX3_take_9 : decode cX3_take 9 = .ok (.invokevirtual 56, 3) := by decide +kernel
theorem dX3_take_12 : decode cX3_take 12 = .ok (.goto 8, 3) := by decide +kernel
theorem dX3_take_15 : decode cX3_take 15 = .ok (.aload_n 0, 1) := by decide +kernel
theorem dX3_take_16 : decode cX3_take 16 = .ok (.iconst 1, 1) := by decide +kernel
theorem dX3_take_17 : decode cX3_take 17 = .ok (.invokevirtual 59, 3) := by decide +kernel
theorem dX3_take_20 : decode cX3_take 20 = .ok (.return_, 1) := by decide +kernel
theorem dX3_isOneOf_0 : decode cX3_isOneOf 0 = .ok (.aload_n 0, 1) := by decide +kernel
theorem dX3_isOneOf_1 : decode cX3_isOneOf 1 = .ok (.getfield 43, 3) := by decide +kernel
theorem dX3_isOneOf_4 : decode cX3_isOneOf 4 = .ok (.ifCond .ne 26, 3) := by decide +kernel
theorem dX3_isOneOf_7 : decode cX3_isOneOf 7 = .ok (.aload_n 0, 1) := by decide +kernel
theorem dX3_isOneOf_8 : decode cX3_isOneOf 8 = .ok (.getfield 37, 3) := by decide +kernel
theorem dX3_isOneOf_11 : decode cX3_isOneOf 11 = .ok (.ifCond .lt 19, 3) := by decide +kernel
theorem dX3_isOneOf_14 : decode cX3_isOneOf 14 = .ok (.aload_n 1, 1) := by decide +kernel
theorem dX3_isOneOf_15 : decode cX3_isOneOf 15 = .ok (.aload_n 0, 1) := by decide +kernel
theorem dX3_isOneOf_16 : decode cX3_isOneOf 16 = .ok (.getfield 37, 3) := by decide +kernel
theorem dX3_isOneOf_19 : decode cX3_isOneOf 19 = .ok (.i2c, 1) := by decide +kernel
theorem dX3_isOneOf_20 : decode cX3_isOneOf 20 = .ok (.invokevirtual 66, 3) := by decide +kernel
theorem dX3_isOneOf_23 : decode cX3_isOneOf 23 = .ok (.ifCond .lt 7, 3) := by decide +kernel
theorem dX3_isOneOf_26 : decode cX3_isOneOf 26 = .ok (.iconst 1, 1) := by decide +kernel
theorem dX3_isOneOf_27 : decode cX3_isOneOf 27 = .ok (.goto 4, 3) := by decide +kernel
theorem dX3_isOneOf_30 : decode cX3_isOneOf 30 = .ok (.iconst 0, 1) := by decide +kernel
theorem dX3_isOneOf_31 : decode cX3_isOneOf 31 = .ok (.ireturn, 1) := by decide +kernel
theorem dX3_readClause_0 : decode cX3_readClause 0 = .ok (.aload_n 0, 1) := by decide +kernel
theorem dX3_readClause_1 : decode cX3_readClause 1 = .ok (.aload_n 1, 1) := by decide +kernel
theorem dX3_readClause_2 : decode cX3_readClause 2 = .ok (.invokevirtual 52, 3) := by decide +kernel
theorem dX3_readClause_5 : decode cX3_readClause 5 = .ok (.ifCond .ne 9, 3) := by decide +kernel
theorem dX3_readClause_8 : decode cX3_readClause 8 = .ok (.aload_n 0, 1) := by decide +kernel
theorem dX3_readClause_9 : decode cX3_readClause 9 = .ok (.iconst 1, 1) := by decide +kernel
theorem dX3_readClause_10 : decode cX3_readClause 10 = .ok (.invokevirtual 59, 3) := by decide +kernel
theorem dX3_readClause_13 : decode cX3_readClause 13 = .ok (.return_, 1) := by decide +kernel
theorem dX3_readClause_14 : decode cX3_readClause 14 = .ok (.aload_n 0, 1) := by decide +kernel
theorem dX3_readClause_15 : decode cX3_readClause 15 = .ok (.getfield 15, 3) := by decide +kernel
theorem dX3_readClause_18 : decode cX3_readClause 18 = .ok (.getfield 63, 3) := by decide +kernel
theorem dX3_readClause_21 : decode cX3_readClause 21 = .ok (.bipush 14, 2) := by decide +kernel
theorem dX3_readClause_23 : decode cX3_readClause 23 = .ok (.if_icmp .lt 9, 3) := by decide +kernel
theorem dX3_readClause_26 : decode cX3_readClause 26 = .ok (.aload_n 0, 1) := by decide +kernel
theorem dX3_readClause_27 : decode cX3_readClause 27 = .ok (.iconst 4, 1) := by decide +kernel
theorem dX3_readClause_28 : decode cX3_readClause 28 = .ok (.invokevirtual 59, 3) := by decide +kernel
theorem dX3_readClause_31 : decode cX3_readClause 31 = .ok (.return_, 1) := by decide +kernel
theorem dX3_readClause_32 : decode cX3_readClause 32 = .ok (.aload_n 0, 1) := by decide +kernel
theorem dX3_readClause_33 : decode cX3_readClause 33 = .ok (.getfield 15, 3) := by decide +kernel
theorem dX3_readClause_36 : decode cX3_readClause 36 = .ok (.aload_n 0, 1) := by decide +kernel
theorem dX3_readClause_37 : decode cX3_readClause 37 = .ok (.getfield 37, 3) := by decide +kernel
theorem dX3_readClause_40 : decode cX3_readClause 40 = .ok (.invokevirtual 71, 3) := by decide +kernel
theorem dX3_readClause_43 : decode cX3_readClause 43 = .ok (.aload_n 0, 1) := by decide +kernel
theorem dX3_readClause_44 : decode cX3_readClause 44 = .ok (.invokevirtual 56, 3) := by decide +kernel
theorem dX3_readClause_47 : decode cX3_readClause 47 = .ok (.aload_n 0, 1) := by decide +kernel
theorem dX3_readClause_48 : decode cX3_readClause 48 = .ok (.invokevirtual 74, 3) := by decide +kernel
theorem dX3_readClause_51 : decode cX3_readClause 51 = .ok (.aload_n 0, 1) := by decide +kernel
theorem dX3_readClause_52 : decode cX3_readClause 52 = .ok (.getfield 15, 3) := by decide +kernel
theorem dX3_readClause_55 : decode cX3_readClause 55 = .ok (.iconst 0, 1) := by decide +kernel
theorem dX3_readClause_56 : decode cX3_readClause 56 = .ok (.iconst 0, 1) := by decide +kernel
theorem dX3_readClause_57 : decode cX3_readClause 57 = .ok (.invokevirtual 77, 3) := by decide +kernel
theorem dX3_readClause_60 : decode cX3_readClause 60 = .ok (.pop, 1) := by decide +kernel
theorem dX3_readClause_61 : decode cX3_readClause 61 = .ok (.aload_n 0, 1) := by decide +kernel
theorem dX3_readClause_62 : decode cX3_readClause 62 = .ok (.getfield 15, 3) := by decide +kernel
theorem dX3_readClause_65 : decode cX3_readClause 65 = .ok (.invokevirtual 81, 3) := by decide +kernel
theorem dX3_readClause_68 : decode cX3_readClause 68 = .ok (.aload_n 0, 1) := by decide +kernel
theorem dX3_readClause_69 : decode cX3_readClause 69 = .ok (.ldc 84, 2) := by decide +kernel
theorem dX3_readClause_71 : decode cX3_readClause 71 = .ok (.invokevirtual 86, 3) := by decide +kernel
theorem dX3_readClause_74 : decode cX3_readClause 74 = .ok (.aload_n 0, 1) := by decide +kernel
theorem dX3_readClause_75 : decode cX3_readClause 75 = .ok (.dup, 1) := by decide +kernel
theorem dX3_readClause_76 : decode cX3_readClause 76 = .ok (.getfield 40, 3) := by decide +kernel
theorem dX3_readClause_79 : decode cX3_readClause 79 = .ok (.iconst 1, 1) := by decide +kernel
theorem dX3_readClause_80 : decode cX3_readClause 80 = .ok (.iadd, 1) := by decide +kernel
theorem dX3_readClause_81 : decode cX3_readClause 81 = .ok (.putfield 40, 3) := by decide +kernel
theorem dX3_readClause_84 : decode cX3_readClause 84 = .ok (.aload_n 0, 1) := by decide +kernel
theorem dX3_readClause_85 : decode cX3_readClause 85 = .ok (.invokevirtual 89, 3) := by decide +kernel
theorem dX3_readClause_88 : decode cX3_readClause 88 = .ok (.aload_n 0, 1) := by decide +kernel
theorem dX3_readClause_89 : decode cX3_readClause 89 = .ok (.dup, 1) := by decide +kernel
theorem dX3_readClause_90 : decode cX3_readClause 90 = .ok (.getfield 40, 3) := by decide +kernel
theorem dX3_readClause_93 : decode cX3_readClause 93 = .ok (.iconst 1, 1) := by decide +kernel
theorem dX3_readClause_94 : decode cX3_readClause 94 = .ok (.isub, 1) := by decide +kernel
theorem dX3_readClause_95 : decode cX3_readClause 95 = .ok (.putfield 40, 3) := by decide +kernel
theorem dX3_readClause_98 : decode cX3_readClause 98 = .ok (.aload_n 0, 1) := by decide +kernel
theorem dX3_readClause_99 : decode cX3_readClause 99 = .ok (.ldc 92, 2) := by decide +kernel
theorem dX3_readClause_101 : decode cX3_readClause 101 = .ok (.invokevirtual 86, 3) := by decide +kernel
theorem dX3_readClause_104 : decode cX3_readClause 104 = .ok (.aload_n 0, 1) := by decide +kernel
theorem dX3_readClause_105 : decode cX3_readClause 105 = .ok (.getfield 15, 3) := by decide +kernel
theorem dX3_readClause_108 : decode cX3_readClause 108 = .ok (.iconst 0, 1) := by decide +kernel
theorem dX3_readClause_109 : decode cX3_readClause 109 = .ok (.iconst 0, 1) := by decide +kernel
theorem dX3_readClause_110 : decode cX3_readClause 110 = .ok (.invokevirtual 77, 3) := by decide +kernel
theorem dX3_readClause_113 : decode cX3_readClause 113 = .ok (.pop, 1) := by decide +kernel
theorem dX3_readClause_114 : decode cX3_readClause 114 = .ok (.return_, 1) := by decide +kernel
theorem dX3_opens_0 : decode cX3_opens 0 = .ok (.aload_n 0, 1) := by decide +kernel
theorem dX3_opens_1 : decode cX3_opens 1 = .ok (.getfield 40, 3) := by decide +kernel
theorem dX3_opens_4 : decode cX3_opens 4 = .ok (.bipush 6, 2) := by decide +kernel
theorem dX3_opens_6 : decode cX3_opens 6 = .ok (.if_icmp .lt 10, 3) := by decide +kernel
theorem dX3_opens_9 : decode cX3_opens 9 = .ok (.aload_n 0, 1) := by decide +kernel
theorem dX3_opens_10 : decode cX3_opens 10 = .ok (.iconst 5, 1) := by decide +kernel
theorem dX3_opens_11 : decode cX3_opens 11 = .ok (.invokevirtual 59, 3) := by decide +kernel
theorem dX3_opens_14 : decode cX3_opens 14 = .ok (.iconst 0, 1) := by decide +kernel
theorem dX3_opens_15 : decode cX3_opens 15 = .ok (.ireturn, 1) := by decide +kernel
theorem dX3_opens_16 : decode cX3_opens 16 = .ok (.aload_n 0, 1) := by decide +kernel
theorem dX3_opens_17 : decode cX3_opens 17 = .ok (.dup, 1) := by decide +kernel
theorem dX3_opens_18 : decode cX3_opens 18 = .ok (.getfield 40, 3) := by decide +kernel
theorem dX3_opens_21 : decode cX3_opens 21 = .ok (.iconst 1, 1) := by decide +kernel
theorem dX3_opens_22 : decode cX3_opens 22 = .ok (.iadd, 1) := by decide +kernel
theorem dX3_opens_23 : decode cX3_opens 23 = .ok (.putfield 40, 3) := by decide +kernel
theorem dX3_opens_26 : decode cX3_opens 26 = .ok (.aload_n 0, 1) := by decide +kernel
theorem dX3_opens_27 : decode cX3_opens 27 = .ok (.invokevirtual 56, 3) := by decide +kernel
theorem dX3_opens_30 : decode cX3_opens 30 = .ok (.iconst 1, 1) := by decide +kernel
theorem dX3_opens_31 : decode cX3_opens 31 = .ok (.ireturn, 1) := by decide +kernel
theorem dX3_readAny_0 : decode cX3_readAny 0 = .ok (.aload_n 0, 1) := by decide +kernel
theorem dX3_readAny_1 : decode cX3_readAny 1 = .ok (.invokevirtual 94, 3) := by decide +kernel
theorem dX3_readAny_4 : decode cX3_readAny 4 = .ok (.aload_n 0, 1) := by decide +kernel
theorem dX3_readAny_5 : decode cX3_readAny 5 = .ok (.getfield 28, 3) := by decide +kernel
theorem dX3_readAny_8 : decode cX3_readAny 8 = .ok (.aload_n 0, 1) := by decide +kernel
theorem dX3_readAny_9 : decode cX3_readAny 9 = .ok (.getfield 24, 3) := by decide +kernel
theorem dX3_readAny_12 : decode cX3_readAny 12 = .ok (.if_icmp .ge 42, 3) := by decide +kernel
theorem dX3_readAny_15 : decode cX3_readAny 15 = .ok (.aload_n 0, 1) := by decide +kernel
theorem dX3_readAny_16 : decode cX3_readAny 16 = .ok (.ldc 97, 2) := by decide +kernel
theorem dX3_readAny_18 : decode cX3_readAny 18 = .ok (.invokevirtual 52, 3) := by decide +kernel
theorem dX3_readAny_21 : decode cX3_readAny 21 = .ok (.ifCond .eq 33, 3) := by decide +kernel
theorem dX3_readAny_24 : decode cX3_readAny 24 = .ok (.aload_n 0, 1) := by decide +kernel
theorem dX3_readAny_25 : decode cX3_readAny 25 = .ok (.invokevirtual 56, 3) := by decide +kernel
theorem dX3_readAny_28 : decode cX3_readAny 28 = .ok (.aload_n 0, 1) := by decide +kernel
theorem dX3_readAny_29 : decode cX3_readAny 29 = .ok (.getfield 15, 3) := by decide +kernel
theorem dX3_readAny_32 : decode cX3_readAny 32 = .ok (.bipush 13, 2) := by decide +kernel
theorem dX3_readAny_34 : decode cX3_readAny 34 = .ok (.iconst 0, 1) := by decide +kernel
theorem dX3_readAny_35 : decode cX3_readAny 35 = .ok (.invokevirtual 77, 3) := by decide +kernel
theorem dX3_readAny_38 : decode cX3_readAny 38 = .ok (.istore_n 1, 1) := by decide +kernel
theorem dX3_readAny_39 : decode cX3_readAny 39 = .ok (.aload_n 0, 1) := by decide +kernel
theorem dX3_readAny_40 : decode cX3_readAny 40 = .ok (.invokevirtual 94, 3) := by decide +kernel
theorem dX3_readAny_43 : decode cX3_readAny 43 = .ok (.aload_n 0, 1) := by decide +kernel
theorem dX3_readAny_44 : decode cX3_readAny 44 = .ok (.getfield 15, 3) := by decide +kernel
theorem dX3_readAny_47 : decode cX3_readAny 47 = .ok (.iload_n 1, 1) := by decide +kernel
theorem dX3_readAny_48 : decode cX3_readAny 48 = .ok (.invokevirtual 99, 3) := by decide +kernel
theorem dX3_readAny_51 : decode cX3_readAny 51 = .ok (.goto (-47), 3) := by decide +kernel
theorem dX3_readAny_54 : decode cX3_readAny 54 = .ok (.return_, 1) := by decide +kernel
theorem dX3_readAll_0 : decode cX3_readAll 0 = .ok (.aload_n 0, 1) := by decide +kernel
theorem dX3_readAll_1 : decode cX3_readAll 1 = .ok (.invokevirtual 102, 3) := by decide +kernel
theorem dX3_readAll_4 : decode cX3_readAll 4 = .ok (.aload_n 0, 1) := by decide +kernel
theorem dX3_readAll_5 : decode cX3_readAll 5 = .ok (.getfield 28, 3) := by decide +kernel
theorem dX3_readAll_8 : decode cX3_readAll 8 = .ok (.aload_n 0, 1) := by decide +kernel
theorem dX3_readAll_9 : decode cX3_readAll 9 = .ok (.getfield 24, 3) := by decide +kernel
theorem dX3_readAll_12 : decode cX3_readAll 12 = .ok (.if_icmp .ge 42, 3) := by decide +kernel
theorem dX3_readAll_15 : decode cX3_readAll 15 = .ok (.aload_n 0, 1) := by decide +kernel
theorem dX3_readAll_16 : decode cX3_readAll 16 = .ok (.ldc 105, 2) := by decide +kernel
theorem dX3_readAll_18 : decode cX3_readAll 18 = .ok (.invokevirtual 52, 3) := by decide +kernel
theorem dX3_readAll_21 : decode cX3_readAll 21 = .ok (.ifCond .eq 33, 3) := by decide +kernel
theorem dX3_readAll_24 : decode cX3_readAll 24 = .ok (.aload_n 0, 1) := by decide +kernel
theorem dX3_readAll_25 : decode cX3_readAll 25 = .ok (.invokevirtual 56, 3) := by decide +kernel
theorem dX3_readAll_28 : decode cX3_readAll 28 = .ok (.aload_n 0, 1) := by decide +kernel
theorem dX3_readAll_29 : decode cX3_readAll 29 = .ok (.getfield 15, 3) := by decide +kernel
theorem dX3_readAll_32 : decode cX3_readAll 32 = .ok (.bipush 12, 2) := by decide +kernel
theorem dX3_readAll_34 : decode cX3_readAll 34 = .ok (.iconst 0, 1) := by decide +kernel
theorem dX3_readAll_35 : decode cX3_readAll 35 = .ok (.invokevirtual 77, 3) := by decide +kernel
theorem dX3_readAll_38 : decode cX3_readAll 38 = .ok (.istore_n 1, 1) := by decide +kernel
theorem dX3_readAll_39 : decode cX3_readAll 39 = .ok (.aload_n 0, 1) := by decide +kernel
theorem dX3_readAll_40 : decode cX3_readAll 40 = .ok (.invokevirtual 102, 3) := by decide +kernel
theorem dX3_readAll_43 : decode cX3_readAll 43 = .ok (.aload_n 0, 1) := by decide +kernel
theorem dX3_readAll_44 : decode cX3_readAll 44 = .ok (.getfield 15, 3) := by decide +kernel
theorem dX3_readAll_47 : decode cX3_readAll 47 = .ok (.iload_n 1, 1) := by decide +kernel
theorem dX3_readAll_48 : decode cX3_readAll 48 = .ok (.invokevirtual 99, 3) := by decide +kernel
theorem dX3_readAll_51 : decode cX3_readAll 51 = .ok (.goto (-47), 3) := by decide +kernel
theorem dX3_readAll_54 : decode cX3_readAll 54 = .ok (.return_, 1) := by decide +kernel
theorem dX3_readPiece_0 : decode cX3_readPiece 0 = .ok (.aload_n 0, 1) := by decide +kernel
theorem dX3_readPiece_1 : decode cX3_readPiece 1 = .ok (.ldc 107, 2) := by decide +kernel
theorem dX3_readPiece_3 : decode cX3_readPiece 3 = .ok (.invokevirtual 52, 3) := by decide +kernel
theorem dX3_readPiece_6 : decode cX3_readPiece 6 = .ok (.ifCond .eq 38, 3) := by decide +kernel
theorem dX3_readPiece_9 : decode cX3_readPiece 9 = .ok (.aload_n 0, 1) := by decide +kernel
theorem dX3_readPiece_10 : decode cX3_readPiece 10 = .ok (.invokevirtual 109, 3) := by decide +kernel
theorem dX3_readPiece_13 : decode cX3_readPiece 13 = .ok (.ifCond .eq 125, 3) := by decide +kernel
theorem dX3_readPiece_16 : decode cX3_readPiece 16 = .ok (.aload_n 0, 1) := by decide +kernel
theorem dX3_readPiece_17 : decode cX3_readPiece 17 = .ok (.invokevirtual 102, 3) := by decide +kernel
theorem dX3_readPiece_20 : decode cX3_readPiece 20 = .ok (.aload_n 0, 1) := by decide +kernel
theorem dX3_readPiece_21 : decode cX3_readPiece 21 = .ok (.dup, 1) := by decide +kernel
theorem dX3_readPiece_22 : decode cX3_readPiece 22 = .ok (.getfield 40, 3) := by decide +kernel
theorem dX3_readPiece_25 : decode cX3_readPiece 25 = .ok (.iconst 1, 1) := by decide +kernel
theorem dX3_readPiece_26 : decode cX3_readPiece 26 = .ok (.isub, 1) := by decide +kernel
theorem dX3_readPiece_27 : decode cX3_readPiece 27 = .ok (.putfield 40, 3) := by decide +kernel
theorem dX3_readPiece_30 : decode cX3_readPiece 30 = .ok (.aload_n 0, 1) := by decide +kernel
theorem dX3_readPiece_31 : decode cX3_readPiece 31 = .ok (.getfield 15, 3) := by decide +kernel
theorem dX3_readPiece_34 : decode cX3_readPiece 34 = .ok (.bipush 11, 2) := by decide +kernel
theorem dX3_readPiece_36 : decode cX3_readPiece 36 = .ok (.iconst 0, 1) := by decide +kernel
theorem dX3_readPiece_37 : decode cX3_readPiece 37 = .ok (.invokevirtual 77, 3) := by decide +kernel
theorem dX3_readPiece_40 : decode cX3_readPiece 40 = .ok (.pop, 1) := by decide +kernel
theorem dX3_readPiece_41 : decode cX3_readPiece 41 = .ok (.goto 97, 3) := by decide +kernel
theorem dX3_readPiece_44 : decode cX3_readPiece 44 = .ok (.aload_n 0, 1) := by decide +kernel
theorem dX3_readPiece_45 : decode cX3_readPiece 45 = .ok (.ldc 84, 2) := by decide +kernel
theorem dX3_readPiece_47 : decode cX3_readPiece 47 = .ok (.invokevirtual 52, 3) := by decide +kernel
theorem dX3_readPiece_50 : decode cX3_readPiece 50 = .ok (.ifCond .eq 33, 3) := by decide +kernel
theorem dX3_readPiece_53 : decode cX3_readPiece 53 = .ok (.aload_n 0, 1) := by decide +kernel
theorem dX3_readPiece_54 : decode cX3_readPiece 54 = .ok (.invokevirtual 109, 3) := by decide +kernel
theorem dX3_readPiece_57 : decode cX3_readPiece 57 = .ok (.ifCond .eq 81, 3) := by decide +kernel
theorem dX3_readPiece_60 : decode cX3_readPiece 60 = .ok (.aload_n 0, 1) := by decide +kernel
theorem dX3_readPiece_61 : decode cX3_readPiece 61 = .ok (.invokevirtual 89, 3) := by decide +kernel
theorem dX3_readPiece_64 : decode cX3_readPiece 64 = .ok (.aload_n 0, 1) := by decide +kernel
theorem dX3_readPiece_65 : decode cX3_readPiece 65 = .ok (.dup, 1) := by decide +kernel
theorem dX3_readPiece_66 : decode cX3_readPiece 66 = .ok (.getfield 40, 3) := by decide +kernel
theorem dX3_readPiece_69 : decode cX3_readPiece 69 = .ok (.iconst 1, 1) := by decide +kernel
theorem dX3_readPiece_70 : decode cX3_readPiece 70 = .ok (.isub, 1) := by decide +kernel
theorem dX3_readPiece_71 : decode cX3_readPiece 71 = .ok (.putfield 40, 3) := by decide +kernel
theorem dX3_readPiece_74 : decode cX3_readPiece 74 = .ok (.aload_n 0, 1) := by decide +kernel
theorem dX3_readPiece_75 : decode cX3_readPiece 75 = .ok (.ldc 92, 2) := by decide +kernel
theorem dX3_readPiece_77 : decode cX3_readPiece 77 = .ok (.invokevirtual 86, 3) := by decide +kernel
theorem dX3_readPiece_80 : decode cX3_readPiece 80 = .ok (.goto 58, 3) := by decide +kernel
theorem dX3_readPiece_83 : decode cX3_readPiece 83 = .ok (.aload_n 0, 1) := by decide +kernel
theorem dX3_readPiece_84 : decode cX3_readPiece 84 = .ok (.invokevirtual 74, 3) := by decide +kernel
theorem dX3_readPiece_87 : decode cX3_readPiece 87 = .ok (.aload_n 0, 1) := by decide +kernel
theorem dX3_readPiece_88 : decode cX3_readPiece 88 = .ok (.getfield 37, 3) := by decide +kernel
theorem dX3_readPiece_91 : decode cX3_readPiece 91 = .ok (.bipush 60, 2) := by decide +kernel
theorem dX3_readPiece_93 : decode cX3_readPiece 93 = .ok (.if_icmp .ne 8, 3) := by decide +kernel
theorem dX3_readPiece_96 : decode cX3_readPiece 96 = .ok (.bipush 8, 2) := by decide +kernel
theorem dX3_readPiece_98 : decode cX3_readPiece 98 = .ok (.goto 19, 3) := by decide +kernel
theorem dX3_readPiece_101 : decode cX3_readPiece 101 = .ok (.aload_n 0, 1) := by decide +kernel
theorem dX3_readPiece_102 : decode cX3_readPiece 102 = .ok (.getfield 37, 3) := by decide +kernel
theorem dX3_readPiece_105 : decode cX3_readPiece 105 = .ok (.bipush 62, 2) := by decide +kernel
theorem dX3_readPiece_107 : decode cX3_readPiece 107 = .ok (.if_icmp .ne 8, 3) := by decide +kernel
theorem dX3_readPiece_110 : decode cX3_readPiece 110 = .ok (.bipush 9, 2) := by decide +kernel
theorem dX3_readPiece_112 : decode cX3_readPiece 112 = .ok (.goto 5, 3) := by decide +kernel
theorem dX3_readPiece_115 : decode cX3_readPiece 115 = .ok (.bipush 10, 2) := by decide +kernel
theorem dX3_readPiece_117 : decode cX3_readPiece 117 = .ok (.istore_n 1, 1) := by decide +kernel
theorem dX3_readPiece_118 : decode cX3_readPiece 118 = .ok (.aload_n 0, 1) := by decide +kernel
theorem dX3_readPiece_119 : decode cX3_readPiece 119 = .ok (.ldc 113, 2) := by decide +kernel
theorem dX3_readPiece_121 : decode cX3_readPiece 121 = .ok (.invokevirtual 86, 3) := by decide +kernel
theorem dX3_readPiece_124 : decode cX3_readPiece 124 = .ok (.aload_n 0, 1) := by decide +kernel
theorem dX3_readPiece_125 : decode cX3_readPiece 125 = .ok (.invokevirtual 74, 3) := by decide +kernel
theorem dX3_readPiece_128 : decode cX3_readPiece 128 = .ok (.aload_n 0, 1) := by decide +kernel
theorem dX3_readPiece_129 : decode cX3_readPiece 129 = .ok (.getfield 15, 3) := by decide +kernel
theorem dX3_readPiece_132 : decode cX3_readPiece 132 = .ok (.iload_n 1, 1) := by decide +kernel
theorem dX3_readPiece_133 : decode cX3_readPiece 133 = .ok (.iconst 0, 1) := by decide +kernel
theorem dX3_readPiece_134 : decode cX3_readPiece 134 = .ok (.invokevirtual 77, 3) := by decide +kernel
theorem dX3_readPiece_137 : decode cX3_readPiece 137 = .ok (.pop, 1) := by decide +kernel
theorem dX3_readPiece_138 : decode cX3_readPiece 138 = .ok (.return_, 1) := by decide +kernel
theorem dX3_readSum_0 : decode cX3_readSum 0 = .ok (.aload_n 0, 1) := by decide +kernel
theorem dX3_readSum_1 : decode cX3_readSum 1 = .ok (.invokevirtual 115, 3) := by decide +kernel
theorem dX3_readSum_4 : decode cX3_readSum 4 = .ok (.aload_n 0, 1) := by decide +kernel
theorem dX3_readSum_5 : decode cX3_readSum 5 = .ok (.getfield 28, 3) := by decide +kernel
theorem dX3_readSum_8 : decode cX3_readSum 8 = .ok (.aload_n 0, 1) := by decide +kernel
theorem dX3_readSum_9 : decode cX3_readSum 9 = .ok (.getfield 24, 3) := by decide +kernel
theorem dX3_readSum_12 : decode cX3_readSum 12 = .ok (.if_icmp .ge 48, 3) := by decide +kernel
theorem dX3_readSum_15 : decode cX3_readSum 15 = .ok (.aload_n 0, 1) := by decide +kernel
theorem dX3_readSum_16 : decode cX3_readSum 16 = .ok (.ldc 118, 2) := by decide +kernel
theorem dX3_readSum_18 : decode cX3_readSum 18 = .ok (.invokevirtual 52, 3) := by decide +kernel
theorem dX3_readSum_21 : decode cX3_readSum 21 = .ok (.ifCond .eq 39, 3) := by decide +kernel
theorem dX3_readSum_24 : decode cX3_readSum 24 = .ok (.aload_n 0, 1) := by decide +kernel
theorem dX3_readSum_25 : decode cX3_readSum 25 = .ok (.getfield 37, 3) := by decide +kernel
theorem dX3_readSum_28 : decode cX3_readSum 28 = .ok (.bipush 43, 2) := by decide +kernel
theorem dX3_readSum_30 : decode cX3_readSum 30 = .ok (.if_icmp .ne 7, 3) := by decide +kernel
theorem dX3_readSum_33 : decode cX3_readSum 33 = .ok (.iconst 3, 1) := by decide +kernel
theorem dX3_readSum_34 : decode cX3_readSum 34 = .ok (.goto 4, 3) := by decide +kernel
theorem dX3_readSum_37 : decode cX3_readSum 37 = .ok (.iconst 4, 1) := by decide +kernel
theorem dX3_readSum_38 : decode cX3_readSum 38 = .ok (.istore_n 1, 1) := by decide +kernel
theorem dX3_readSum_39 : decode cX3_readSum 39 = .ok (.aload_n 0, 1) := by decide +kernel
theorem dX3_readSum_40 : decode cX3_readSum 40 = .ok (.invokevirtual 56, 3) := by decide +kernel
theorem dX3_readSum_43 : decode cX3_readSum 43 = .ok (.aload_n 0, 1) := by decide +kernel
theorem dX3_readSum_44 : decode cX3_readSum 44 = .ok (.invokevirtual 115, 3) := by decide +kernel
theorem dX3_readSum_47 : decode cX3_readSum 47 = .ok (.aload_n 0, 1) := by decide +kernel
theorem dX3_readSum_48 : decode cX3_readSum 48 = .ok (.getfield 15, 3) := by decide +kernel
theorem dX3_readSum_51 : decode cX3_readSum 51 = .ok (.iload_n 1, 1) := by decide +kernel
theorem dX3_readSum_52 : decode cX3_readSum 52 = .ok (.iconst 0, 1) := by decide +kernel
theorem dX3_readSum_53 : decode cX3_readSum 53 = .ok (.invokevirtual 77, 3) := by decide +kernel
theorem dX3_readSum_56 : decode cX3_readSum 56 = .ok (.pop, 1) := by decide +kernel
theorem dX3_readSum_57 : decode cX3_readSum 57 = .ok (.goto (-53), 3) := by decide +kernel
theorem dX3_readSum_60 : decode cX3_readSum 60 = .ok (.return_, 1) := by decide +kernel
theorem dX3_readProduct_0 : decode cX3_readProduct 0 = .ok (.aload_n 0, 1) := by decide +kernel
theorem dX3_readProduct_1 : decode cX3_readProduct 1 = .ok (.invokevirtual 120, 3) := by decide +kernel
theorem dX3_readProduct_4 : decode cX3_readProduct 4 = .ok (.aload_n 0, 1) := by decide +kernel
theorem dX3_readProduct_5 : decode cX3_readProduct 5 = .ok (.getfield 28, 3) := by decide +kernel
theorem dX3_readProduct_8 : decode cX3_readProduct 8 = .ok (.aload_n 0, 1) := by decide +kernel
theorem dX3_readProduct_9 : decode cX3_readProduct 9 = .ok (.getfield 24, 3) := by decide +kernel
theorem dX3_readProduct_12 : decode cX3_readProduct 12 = .ok (.if_icmp .ge 63, 3) := by decide +kernel
theorem dX3_readProduct_15 : decode cX3_readProduct 15 = .ok (.aload_n 0, 1) := by decide +kernel
theorem dX3_readProduct_16 : decode cX3_readProduct 16 = .ok (.ldc 123, 2) := by decide +kernel
theorem dX3_readProduct_18 : decode cX3_readProduct 18 = .ok (.invokevirtual 52, 3) := by decide +kernel
theorem dX3_readProduct_21 : decode cX3_readProduct 21 = .ok (.ifCond .eq 54, 3) := by decide +kernel
theorem dX3_readProduct_24 : decode cX3_readProduct 24 = .ok (.aload_n 0, 1) := by decide +kernel
theorem dX3_readProduct_25 : decode cX3_readProduct 25 = .ok (.getfield 37, 3) := by decide +kernel
theorem dX3_readProduct_28 : decode cX3_readProduct 28 = .ok (.bipush 42, 2) := by decide +kernel
theorem dX3_readProduct_30 : decode cX3_readProduct 30 = .ok (.if_icmp .ne 7, 3) := by decide +kernel
theorem dX3_readProduct_33 : decode cX3_readProduct 33 = .ok (.iconst 5, 1) := by decide +kernel
theorem dX3_readProduct_34 : decode cX3_readProduct 34 = .ok (.goto 19, 3) := by decide +kernel
theorem dX3_readProduct_37 : decode cX3_readProduct 37 = .ok (.aload_n 0, 1) := by decide +kernel
theorem dX3_readProduct_38 : decode cX3_readProduct 38 = .ok (.getfield 37, 3) := by decide +kernel
theorem dX3_readProduct_41 : decode cX3_readProduct 41 = .ok (.bipush 47, 2) := by decide +kernel
theorem dX3_readProduct_43 : decode cX3_readProduct 43 = .ok (.if_icmp .ne 8, 3) := by decide +kernel
theorem dX3_readProduct_46 : decode cX3_readProduct 46 = .ok (.bipush 6, 2) := by decide +kernel
theorem dX3_readProduct_48 : decode cX3_readProduct 48 = .ok (.goto 5, 3) := by decide +kernel
theorem dX3_readProduct_51 : decode cX3_readProduct 51 = .ok (.bipush 7, 2) := by decide +kernel
theorem dX3_readProduct_53 : decode cX3_readProduct 53 = .ok (.istore_n 1, 1) := by decide +kernel
theorem dX3_readProduct_54 : decode cX3_readProduct 54 = .ok (.aload_n 0, 1) := by decide +kernel
theorem dX3_readProduct_55 : decode cX3_readProduct 55 = .ok (.invokevirtual 56, 3) := by decide +kernel
theorem dX3_readProduct_58 : decode cX3_readProduct 58 = .ok (.aload_n 0, 1) := by decide +kernel
theorem dX3_readProduct_59 : decode cX3_readProduct 59 = .ok (.invokevirtual 120, 3) := by decide +kernel
theorem dX3_readProduct_62 : decode cX3_readProduct 62 = .ok (.aload_n 0, 1) := by decide +kernel
theorem dX3_readProduct_63 : decode cX3_readProduct 63 = .ok (.getfield 15, 3) := by decide +kernel
theorem dX3_readProduct_66 : decode cX3_readProduct 66 = .ok (.iload_n 1, 1) := by decide +kernel
theorem dX3_readProduct_67 : decode cX3_readProduct 67 = .ok (.iconst 0, 1) := by decide +kernel
theorem dX3_readProduct_68 : decode cX3_readProduct 68 = .ok (.invokevirtual 77, 3) := by decide +kernel
theorem dX3_readProduct_71 : decode cX3_readProduct 71 = .ok (.pop, 1) := by decide +kernel
theorem dX3_readProduct_72 : decode cX3_readProduct 72 = .ok (.goto (-68), 3) := by decide +kernel
theorem dX3_readProduct_75 : decode cX3_readProduct 75 = .ok (.return_, 1) := by decide +kernel
theorem dX3_readFactor_0 : decode cX3_readFactor 0 = .ok (.aload_n 0, 1) := by decide +kernel
theorem dX3_readFactor_1 : decode cX3_readFactor 1 = .ok (.ldc 125, 2) := by decide +kernel
theorem dX3_readFactor_3 : decode cX3_readFactor 3 = .ok (.invokevirtual 52, 3) := by decide +kernel
theorem dX3_readFactor_6 : decode cX3_readFactor 6 = .ok (.ifCond .eq 33, 3) := by decide +kernel
theorem dX3_readFactor_9 : decode cX3_readFactor 9 = .ok (.aload_n 0, 1) := by decide +kernel
theorem dX3_readFactor_10 : decode cX3_readFactor 10 = .ok (.invokevirtual 109, 3) := by decide +kernel
theorem dX3_readFactor_13 : decode cX3_readFactor 13 = .ok (.ifCond .eq 79, 3) := by decide +kernel
theorem dX3_readFactor_16 : decode cX3_readFactor 16 = .ok (.aload_n 0, 1) := by decide +kernel
theorem dX3_readFactor_17 : decode cX3_readFactor 17 = .ok (.invokevirtual 74, 3) := by decide +kernel
theorem dX3_readFactor_20 : decode cX3_readFactor 20 = .ok (.aload_n 0, 1) := by decide +kernel
theorem dX3_readFactor_21 : decode cX3_readFactor 21 = .ok (.dup, 1) := by decide +kernel
theorem dX3_readFactor_22 : decode cX3_readFactor 22 = .ok (.getfield 40, 3) := by decide +kernel
theorem dX3_readFactor_25 : decode cX3_readFactor 25 = .ok (.iconst 1, 1) := by decide +kernel
theorem dX3_readFactor_26 : decode cX3_readFactor 26 = .ok (.isub, 1) := by decide +kernel
theorem dX3_readFactor_27 : decode cX3_readFactor 27 = .ok (.putfield 40, 3) := by decide +kernel
theorem dX3_readFactor_30 : decode cX3_readFactor 30 = .ok (.aload_n 0, 1) := by decide +kernel
theorem dX3_readFactor_31 : decode cX3_readFactor 31 = .ok (.ldc 127, 2) := by decide +kernel
theorem dX3_readFactor_33 : decode cX3_readFactor 33 = .ok (.invokevirtual 86, 3) := by decide +kernel
theorem dX3_readFactor_36 : decode cX3_readFactor 36 = .ok (.goto 56, 3) := by decide +kernel
theorem dX3_readFactor_39 : decode cX3_readFactor 39 = .ok (.aload_n 0, 1) := by decide +kernel
theorem dX3_readFactor_40 : decode cX3_readFactor 40 = .ok (.ldc 129, 2) := by decide +kernel
theorem dX3_readFactor_42 : decode cX3_readFactor 42 = .ok (.invokevirtual 52, 3) := by decide +kernel
theorem dX3_readFactor_45 : decode cX3_readFactor 45 = .ok (.ifCond .eq 26, 3) := by decide +kernel
theorem dX3_readFactor_48 : decode cX3_readFactor 48 = .ok (.aload_n 0, 1) := by decide +kernel
theorem dX3_readFactor_49 : decode cX3_readFactor 49 = .ok (.getfield 15, 3) := by decide +kernel
theorem dX3_readFactor_52 : decode cX3_readFactor 52 = .ok (.iconst 2, 1) := by decide +kernel
theorem dX3_readFactor_53 : decode cX3_readFactor 53 = .ok (.aload_n 0, 1) := by decide +kernel
theorem dX3_readFactor_54 : decode cX3_readFactor 54 = .ok (.getfield 37, 3) := by decide +kernel
theorem dX3_readFactor_57 : decode cX3_readFactor 57 = .ok (.bipush 97, 2) := by decide +kernel
theorem dX3_readFactor_59 : decode cX3_readFactor 59 = .ok (.isub, 1) := by decide +kernel
theorem dX3_readFactor_60 : decode cX3_readFactor 60 = .ok (.invokevirtual 77, 3) := by decide +kernel
theorem dX3_readFactor_63 : decode cX3_readFactor 63 = .ok (.pop, 1) := by decide +kernel
theorem dX3_readFactor_64 : decode cX3_readFactor 64 = .ok (.aload_n 0, 1) := by decide +kernel
theorem dX3_readFactor_65 : decode cX3_readFactor 65 = .ok (.invokevirtual 56, 3) := by decide +kernel
theorem dX3_readFactor_68 : decode cX3_readFactor 68 = .ok (.goto 24, 3) := by decide +kernel
theorem dX3_readFactor_71 : decode cX3_readFactor 71 = .ok (.aload_n 0, 1) := by decide +kernel
theorem dX3_readFactor_72 : decode cX3_readFactor 72 = .ok (.ldc 131, 2) := by decide +kernel
theorem dX3_readFactor_74 : decode cX3_readFactor 74 = .ok (.invokevirtual 52, 3) := by decide +kernel
theorem dX3_readFactor_77 : decode cX3_readFactor 77 = .ok (.ifCond .eq 10, 3) := by decide +kernel
theorem dX3_readFactor_80 : decode cX3_readFactor 80 = .ok (.aload_n 0, 1) := by decide +kernel
theorem dX3_readFactor_81 : decode cX3_readFactor 81 = .ok (.invokevirtual 133, 3) := by decide +kernel
theorem dX3_readFactor_84 : decode cX3_readFactor 84 = .ok (.goto 8, 3) := by decide +kernel
theorem dX3_readFactor_87 : decode cX3_readFactor 87 = .ok (.aload_n 0, 1) := by decide +kernel
theorem dX3_readFactor_88 : decode cX3_readFactor 88 = .ok (.iconst 1, 1) := by decide +kernel
theorem dX3_readFactor_89 : decode cX3_readFactor 89 = .ok (.invokevirtual 59, 3) := by decide +kernel
theorem dX3_readFactor_92 : decode cX3_readFactor 92 = .ok (.return_, 1) := by decide +kernel
theorem dX3_readNumber_0 : decode cX3_readNumber 0 = .ok (.iconst 0, 1) := by decide +kernel
theorem dX3_readNumber_1 : decode cX3_readNumber 1 = .ok (.istore_n 1, 1) := by decide +kernel
theorem dX3_readNumber_2 : decode cX3_readNumber 2 = .ok (.iconst 0, 1) := by decide +kernel
theorem dX3_readNumber_3 : decode cX3_readNumber 3 = .ok (.istore_n 2, 1) := by decide +kernel
theorem dX3_readNumber_4 : decode cX3_readNumber 4 = .ok (.iload_n 2, 1) := by decide +kernel
theorem dX3_readNumber_5 : decode cX3_readNumber 5 = .ok (.iconst 5, 1) := by decide +kernel
theorem dX3_readNumber_6 : decode cX3_readNumber 6 = .ok (.if_icmp .ge 35, 3) := by decide +kernel
theorem dX3_readNumber_9 : decode cX3_readNumber 9 = .ok (.aload_n 0, 1) := by decide +kernel
theorem dX3_readNumber_10 : decode cX3_readNumber 10 = .ok (.ldc 131, 2) := by decide +kernel
theorem dX3_readNumber_12 : decode cX3_readNumber 12 = .ok (.invokevirtual 52, 3) := by decide +kernel
theorem dX3_readNumber_15 : decode cX3_readNumber 15 = .ok (.ifCond .eq 26, 3) := by decide +kernel
theorem dX3_readNumber_18 : decode cX3_readNumber 18 = .ok (.iload_n 1, 1) := by decide +kernel
theorem dX3_readNumber_19 : decode cX3_readNumber 19 = .ok (.bipush 10, 2) := by decide +kernel
theorem dX3_readNumber_21 : decode cX3_readNumber 21 = .ok (.imul, 1) := by decide +kernel
theorem dX3_readNumber_22 : decode cX3_readNumber 22 = .ok (.aload_n 0, 1) := by decide +kernel
theorem dX3_readNumber_23 : decode cX3_readNumber 23 = .ok (.getfield 37, 3) := by decide +kernel
theorem dX3_readNumber_26 : decode cX3_readNumber 26 = .ok (.iadd, 1) := by decide +kernel
theorem dX3_readNumber_27 : decode cX3_readNumber 27 = .ok (.bipush 48, 2) := by decide +kernel
theorem dX3_readNumber_29 : decode cX3_readNumber 29 = .ok (.isub, 1) := by decide +kernel
theorem dX3_readNumber_30 : decode cX3_readNumber 30 = .ok (.istore_n 1, 1) := by decide +kernel
theorem dX3_readNumber_31 : decode cX3_readNumber 31 = .ok (.aload_n 0, 1) := by decide +kernel
theorem dX3_readNumber_32 : decode cX3_readNumber 32 = .ok (.invokevirtual 56, 3) := by decide +kernel
theorem dX3_readNumber_35 : decode cX3_readNumber 35 = .ok (.iinc 2 1, 3) := by decide +kernel
theorem dX3_readNumber_38 : decode cX3_readNumber 38 = .ok (.goto (-34), 3) := by decide +kernel
theorem dX3_readNumber_41 : decode cX3_readNumber 41 = .ok (.aload_n 0, 1) := by decide +kernel
theorem dX3_readNumber_42 : decode cX3_readNumber 42 = .ok (.ldc 131, 2) := by decide +kernel
theorem dX3_readNumber_44 : decode cX3_readNumber 44 = .ok (.invokevirtual 52, 3) := by decide +kernel
theorem dX3_readNumber_47 : decode cX3_readNumber 47 = .ok (.ifCond .eq 8, 3) := by decide +kernel
theorem dX3_readNumber_50 : decode cX3_readNumber 50 = .ok (.aload_n 0, 1) := by decide +kernel
theorem dX3_readNumber_51 : decode cX3_readNumber 51 = .ok (.iconst 2, 1) := by decide +kernel
theorem dX3_readNumber_52 : decode cX3_readNumber 52 = .ok (.invokevirtual 59, 3) := by decide +kernel
theorem dX3_readNumber_55 : decode cX3_readNumber 55 = .ok (.aload_n 0, 1) := by decide +kernel
theorem dX3_readNumber_56 : decode cX3_readNumber 56 = .ok (.getfield 15, 3) := by decide +kernel
theorem dX3_readNumber_59 : decode cX3_readNumber 59 = .ok (.iconst 1, 1) := by decide +kernel
theorem dX3_readNumber_60 : decode cX3_readNumber 60 = .ok (.iload_n 1, 1) := by decide +kernel
theorem dX3_readNumber_61 : decode cX3_readNumber 61 = .ok (.invokevirtual 77, 3) := by decide +kernel
theorem dX3_readNumber_64 : decode cX3_readNumber 64 = .ok (.pop, 1) := by decide +kernel
theorem dX3_readNumber_65 : decode cX3_readNumber 65 = .ok (.return_, 1) := by decide +kernel
theorem dX4_init_0 : decode cX4_init 0 = .ok (.aload_n 0, 1) := by decide +kernel
theorem dX4_init_1 : decode cX4_init 1 = .ok (.invokespecial 3, 3) := by decide +kernel
theorem dX4_init_4 : decode cX4_init 4 = .ok (.aload_n 0, 1) := by decide +kernel
theorem dX4_init_5 : decode cX4_init 5 = .ok (.sipush 384, 3) := by decide +kernel
theorem dX4_init_8 : decode cX4_init 8 = .ok (.newarray .int, 2) := by decide +kernel
theorem dX4_init_10 : decode cX4_init 10 = .ok (.putfield 9, 3) := by decide +kernel
theorem dX4_init_13 : decode cX4_init 13 = .ok (.aload_n 0, 1) := by decide +kernel
theorem dX4_init_14 : decode cX4_init 14 = .ok (.sipush 384, 3) := by decide +kernel
theorem dX4_init_17 : decode cX4_init 17 = .ok (.newarray .int, 2) := by decide +kernel
theorem dX4_init_19 : decode cX4_init 19 = .ok (.putfield 15, 3) := by decide +kernel
theorem dX4_init_22 : decode cX4_init 22 = .ok (.aload_n 0, 1) := by decide +kernel
theorem dX4_init_23 : decode cX4_init 23 = .ok (.sipush 384, 3) := by decide +kernel
theorem dX4_init_26 : decode cX4_init 26 = .ok (.newarray .int, 2) := by decide +kernel
theorem dX4_init_28 : decode cX4_init 28 = .ok (.putfield 18, 3) := by decide +kernel
theorem dX4_init_31 : decode cX4_init 31 = .ok (.aload_n 0, 1) := by decide +kernel
theorem dX4_init_32 : decode cX4_init 32 = .ok (.sipush 384, 3) := by decide +kernel
theorem dX4_init_35 : decode cX4_init 35 = .ok (.newarray .boolean, 2) := by decide +kernel
theorem dX4_init_37 : decode cX4_init 37 = .ok (.putfield 21, 3) := by decide +kernel
theorem dX4_init_40 : decode cX4_init 40 = .ok (.aload_n 0, 1) := by decide +kernel
theorem dX4_init_41 : decode cX4_init 41 = .ok (.bipush 24, 2) := by decide +kernel
theorem dX4_init_43 : decode cX4_init 43 = .ok (.newarray .int, 2) := by decide +kernel
theorem dX4_init_45 : decode cX4_init 45 = .ok (.putfield 25, 3) := by decide +kernel
theorem dX4_init_48 : decode cX4_init 48 = .ok (.aload_n 0, 1) := by decide +kernel
theorem dX4_init_49 : decode cX4_init 49 = .ok (.bipush 8, 2) := by decide +kernel
theorem dX4_init_51 : decode cX4_init 51 = .ok (.newarray .int, 2) := by decide +kernel
theorem dX4_init_53 : decode cX4_init 53 = .ok (.putfield 28, 3) := by decide +kernel
theorem dX4_init_56 : decode cX4_init 56 = .ok (.aload_n 0, 1) := by decide +kernel
theorem dX4_init_57 : decode cX4_init 57 = .ok (.bipush 26, 2) := by decide +kernel
theorem dX4_init_59 : decode cX4_init 59 = .ok (.newarray .int, 2) := by decide +kernel
theorem dX4_init_61 : decode cX4_init 61 = .ok (.putfield 31, 3) := by decide +kernel
theorem dX4_init_64 : decode cX4_init 64 = .ok (.aload_n 0, 1) := by decide +kernel
theorem dX4_init_65 : decode cX4_init 65 = .ok (.iconst 1, 1) := by decide +kernel
theorem dX4_init_66 : decode cX4_init 66 = .ok (.putfield 34, 3) := by decide +kernel
theorem dX4_init_69 : decode cX4_init 69 = .ok (.return_, 1) := by decide +kernel
theorem dX4_stands_0 : decode cX4_stands 0 = .ok (.aload_n 0, 1) := by decide +kernel
theorem dX4_stands_1 : decode cX4_stands 1 = .ok (.getfield 38, 3) := by decide +kernel
theorem dX4_stands_4 : decode cX4_stands 4 = .ok (.ifCond .le 7, 3) := by decide +kernel
theorem dX4_stands_7 : decode cX4_stands 7 = .ok (.iconst 1, 1) := by decide +kernel
theorem dX4_stands_8 : decode cX4_stands 8 = .ok (.goto 4, 3) := by decide +kernel
theorem dX4_stands_11 : decode cX4_stands 11 = .ok (.iconst 0, 1) := by decide +kernel
theorem dX4_stands_12 : decode cX4_stands 12 = .ok (.ireturn, 1) := by decide +kernel
theorem dX4_rivetAt_0 : decode cX4_rivetAt 0 = .ok (.iload_n 1, 1) := by decide +kernel
theorem dX4_rivetAt_1 : decode cX4_rivetAt 1 = .ok (.iconst 0, 1) := by decide +kernel
theorem dX4_rivetAt_2 : decode cX4_rivetAt 2 = .ok (.aload_n 0, 1) := by decide +kernel
theorem dX4_rivetAt_3 : decode cX4_rivetAt 3 = .ok (.getfield 38, 3) := by decide +kernel
theorem dX4_rivetAt_6 : decode cX4_rivetAt 6 = .ok (.iconst 1, 1) := by decide +kernel
theorem dX4_rivetAt_7 : decode cX4_rivetAt 7 = .ok (.isub, 1) := by decide +kernel
theorem dX4_rivetAt_8 : decode cX4_rivetAt 8 = .ok (.invokestatic 41, 3) := by decide +kernel
theorem dX4_rivetAt_11 : decode cX4_rivetAt 11 = .ok (.ifCond .eq 26, 3) := by decide +kernel
theorem dX4_rivetAt_14 : decode cX4_rivetAt 14 = .ok (.iload_n 2, 1) := by decide +kernel
theorem dX4_rivetAt_15 : decode cX4_rivetAt 15 = .ok (.iconst 0, 1) := by decide +kernel
theorem dX4_rivetAt_16 : decode cX4_rivetAt 16 = .ok (.aload_n 0, 1) := by decide +kernel
theorem dX4_rivetAt_17 : decode cX4_rivetAt 17 = .ok (.getfield 45, 3) := by decide +kernel
theorem dX4_rivetAt_20 : decode cX4_rivetAt 20 = .ok (.iconst 1, 1) := by decide +kernel
theorem dX4_rivetAt_21 : decode cX4_rivetAt 21 = .ok (.isub, 1) := by decide +kernel
theorem dX4_rivetAt_22 : decode cX4_rivetAt 22 = .ok (.invokestatic 41, 3) := by decide +kernel
theorem dX4_rivetAt_25 : decode cX4_rivetAt 25 = .ok (.ifCond .eq 12, 3) := by decide +kernel
theorem dX4_rivetAt_28 : decode cX4_rivetAt 28 = .ok (.iload_n 3, 1) := by decide +kernel
theorem dX4_rivetAt_29 : decode cX4_rivetAt 29 = .ok (.iconst 0, 1) := by decide +kernel
theorem dX4_rivetAt_30 : decode cX4_rivetAt 30 = .ok (.iconst 1, 1) := by decide +kernel
theorem dX4_rivetAt_31 : decode cX4_rivetAt 31 = .ok (.invokestatic 41, 3) := by decide +kernel
theorem dX4_rivetAt_34 : decode cX4_rivetAt 34 = .ok (.ifCond .ne 5, 3) := by decide +kernel
theorem dX4_rivetAt_37 : decode cX4_rivetAt 37 = .ok (.iconst (-1), 1) := by decide +kernel
theorem dX4_rivetAt_38 : decode cX4_rivetAt 38 = .ok (.ireturn, 1) := by decide +kernel
theorem dX4_rivetAt_39 : decode cX4_rivetAt 39 = .ok (.iload_n 1, 1) := by decide +kernel
theorem dX4_rivetAt_40 : decode cX4_rivetAt 40 = .ok (.bipush 8, 2) := by decide +kernel
theorem dX4_rivetAt_42 : decode cX4_rivetAt 42 = .ok (.imul, 1) := by decide +kernel
theorem dX4_rivetAt_43 : decode cX4_rivetAt 43 = .ok (.iload_n 2, 1) := by decide +kernel
theorem dX4_rivetAt_44 : decode cX4_rivetAt 44 = .ok (.iadd, 1) := by decide +kernel
theorem dX4_rivetAt_45 : decode cX4_rivetAt 45 = .ok (.iconst 2, 1) := by decide +kernel
theorem dX4_rivetAt_46 : decode cX4_rivetAt 46 = .ok (.imul, 1) := by decide +kernel
theorem dX4_rivetAt_47 : decode cX4_rivetAt 47 = .ok (.iload_n 3, 1) := by decide +kernel
theorem dX4_rivetAt_48 : decode cX4_rivetAt 48 = .ok (.iadd, 1) := by decide +kernel
theorem dX4_rivetAt_49 : decode cX4_rivetAt 49 = .ok (.ireturn, 1) := by decide +kernel
theorem dX4_allStations_0 : decode cX4_allStations 0 = .ok (.iconst 1, 1) := by decide +kernel
theorem dX4_allStations_1 : decode cX4_allStations 1 = .ok (.aload_n 0, 1) := by decide +kernel
theorem dX4_allStations_2 : decode cX4_allStations 2 = .ok (.getfield 38, 3) := by decide +kernel
theorem dX4_allStations_5 : decode cX4_allStations 5 = .ok (.ishl, 1) := by decide +kernel
theorem dX4_allStations_6 : decode cX4_allStations 6 = .ok (.iconst 1, 1) := by decide +kernel
theorem dX4_allStations_7 : decode cX4_allStations 7 = .ok (.isub, 1) := by decide +kernel
theorem dX4_allStations_8 : decode cX4_allStations 8 = .ok (.ireturn, 1) := by decide +kernel
theorem dX4_luck_0 : decode cX4_luck 0 = .ok (.aload_n 0, 1) := by decide +kernel
theorem dX4_luck_1 : decode cX4_luck 1 = .ok (.sipush 25173, 3) := by decide +kernel
theorem dX4_luck_4 : decode cX4_luck 4 = .ok (.aload_n 0, 1) := by decide +kernel
theorem dX4_luck_5 : decode cX4_luck 5 = .ok (.getfield 34, 3) := by decide +kernel
theorem dX4_luck_8 : decode cX4_luck 8 = .ok (.imul, 1) := by decide +kernel
theorem dX4_luck_9 : decode cX4_luck 9 = .ok (.sipush 13849, 3) := by decide +kernel
theorem dX4_luck_12 : decode cX4_luck 12 = .ok (.iadd, 1) := by decide +kernel
theorem dX4_luck_13 : decode cX4_luck 13 = .ok (.ldc 48, 2) := by decide +kernel
theorem dX4_luck_15 : decode cX4_luck 15 = .ok (.irem, 1) := by decide +kernel
theorem dX4_luck_16 : decode cX4_luck 16 = .ok (.putfield 34, 3) := by decide +kernel
theorem dX4_luck_19 : decode cX4_luck 19 = .ok (.aload_n 0, 1) := by decide +kernel
theorem dX4_luck_20 : decode cX4_luck 20 = .ok (.getfield 34, 3) := by decide +kernel
theorem dX4_luck_23 : decode cX4_luck 23 = .ok (.sipush 1000, 3) := by decide +kernel
theorem dX4_luck_26 : decode cX4_luck 26 = .ok (.irem, 1) := by decide +kernel
theorem dX4_luck_27 : decode cX4_luck 27 = .ok (.ireturn, 1) := by decide +kernel
theorem dX4_raise_0 : decode cX4_raise 0 = .ok (.aload_n 0, 1) := by decide +kernel
theorem dX4_raise_1 : decode cX4_raise 1 = .ok (.iload_n 1, 1) := by decide +kernel
theorem dX4_raise_2 : decode cX4_raise 2 = .ok (.putfield 38, 3) := by decide +kernel
theorem dX4_raise_5 : decode cX4_raise 5 = .ok (.aload_n 0, 1) := by decide +kernel
theorem dX4_raise_6 : decode cX4_raise 6 = .ok (.iload_n 2, 1) := by decide +kernel
theorem dX4_raise_7 : decode cX4_raise 7 = .ok (.putfield 45, 3) := by decide +kernel
theorem dX4_raise_10 : decode cX4_raise 10 = .ok (.aload_n 0, 1) := by decide +kernel
theorem dX4_raise_11 : decode cX4_raise 11 = .ok (.iconst 0, 1) := by decide +kernel
theorem dX4_raise_12 : decode cX4_raise 12 = .ok (.putfield 49, 3) := by decide +kernel
theorem dX4_raise_15 : decode cX4_raise 15 = .ok (.aload_n 0, 1) := by decide +kernel
theorem dX4_raise_16 : decode cX4_raise 16 = .ok (.getfield 18, 3) := by decide +kernel
theorem dX4_raise_19 : decode cX4_raise 19 = .ok (.iconst 0, 1) := by decide +kernel
theorem dX4_raise_20 : decode cX4_raise 20 = .ok (.invokestatic 52, 3) := by decide +kernel
theorem dX4_raise_23 : decode cX4_raise 23 = .ok (.aload_n 0, 1) := by decide +kernel
theorem dX4_raise_24 : decode cX4_raise 24 = .ok (.getfield 31, 3) := by decide +kernel
theorem dX4_raise_27 : decode cX4_raise 27 = .ok (.iconst 0, 1) := by decide +kernel
theorem dX4_raise_28 : decode cX4_raise 28 = .ok (.invokestatic 52, 3) := by decide +kernel
theorem dX4_raise_31 : decode cX4_raise 31 = .ok (.iconst 0, 1) := by decide +kernel
theorem dX4_raise_32 : decode cX4_raise 32 = .ok (.istore 4, 2) := by decide +kernel
theorem dX4_raise_34 : decode cX4_raise 34 = .ok (.iload 4, 2) := by decide +kernel
theorem dX4_raise_36 : decode cX4_raise 36 = .ok (.aload_n 0, 1) := by decide +kernel
theorem dX4_raise_37 : decode cX4_raise 37 = .ok (.getfield 38, 3) := by decide +kernel
theorem dX4_raise_40 : decode cX4_raise 40 = .ok (.if_icmp .ge 53, 3) := by decide +kernel
theorem dX4_raise_43 : decode cX4_raise 43 = .ok (.iconst 0, 1) := by decide +kernel
theorem dX4_raise_44 : decode cX4_raise 44 = .ok (.istore 5, 2) := by decide +kernel
theorem dX4_raise_46 : decode cX4_raise 46 = .ok (.iload 5, 2) := by decide +kernel
theorem dX4_raise_48 : decode cX4_raise 48 = .ok (.aload_n 0, 1) := by decide +kernel
theorem dX4_raise_49 : decode cX4_raise 49 = .ok (.getfield 45, 3) := by decide +kernel
theorem dX4_raise_52 : decode cX4_raise 52 = .ok (.if_icmp .ge 35, 3) := by decide +kernel
theorem dX4_raise_55 : decode cX4_raise 55 = .ok (.iconst 0, 1) := by decide +kernel
theorem dX4_raise_56 : decode cX4_raise 56 = .ok (.istore 6, 2) := by decide +kernel
theorem dX4_raise_58 : decode cX4_raise 58 = .ok (.iload 6, 2) := by decide +kernel
theorem dX4_raise_60 : decode cX4_raise 60 = .ok (.iconst 2, 1) := by decide +kernel
theorem dX4_raise_61 : decode cX4_raise 61 = .ok (.if_icmp .ge 20, 3) := by decide +kernel
theorem dX4_raise_64 : decode cX4_raise 64 = .ok (.aload_n 0, 1) := by decide +kernel
theorem dX4_raise_65 : decode cX4_raise 65 = .ok (.iload 4, 2) := by decide +kernel
theorem dX4_raise_67 : decode cX4_raise 67 = .ok (.iload 5, 2) := by decide +kernel
theorem dX4_raise_69 : decode cX4_raise 69 = .ok (.iload 6, 2) := by decide +kernel
theorem dX4_raise_71 : decode cX4_raise 71 = .ok (.aload_n 3, 1) := by decide +kernel
theorem dX4_raise_72 : decode cX4_raise 72 = .ok (.invokevirtual 58, 3) := by decide +kernel
theorem dX4_raise_75 : decode cX4_raise 75 = .ok (.iinc 6 1, 3) := by decide +kernel
theorem dX4_raise_78 : decode cX4_raise 78 = .ok (.goto (-20), 3) := by decide +kernel
theorem dX4_raise_81 : decode cX4_raise 81 = .ok (.iinc 5 1, 3) := by decide +kernel
theorem dX4_raise_84 : decode cX4_raise 84 = .ok (.goto (-38), 3) := by decide +kernel
theorem dX4_raise_87 : decode cX4_raise 87 = .ok (.iinc 4 1, 3) := by decide +kernel
theorem dX4_raise_90 : decode cX4_raise 90 = .ok (.goto (-56), 3) := by decide +kernel
theorem dX4_raise_93 : decode cX4_raise 93 = .ok (.aload_n 0, 1) := by decide +kernel
theorem dX4_raise_94 : decode cX4_raise 94 = .ok (.invokevirtual 62, 3) := by decide +kernel
theorem dX4_raise_97 : decode cX4_raise 97 = .ok (.aload_n 0, 1) := by decide +kernel
theorem dX4_raise_98 : decode cX4_raise 98 = .ok (.getfield 38, 3) := by decide +kernel
theorem dX4_raise_101 : decode cX4_raise 101 = .ok (.aload_n 0, 1) := by decide +kernel
theorem dX4_raise_102 : decode cX4_raise 102 = .ok (.getfield 45, 3) := by decide +kernel
theorem dX4_raise_105 : decode cX4_raise 105 = .ok (.imul, 1) := by decide +kernel
theorem dX4_raise_106 : decode cX4_raise 106 = .ok (.iconst 2, 1) := by decide +kernel
theorem dX4_raise_107 : decode cX4_raise 107 = .ok (.imul, 1) := by decide +kernel
theorem dX4_raise_108 : decode cX4_raise 108 = .ok (.ireturn, 1) := by decide +kernel
theorem dX4_set_0 : decode cX4_set 0 = .ok (.aload_n 0, 1) := by decide +kernel
theorem dX4_set_1 : decode cX4_set 1 = .ok (.iload_n 1, 1) := by decide +kernel
theorem dX4_set_2 : decode cX4_set 2 = .ok (.iload_n 2, 1) := by decide +kernel
theorem dX4_set_3 : decode cX4_set 3 = .ok (.iload_n 3, 1) := by decide +kernel
theorem dX4_set_4 : decode cX4_set 4 = .ok (.invokevirtual 65, 3) := by decide +kernel
theorem dX4_set_7 : decode cX4_set 7 = .ok (.istore 5, 2) := by decide +kernel
theorem dX4_set_9 : decode cX4_set 9 = .ok (.iload 5, 2) := by decide +kernel
theorem dX4_set_11 : decode cX4_set 11 = .ok (.ifCond .ge 4, 3) := by decide +kernel
theorem dX4_set_14 : decode cX4_set 14 = .ok (.return_, 1) := by decide +kernel
theorem dX4_set_15 : decode cX4_set 15 = .ok (.aload_n 0, 1) := by decide +kernel
theorem dX4_set_16 : decode cX4_set 16 = .ok (.iload_n 1, 1) := by decide +kernel
theorem dX4_set_17 : decode cX4_set 17 = .ok (.iload_n 2, 1) := by decide +kernel
theorem dX4_set_18 : decode cX4_set 18 = .ok (.iload_n 3, 1) := by decide +kernel
theorem dX4_set_19 : decode cX4_set 19 = .ok (.invokevirtual 69, 3) := by decide +kernel
theorem dX4_set_22 : decode cX4_set 22 = .ok (.aload_n 0, 1) := by decide +kernel
theorem dX4_set_23 : decode cX4_set 23 = .ok (.getfield 9, 3) := by decide +kernel
theorem dX4_set_26 : decode cX4_set 26 = .ok (.iload 5, 2) := by decide +kernel
theorem dX4_set_28 : decode cX4_set 28 = .ok (.aload 4, 2) := by decide +kernel
theorem dX4_set_30 : decode cX4_set 30 = .ok (.bipush 121, 2) := by decide +kernel
theorem dX4_set_32 : decode cX4_set 32 = .ok (.aload_n 0, 1) := by decide +kernel
theorem dX4_set_33 : decode cX4_set 33 = .ok (.getfield 31, 3) := by decide +kernel
theorem dX4_set_36 : decode cX4_set 36 = .ok (.sipush (-3000), 3) := by decide +kernel
theorem dX4_set_39 : decode cX4_set 39 = .ok (.sipush 3000, 3) := by decide +kernel
theorem dX4_set_42 : decode cX4_set 42 = .ok (.invokevirtual 73, 3) := by decide +kernel
theorem dX4_set_45 : decode cX4_set 45 = .ok (.iastore, 1) := by decide +kernel
theorem dX4_set_46 : decode cX4_set 46 = .ok (.aload_n 0, 1) := by decide +kernel
theorem dX4_set_47 : decode cX4_set 47 = .ok (.getfield 15, 3) := by decide +kernel
theorem dX4_set_50 : decode cX4_set 50 = .ok (.iload 5, 2) := by decide +kernel
theorem dX4_set_52 : decode cX4_set 52 = .ok (.aload 4, 2) := by decide +kernel
theorem dX4_set_54 : decode cX4_set 54 = .ok (.bipush 122, 2) := by decide +kernel
theorem dX4_set_56 : decode cX4_set 56 = .ok (.aload_n 0, 1) := by decide +kernel
theorem dX4_set_57 : decode cX4_set 57 = .ok (.getfield 31, 3) := by decide +kernel
theorem dX4_set_60 : decode cX4_set 60 = .ok (.sipush (-3000), 3) := by decide +kernel
theorem dX4_set_63 : decode cX4_set 63 = .ok (.sipush 3000, 3) := by decide +kernel
theorem dX4_set_66 : decode cX4_set 66 = .ok (.invokevirtual 73, 3) := by decide +kernel
theorem dX4_set_69 : decode cX4_set 69 = .ok (.iastore, 1) := by decide +kernel
theorem dX4_set_70 : decode cX4_set 70 = .ok (.aload_n 0, 1) := by decide +kernel
theorem dX4_set_71 : decode cX4_set 71 = .ok (.getfield 21, 3) := by decide +kernel
theorem dX4_set_74 : decode cX4_set 74 = .ok (.iload 5, 2) := by decide +kernel
theorem dX4_set_76 : decode cX4_set 76 = .ok (.iconst 0, 1) := by decide +kernel
theorem dX4_set_77 : decode cX4_set 77 = .ok (.bastore, 1) := by decide +kernel
theorem dX4_set_78 : decode cX4_set 78 = .ok (.return_, 1) := by decide +kernel
theorem dX4_standAt_0 : decode cX4_standAt 0 = .ok (.aload_n 0, 1) := by decide +kernel
theorem dX4_standAt_1 : decode cX4_standAt 1 = .ok (.getfield 31, 3) := by decide +kernel
theorem dX4_standAt_4 : decode cX4_standAt 4 = .ok (.iconst 5, 1) := by decide +kernel
theorem dX4_standAt_5 : decode cX4_standAt 5 = .ok (.iload_n 1, 1) := by decide +kernel
theorem dX4_standAt_6 : decode cX4_standAt 6 = .ok (.iastore, 1) := by decide +kernel
theorem dX4_standAt_7 : decode cX4_standAt 7 = .ok (.aload_n 0, 1) := by decide +kernel
theorem dX4_standAt_8 : decode cX4_standAt 8 = .ok (.getfield 31, 3) := by decide +kernel
theorem dX4_standAt_11 : decode cX4_standAt 11 = .ok (.bipush 18, 2) := by decide +kernel
theorem dX4_standAt_13 : decode cX4_standAt 13 = .ok (.iload_n 2, 1) := by decide +kernel
theorem dX4_standAt_14 : decode cX4_standAt 14 = .ok (.iastore, 1) := by decide +kernel
theorem dX4_standAt_15 : decode cX4_standAt 15 = .ok (.aload_n 0, 1) := by decide +kernel
theorem dX4_standAt_16 : decode cX4_standAt 16 = .ok (.getfield 31, 3) := by decide +kernel
theorem dX4_standAt_19 : decode cX4_standAt 19 = .ok (.iconst 3, 1) := by decide +kernel
theorem dX4_standAt_20 : decode cX4_standAt 20 = .ok (.iload_n 3, 1) := by decide +kernel
theorem dX4_standAt_21 : decode cX4_standAt 21 = .ok (.iastore, 1) := by decide +kernel
theorem dX4_standAt_22 : decode cX4_standAt 22 = .ok (.aload_n 0, 1) := by decide +kernel
theorem dX4_standAt_23 : decode cX4_standAt 23 = .ok (.getfield 31, 3) := by decide +kernel
theorem dX4_standAt_26 : decode cX4_standAt 26 = .ok (.bipush 13, 2) := by decide +kernel
theorem dX4_standAt_28 : decode cX4_standAt 28 = .ok (.aload_n 0, 1) := by decide +kernel
theorem dX4_standAt_29 : decode cX4_standAt 29 = .ok (.getfield 38, 3) := by decide +kernel
theorem dX4_standAt_32 : decode cX4_standAt 32 = .ok (.iastore, 1) := by decide +kernel
theorem dX4_standAt_33 : decode cX4_standAt 33 = .ok (.aload_n 0, 1) := by decide +kernel
theorem dX4_standAt_34 : decode cX4_standAt 34 = .ok (.getfield 31, 3) := by decide +kernel
theorem dX4_standAt_37 : decode cX4_standAt 37 = .ok (.iconst 2, 1) := by decide +kernel
theorem dX4_standAt_38 : decode cX4_standAt 38 = .ok (.iload_n 1, 1) := by decide +kernel
theorem dX4_standAt_39 : decode cX4_standAt 39 = .ok (.aload_n 0, 1) := by decide +kernel
theorem dX4_standAt_40 : decode cX4_standAt 40 = .ok (.getfield 38, 3) := by decide +kernel
theorem dX4_standAt_43 : decode cX4_standAt 43 = .ok (.iconst 1, 1) := by decide +kernel
theorem dX4_standAt_44 : decode cX4_standAt 44 = .ok (.isub, 1) := by decide +kernel
theorem dX4_standAt_45 : decode cX4_standAt 45 = .ok (.iload_n 1, 1) := by decide +kernel
theorem dX4_standAt_46 : decode cX4_standAt 46 = .ok (.isub, 1) := by decide +kernel
theorem dX4_standAt_47 : decode cX4_standAt 47 = .ok (.invokestatic 79, 3) := by decide +kernel
theorem dX4_standAt_50 : decode cX4_standAt 50 = .ok (.iastore, 1) := by decide +kernel
theorem dX4_standAt_51 : decode cX4_standAt 51 = .ok (.aload_n 0, 1) := by decide +kernel
theorem dX4_standAt_52 : decode cX4_standAt 52 = .ok (.getfield 31, 3) := by decide +kernel
theorem dX4_standAt_55 : decode cX4_standAt 55 = .ok (.bipush 10, 2) := by decide +kernel
theorem dX4_standAt_57 : decode cX4_standAt 57 = .ok (.aload_n 0, 1) := by decide +kernel
theorem dX4_standAt_58 : decode cX4_standAt 58 = .ok (.getfield 45, 3) := by decide +kernel
theorem dX4_standAt_61 : decode cX4_standAt 61 = .ok (.iastore, 1) := by decide +kernel
theorem dX4_standAt_62 : decode cX4_standAt 62 = .ok (.return_, 1) := by decide +kernel
theorem dX4_sink_0 : decode cX4_sink 0 = .ok (.iconst 0, 1) := by decide +kernel
theorem dX4_sink_1 : decode cX4_sink 1 = .ok (.istore_n 3, 1) := by decide +kernel
theorem dX4_sink_2 : decode cX4_sink 2 = .ok (.iload_n 3, 1) := by decide +kernel
theorem dX4_sink_3 : decode cX4_sink 3 = .ok (.iload_n 1, 1) := by decide +kernel
theorem dX4_sink_4 : decode cX4_sink 4 = .ok (.if_icmp .ge 71, 3) := by decide +kernel
theorem dX4_sink_7 : decode cX4_sink 7 = .ok (.iconst 0, 1) := by decide +kernel
theorem dX4_sink_8 : decode cX4_sink 8 = .ok (.istore 4, 2) := by decide +kernel
theorem dX4_sink_10 : decode cX4_sink 10 = .ok (.iload 4, 2) := by decide +kernel
theorem dX4_sink_12 : decode cX4_sink 12 = .ok (.aload_n 0, 1) := by decide +kernel
theorem dX4_sink_13 : decode cX4_sink 13 = .ok (.getfield 38, 3) := by decide +kernel
theorem dX4_sink_16 : decode cX4_sink 16 = .ok (.if_icmp .ge 53, 3) := by decide +kernel
theorem dX4_sink_19 : decode cX4_sink 19 = .ok (.iconst 0, 1) := by decide +kernel
theorem dX4_sink_20 : decode cX4_sink 20 = .ok (.istore 5, 2) := by decide +kernel
theorem dX4_sink_22 : decode cX4_sink 22 = .ok (.iload 5, 2) := by decide +kernel
theorem dX4_sink_24 : decode cX4_sink 24 = .ok (.aload_n 0, 1) := by decide +kernel
theorem dX4_sink_25 : decode cX4_sink 25 = .ok (.getfield 45, 3) := by decide +kernel
theorem dX4_sink_28 : decode cX4_sink 28 = .ok (.if_icmp .ge 35, 3) := by decide +kernel
theorem dX4_sink_31 : decode cX4_sink 31 = .ok (.iconst 0, 1) := by decide +kernel
theorem dX4_sink_32 : decode cX4_sink 32 = .ok (.istore 6, 2) := by decide +kernel
theorem dX4_sink_34 : decode cX4_sink 34 = .ok (.iload 6, 2) := by decide +kernel
theorem dX4_sink_36 : decode cX4_sink 36 = .ok (.iconst 2, 1) := by decide +kernel
theorem dX4_sink_37 : decode cX4_sink 37 = .ok (.if_icmp .ge 20, 3) := by decide +kernel
theorem dX4_sink_40 : decode cX4_sink 40 = .ok (.aload_n 0, 1) := by decide +kernel
theorem dX4_sink_41 : decode cX4_sink 41 = .ok (.iload 4, 2) := by decide +kernel
theorem dX4_sink_43 : decode cX4_sink 43 = .ok (.iload 5, 2) := by decide +kernel
theorem dX4_sink_45 : decode cX4_sink 45 = .ok (.iload 6, 2) := by decide +kernel
theorem dX4_sink_47 : decode cX4_sink 47 = .ok (.aload_n 2, 1) := by decide +kernel
theorem dX4_sink_48 : decode cX4_sink 48 = .ok (.invokevirtual 85, 3) := by decide +kernel
theorem dX4_sink_51 : decode cX4_sink 51 = .ok (.iinc 6 1, 3) := by decide +kernel
theorem dX4_sink_54 : decode cX4_sink 54 = .ok (.goto (-20), 3) := by decide +kernel
theorem dX4_sink_57 : decode cX4_sink 57 = .ok (.iinc 5 1, 3) := by decide +kernel
theorem dX4_sink_60 : decode cX4_sink 60 = .ok (.goto (-38), 3) := by decide +kernel
theorem dX4_sink_63 : decode cX4_sink 63 = .ok (.iinc 4 1, 3) := by decide +kernel
theorem dX4_sink_66 : decode cX4_sink 66 = .ok (.goto (-56), 3) := by decide +kernel
theorem dX4_sink_69 : decode cX4_sink 69 = .ok (.iinc 3 1, 3) := by decide +kernel
theorem dX4_sink_72 : decode cX4_sink 72 = .ok (.goto (-70), 3) := by decide +kernel
theorem dX4_sink_75 : decode cX4_sink 75 = .ok (.aload_n 0, 1) := by decide +kernel
theorem dX4_sink_76 : decode cX4_sink 76 = .ok (.invokevirtual 62, 3) := by decide +kernel
theorem dX4_sink_79 : decode cX4_sink 79 = .ok (.return_, 1) := by decide +kernel
theorem dX4_sinkOne_0 : decode cX4_sinkOne 0 = .ok (.aload_n 0, 1) := by decide +kernel
theorem dX4_sinkOne_1 : decode cX4_sinkOne 1 = .ok (.iload_n 1, 1) := by decide +kernel
theorem dX4_sinkOne_2 : decode cX4_sinkOne 2 = .ok (.iload_n 2, 1) := by decide +kernel
theorem dX4_sinkOne_3 : decode cX4_sinkOne 3 = .ok (.iload_n 3, 1) := by decide +kernel
theorem dX4_sinkOne_4 : decode cX4_sinkOne 4 = .ok (.invokevirtual 65, 3) := by decide +kernel
theorem dX4_sinkOne_7 : decode cX4_sinkOne 7 = .ok (.istore 5, 2) := by decide +kernel
theorem dX4_sinkOne_9 : decode cX4_sinkOne 9 = .ok (.iload 5, 2) := by decide +kernel
theorem dX4_sinkOne_11 : decode cX4_sinkOne 11 = .ok (.ifCond .lt 13, 3) := by decide +kernel
theorem dX4_sinkOne_14 : decode cX4_sinkOne 14 = .ok (.aload_n 0, 1) := by decide +kernel
theorem dX4_sinkOne_15 : decode cX4_sinkOne 15 = .ok (.getfield 21, 3) := by decide +kernel
theorem dX4_sinkOne_18 : decode cX4_sinkOne 18 = .ok (.iload 5, 2) := by decide +kernel
theorem dX4_sinkOne_20 : decode cX4_sinkOne 20 = .ok (.baload, 1) := by decide +kernel
theorem dX4_sinkOne_21 : decode cX4_sinkOne 21 = .ok (.ifCond .eq 4, 3) := by decide +kernel
theorem dX4_sinkOne_24 : decode cX4_sinkOne 24 = .ok (.return_, 1) := by decide +kernel
theorem dX4_sinkOne_25 : decode cX4_sinkOne 25 = .ok (.aload_n 0, 1) := by decide +kernel
theorem dX4_sinkOne_26 : decode cX4_sinkOne 26 = .ok (.invokevirtual 88, 3) := by decide +kernel
theorem dX4_sinkOne_29 : decode cX4_sinkOne 29 = .ok (.istore 6, 2) := by decide +kernel
theorem dX4_sinkOne_31 : decode cX4_sinkOne 31 = .ok (.aload_n 0, 1) := by decide +kernel
theorem dX4_sinkOne_32 : decode cX4_sinkOne 32 = .ok (.iload_n 1, 1) := by decide +kernel
theorem dX4_sinkOne_33 : decode cX4_sinkOne 33 = .ok (.iload_n 2, 1) := by decide +kernel
theorem dX4_sinkOne_34 : decode cX4_sinkOne 34 = .ok (.iload_n 3, 1) := by decide +kernel
theorem dX4_sinkOne_35 : decode cX4_sinkOne 35 = .ok (.invokevirtual 69, 3) := by decide +kernel
theorem dX4_sinkOne_38 : decode cX4_sinkOne 38 = .ok (.aload_n 0, 1) := by decide +kernel
theorem dX4_sinkOne_39 : decode cX4_sinkOne 39 = .ok (.getfield 31, 3) := by decide +kernel
theorem dX4_sinkOne_42 : decode cX4_sinkOne 42 = .ok (.bipush 24, 2) := by decide +kernel
theorem dX4_sinkOne_44 : decode cX4_sinkOne 44 = .ok (.aload_n 0, 1) := by decide +kernel
theorem dX4_sinkOne_45 : decode cX4_sinkOne 45 = .ok (.getfield 9, 3) := by decide +kernel
theorem dX4_sinkOne_48 : decode cX4_sinkOne 48 = .ok (.iload 5, 2) := by decide +kernel
theorem dX4_sinkOne_50 : decode cX4_sinkOne 50 = .ok (.iaload, 1) := by decide +kernel
theorem dX4_sinkOne_51 : decode cX4_sinkOne 51 = .ok (.iastore, 1) := by decide +kernel
theorem dX4_sinkOne_52 : decode cX4_sinkOne 52 = .ok (.aload_n 0, 1) := by decide +kernel
theorem dX4_sinkOne_53 : decode cX4_sinkOne 53 = .ok (.getfield 31, 3) := by decide +kernel
theorem dX4_sinkOne_56 : decode cX4_sinkOne 56 = .ok (.bipush 25, 2) := by decide +kernel
theorem dX4_sinkOne_58 : decode cX4_sinkOne 58 = .ok (.aload_n 0, 1) := by decide +kernel
theorem dX4_sinkOne_59 : decode cX4_sinkOne 59 = .ok (.getfield 15, 3) := by decide +kernel
theorem dX4_sinkOne_62 : decode cX4_sinkOne 62 = .ok (.iload 5, 2) := by decide +kernel
theorem dX4_sinkOne_64 : decode cX4_sinkOne 64 = .ok (.iaload, 1) := by decide +kernel
theorem dX4_sinkOne_65 : decode cX4_sinkOne 65 = .ok (.iastore, 1) := by decide +kernel
theorem dX4_sinkOne_66 : decode cX4_sinkOne 66 = .ok (.aload_n 0, 1) := by decide +kernel
theorem dX4_sinkOne_67 : decode cX4_sinkOne 67 = .ok (.getfield 31, 3) := by decide +kernel
theorem dX4_sinkOne_70 : decode cX4_sinkOne 70 = .ok (.bipush 12, 2) := by decide +kernel
theorem dX4_sinkOne_72 : decode cX4_sinkOne 72 = .ok (.aload_n 0, 1) := by decide +kernel
theorem dX4_sinkOne_73 : decode cX4_sinkOne 73 = .ok (.getfield 25, 3) := by decide +kernel
theorem dX4_sinkOne_76 : decode cX4_sinkOne 76 = .ok (.iload_n 1, 1) := by decide +kernel
theorem dX4_sinkOne_77 : decode cX4_sinkOne 77 = .ok (.iaload, 1) := by decide +kernel
theorem dX4_sinkOne_78 : decode cX4_sinkOne 78 = .ok (.iastore, 1) := by decide +kernel
theorem dX4_sinkOne_79 : decode cX4_sinkOne 79 = .ok (.aload_n 0, 1) := by decide +kernel
theorem dX4_sinkOne_80 : decode cX4_sinkOne 80 = .ok (.getfield 31, 3) := by decide +kernel
theorem dX4_sinkOne_83 : decode cX4_sinkOne 83 = .ok (.bipush 23, 2) := by decide +kernel
theorem dX4_sinkOne_85 : decode cX4_sinkOne 85 = .ok (.iload 6, 2) := by decide +kernel
theorem dX4_sinkOne_87 : decode cX4_sinkOne 87 = .ok (.iastore, 1) := by decide +kernel
theorem dX4_sinkOne_88 : decode cX4_sinkOne 88 = .ok (.iload 6, 2) := by decide +kernel
theorem dX4_sinkOne_90 : decode cX4_sinkOne 90 = .ok (.aload 4, 2) := by decide +kernel
theorem dX4_sinkOne_92 : decode cX4_sinkOne 92 = .ok (.bipush 103, 2) := by decide +kernel
theorem dX4_sinkOne_94 : decode cX4_sinkOne 94 = .ok (.aload_n 0, 1) := by decide +kernel
theorem dX4_sinkOne_95 : decode cX4_sinkOne 95 = .ok (.getfield 31, 3) := by decide +kernel
theorem dX4_sinkOne_98 : decode cX4_sinkOne 98 = .ok (.iconst 0, 1) := by decide +kernel
theorem dX4_sinkOne_99 : decode cX4_sinkOne 99 = .ok (.sipush 1000, 3) := by decide +kernel
theorem dX4_sinkOne_102 : decode cX4_sinkOne 102 = .ok (.invokevirtual 73, 3) := by decide +kernel
theorem dX4_sinkOne_105 : decode cX4_sinkOne 105 = .ok (.if_icmp .ge 12, 3) := by decide +kernel
theorem dX4_sinkOne_108 : decode cX4_sinkOne 108 = .ok (.aload_n 0, 1) := by decide +kernel
theorem dX4_sinkOne_109 : decode cX4_sinkOne 109 = .ok (.getfield 21, 3) := by decide +kernel
theorem dX4_sinkOne_112 : decode cX4_sinkOne 112 = .ok (.iload 5, 2) := by decide +kernel
theorem dX4_sinkOne_114 : decode cX4_sinkOne 114 = .ok (.iconst 1, 1) := by decide +kernel
theorem dX4_sinkOne_115 : decode cX4_sinkOne 115 = .ok (.bastore, 1) := by decide +kernel
theorem dX4_sinkOne_116 : decode cX4_sinkOne 116 = .ok (.return_, 1) := by decide +kernel
theorem dX4_sinkOne_117 : decode cX4_sinkOne 117 = .ok (.aload 4, 2) := by decide +kernel
theorem dX4_sinkOne_119 : decode cX4_sinkOne 119 = .ok (.bipush 97, 2) := by decide +kernel
theorem dX4_sinkOne_121 : decode cX4_sinkOne 121 = .ok (.aload_n 0, 1) := by decide +kernel
theorem dX4_sinkOne_122 : decode cX4_sinkOne 122 = .ok (.getfield 31, 3) := by decide +kernel
theorem dX4_sinkOne_125 : decode cX4_sinkOne 125 = .ok (.sipush (-1000), 3) := by decide +kernel
theorem dX4_sinkOne_128 : decode cX4_sinkOne 128 = .ok (.sipush 1000, 3) := by decide +kernel
theorem dX4_sinkOne_131 : decode cX4_sinkOne 131 = .ok (.invokevirtual 73, 3) := by decide +kernel
theorem dX4_sinkOne_134 : decode cX4_sinkOne 134 = .ok (.istore 7, 2) := by decide +kernel
theorem dX4_sinkOne_136 : decode cX4_sinkOne 136 = .ok (.aload 4, 2) := by decide +kernel
theorem dX4_sinkOne_138 : decode cX4_sinkOne 138 = .ok (.bipush 98, 2) := by decide +kernel
theorem dX4_sinkOne_140 : decode cX4_sinkOne 140 = .ok (.aload_n 0, 1) := by decide +kernel
theorem dX4_sinkOne_141 : decode cX4_sinkOne 141 = .ok (.getfield 31, 3) := by decide +kernel
theorem dX4_sinkOne_144 : decode cX4_sinkOne 144 = .ok (.sipush (-1000), 3) := by decide +kernel
theorem dX4_sinkOne_147 : decode cX4_sinkOne 147 = .ok (.sipush 1000, 3) := by decide +kernel
theorem dX4_sinkOne_150 : decode cX4_sinkOne 150 = .ok (.invokevirtual 73, 3) := by decide +kernel
theorem dX4_sinkOne_153 : decode cX4_sinkOne 153 = .ok (.istore 8, 2) := by decide +kernel
theorem dX4_sinkOne_155 : decode cX4_sinkOne 155 = .ok (.aload_n 0, 1) := by decide +kernel
theorem dX4_sinkOne_156 : decode cX4_sinkOne 156 = .ok (.getfield 9, 3) := by decide +kernel
theorem dX4_sinkOne_159 : decode cX4_sinkOne 159 = .ok (.iload 5, 2) := by decide +kernel
theorem dX4_sinkOne_161 : decode cX4_sinkOne 161 = .ok (.aload_n 0, 1) := by decide +kernel
theorem dX4_sinkOne_162 : decode cX4_sinkOne 162 = .ok (.getfield 9, 3) := by decide +kernel
theorem dX4_sinkOne_165 : decode cX4_sinkOne 165 = .ok (.iload 5, 2) := by decide +kernel
theorem dX4_sinkOne_167 : decode cX4_sinkOne 167 = .ok (.iaload, 1) := by decide +kernel
theorem dX4_sinkOne_168 : decode cX4_sinkOne 168 = .ok (.iload 7, 2) := by decide +kernel
theorem dX4_sinkOne_170 : decode cX4_sinkOne 170 = .ok (.iadd, 1) := by decide +kernel
theorem dX4_sinkOne_171 : decode cX4_sinkOne 171 = .ok (.sipush (-3000), 3) := by decide +kernel
theorem dX4_sinkOne_174 : decode cX4_sinkOne 174 = .ok (.sipush 3000, 3) := by decide +kernel
theorem dX4_sinkOne_177 : decode cX4_sinkOne 177 = .ok (.invokestatic 92, 3) := by decide +kernel
theorem dX4_sinkOne_180 : decode cX4_sinkOne 180 = .ok (.iastore, 1) := by decide +kernel
theorem dX4_sinkOne_181 : decode cX4_sinkOne 181 = .ok (.aload_n 0, 1) := by decide +kernel
theorem dX4_sinkOne_182 : decode cX4_sinkOne 182 = .ok (.getfield 15, 3) := by decide +kernel
theorem dX4_sinkOne_185 : decode cX4_sinkOne 185 = .ok (.iload 5, 2) := by decide +kernel
theorem dX4_sinkOne_187 : decode cX4_sinkOne 187 = .ok (.aload_n 0, 1) := by decide +kernel
theorem dX4_sinkOne_188 : decode cX4_sinkOne 188 = .ok (.getfield 15, 3) := by decide +kernel
theorem dX4_sinkOne_191 : decode cX4_sinkOne 191 = .ok (.iload 5, 2) := by decide +kernel
theorem dX4_sinkOne_193 : decode cX4_sinkOne 193 = .ok (.iaload, 1) := by decide +kernel
theorem dX4_sinkOne_194 : decode cX4_sinkOne 194 = .ok (.iload 8, 2) := by decide +kernel
theorem dX4_sinkOne_196 : decode cX4_sinkOne 196 = .ok (.iadd, 1) := by decide +kernel
theorem dX4_sinkOne_197 : decode cX4_sinkOne 197 = .ok (.sipush (-3000), 3) := by decide +kernel
theorem dX4_sinkOne_200 : decode cX4_sinkOne 200 = .ok (.sipush 3000, 3) := by decide +kernel
theorem dX4_sinkOne_203 : decode cX4_sinkOne 203 = .ok (.invokestatic 92, 3) := by decide +kernel
theorem dX4_sinkOne_206 : decode cX4_sinkOne 206 = .ok (.iastore, 1) := by decide +kernel
theorem dX4_sinkOne_207 : decode cX4_sinkOne 207 = .ok (.return_, 1) := by decide +kernel
theorem dX4_tell_0 : decode cX4_tell 0 = .ok (.aload_n 0, 1) := by decide +kernel
theorem dX4_tell_1 : decode cX4_tell 1 = .ok (.getfield 9, 3) := by decide +kernel
theorem dX4_tell_4 : decode cX4_tell 4 = .ok (.iload_n 1, 1) := by decide +kernel
theorem dX4_tell_5 : decode cX4_tell 5 = .ok (.iload_n 3, 1) := by decide +kernel
theorem dX4_tell_6 : decode cX4_tell 6 = .ok (.iastore, 1) := by decide +kernel
theorem dX4_tell_7 : decode cX4_tell 7 = .ok (.aload_n 0, 1) := by decide +kernel
theorem dX4_tell_8 : decode cX4_tell 8 = .ok (.getfield 15, 3) := by decide +kernel
theorem dX4_tell_11 : decode cX4_tell 11 = .ok (.iload_n 1, 1) := by decide +kernel
theorem dX4_tell_12 : decode cX4_tell 12 = .ok (.iload 4, 2) := by decide +kernel
theorem dX4_tell_14 : decode cX4_tell 14 = .ok (.iastore, 1) := by decide +kernel
theorem dX4_tell_15 : decode cX4_tell 15 = .ok (.aload_n 0, 1) := by decide +kernel
theorem dX4_tell_16 : decode cX4_tell 16 = .ok (.getfield 21, 3) := by decide +kernel
theorem dX4_tell_19 : decode cX4_tell 19 = .ok (.iload_n 1, 1) := by decide +kernel
theorem dX4_tell_20 : decode cX4_tell 20 = .ok (.iconst 0, 1) := by decide +kernel
theorem dX4_tell_21 : decode cX4_tell 21 = .ok (.bastore, 1) := by decide +kernel
theorem dX4_tell_22 : decode cX4_tell 22 = .ok (.aload_n 0, 1) := by decide +kernel
theorem dX4_tell_23 : decode cX4_tell 23 = .ok (.getfield 28, 3) := by decide +kernel
theorem dX4_tell_26 : decode cX4_tell 26 = .ok (.iload_n 2, 1) := by decide +kernel
theorem dX4_tell_27 : decode cX4_tell 27 = .ok (.dup2, 1) := by decide +kernel
theorem dX4_tell_28 : decode cX4_tell 28 = .ok (.iaload, 1) := by decide +kernel
theorem dX4_tell_29 : decode cX4_tell 29 = .ok (.iconst 1, 1) := by decide +kernel
theorem dX4_tell_30 : decode cX4_tell 30 = .ok (.iadd, 1) := by decide +kernel
theorem dX4_tell_31 : decode cX4_tell 31 = .ok (.iastore, 1) := by decide +kernel
theorem dX4_tell_32 : decode cX4_tell 32 = .ok (.return_, 1) := by decide +kernel
theorem dX4_lose_0 : decode cX4_lose 0 = .ok (.aload_n 0, 1) := by decide +kernel
theorem dX4_lose_1 : decode cX4_lose 1 = .ok (.getfield 21, 3) := by decide +kernel
theorem dX4_lose_4 : decode cX4_lose 4 = .ok (.iload_n 1, 1) := by decide +kernel
theorem dX4_lose_5 : decode cX4_lose 5 = .ok (.iconst 1, 1) := by decide +kernel
theorem dX4_lose_6 : decode cX4_lose 6 = .ok (.bastore, 1) := by decide +kernel
theorem dX4_lose_7 : decode cX4_lose 7 = .ok (.aload_n 0, 1) := by decide +kernel
theorem dX4_lose_8 : decode cX4_lose 8 = .ok (.getfield 28, 3) := by decide +kernel
theorem dX4_lose_11 : decode cX4_lose 11 = .ok (.iload_n 2, 1) := by decide +kernel
theorem dX4_lose_12 : decode cX4_lose 12 = .ok (.dup2, 1) := by decide +kernel
theorem dX4_lose_13 : decode cX4_lose 13 = .ok (.iaload, 1) := by decide +kernel
theorem dX4_lose_14 : decode cX4_lose 14 = .ok (.iconst 1, 1) := by decide +kernel
theorem dX4_lose_15 : decode cX4_lose 15 = .ok (.iadd, 1) := by decide +kernel
theorem dX4_lose_16 : decode cX4_lose 16 = .ok (.iastore, 1) := by decide +kernel
theorem dX4_lose_17 : decode cX4_lose 17 = .ok (.return_, 1) := by decide +kernel
theorem dX4_cutAway_0 : decode cX4_cutAway 0 = .ok (.aload_n 0, 1) := by decide +kernel
theorem dX4_cutAway_1 : decode cX4_cutAway 1 = .ok (.iload_n 1, 1) := by decide +kernel
theorem dX4_cutAway_2 : decode cX4_cutAway 2 = .ok (.putfield 49, 3) := by decide +kernel
theorem dX4_cutAway_5 : decode cX4_cutAway 5 = .ok (.aload_n 0, 1) := by decide +kernel
theorem dX4_cutAway_6 : decode cX4_cutAway 6 = .ok (.invokevirtual 62, 3) := by decide +kernel
theorem dX4_cutAway_9 : decode cX4_cutAway 9 = .ok (.return_, 1) := by decide +kernel
theorem dX4_touchAll_0 : decode cX4_touchAll 0 = .ok (.iconst 0, 1) := by decide +kernel
theorem dX4_touchAll_1 : decode cX4_touchAll 1 = .ok (.istore_n 1, 1) := by decide +kernel
theorem dX4_touchAll_2 : decode cX4_touchAll 2 = .ok (.iload_n 1, 1) := by decide +kernel
theorem dX4_touchAll_3 : decode cX4_touchAll 3 = .ok (.bipush 8, 2) := by decide +kernel
theorem dX4_touchAll_5 : decode cX4_touchAll 5 = .ok (.if_icmp .ge 19, 3) := by decide +kernel
theorem dX4_touchAll_8 : decode cX4_touchAll 8 = .ok (.aload_n 0, 1) := by decide +kernel
theorem dX4_touchAll_9 : decode cX4_touchAll 9 = .ok (.getfield 28, 3) := by decide +kernel
theorem dX4_touchAll_12 : decode cX4_touchAll 12 = .ok (.iload_n 1, 1) := by decide +kernel
theorem dX4_touchAll_13 : decode cX4_touchAll 13 = .ok (.dup2, 1) := by decide +kernel
theorem dX4_touchAll_14 : decode cX4_touchAll 14 = .ok (.iaload, 1) := by decide +kernel
theorem dX4_touchAll_15 : decode cX4_touchAll 15 = .ok (.iconst 1, 1) := by decide +kernel
theorem dX4_touchAll_16 : decode cX4_touchAll 16 = .ok (.iadd, 1) := by decide +kernel
theorem dX4_touchAll_17 : decode cX4_touchAll 17 = .ok (.iastore, 1) := by decide +kernel
theorem dX4_touchAll_18 : decode cX4_touchAll 18 = .ok (.iinc 1 1, 3) := by decide +kernel
theorem dX4_touchAll_21 : decode cX4_touchAll 21 = .ok (.goto (-19), 3) := by decide +kernel
theorem dX4_touchAll_24 : decode cX4_touchAll 24 = .ok (.return_, 1) := by decide +kernel
theorem dX4_isCut_0 : decode cX4_isCut 0 = .ok (.aload_n 0, 1) := by decide +kernel
theorem dX4_isCut_1 : decode cX4_isCut 1 = .ok (.getfield 49, 3) := by decide +kernel
theorem dX4_isCut_4 : decode cX4_isCut 4 = .ok (.iload_n 1, 1) := by decide +kernel
theorem dX4_isCut_5 : decode cX4_isCut 5 = .ok (.ishr, 1) := by decide +kernel
theorem dX4_isCut_6 : decode cX4_isCut 6 = .ok (.iconst 1, 1) := by decide +kernel
theorem dX4_isCut_7 : decode cX4_isCut 7 = .ok (.iand, 1) := by decide +kernel
theorem dX4_isCut_8 : decode cX4_isCut 8 = .ok (.ifCond .eq 7, 3) := by decide +kernel
theorem dX4_isCut_11 : decode cX4_isCut 11 = .ok (.iconst 1, 1) := by decide +kernel
theorem dX4_isCut_12 : decode cX4_isCut 12 = .ok (.goto 4, 3) := by decide +kernel
theorem dX4_isCut_15 : decode cX4_isCut 15 = .ok (.iconst 0, 1) := by decide +kernel
theorem dX4_isCut_16 : decode cX4_isCut 16 = .ok (.ireturn, 1) := by decide +kernel
theorem dX4_isSeen_0 : decode cX4_isSeen 0 = .ok (.aload_n 0, 1) := by decide +kernel
theorem dX4_isSeen_1 : decode cX4_isSeen 1 = .ok (.getfield 21, 3) := by decide +kernel
theorem dX4_isSeen_4 : decode cX4_isSeen 4 = .ok (.iload_n 1, 1) := by decide +kernel
theorem dX4_isSeen_5 : decode cX4_isSeen 5 = .ok (.baload, 1) := by decide +kernel
theorem dX4_isSeen_6 : decode cX4_isSeen 6 = .ok (.ifCond .ne 15, 3) := by decide +kernel
theorem dX4_isSeen_9 : decode cX4_isSeen 9 = .ok (.aload_n 0, 1) := by decide +kernel
theorem dX4_isSeen_10 : decode cX4_isSeen 10 = .ok (.iload_n 2, 1) := by decide +kernel
theorem dX4_isSeen_11 : decode cX4_isSeen 11 = .ok (.invokevirtual 95, 3) := by decide +kernel
theorem dX4_isSeen_14 : decode cX4_isSeen 14 = .ok (.ifCond .ne 7, 3) := by decide +kernel
theorem dX4_isSeen_17 : decode cX4_isSeen 17 = .ok (.iconst 1, 1) := by decide +kernel
theorem dX4_isSeen_18 : decode cX4_isSeen 18 = .ok (.goto 4, 3) := by decide +kernel
theorem dX4_isSeen_21 : decode cX4_isSeen 21 = .ok (.iconst 0, 1) := by decide +kernel
theorem dX4_isSeen_22 : decode cX4_isSeen 22 = .ok (.ireturn, 1) := by decide +kernel
theorem dX4_left_0 : decode cX4_left 0 = .ok (.iconst 0, 1) := by decide +kernel
theorem dX4_left_1 : decode cX4_left 1 = .ok (.istore_n 1, 1) := by decide +kernel
theorem dX4_left_2 : decode cX4_left 2 = .ok (.iconst 0, 1) := by decide +kernel
theorem dX4_left_3 : decode cX4_left 3 = .ok (.istore_n 2, 1) := by decide +kernel
theorem dX4_left_4 : decode cX4_left 4 = .ok (.iload_n 2, 1) := by decide +kernel
theorem dX4_left_5 : decode cX4_left 5 = .ok (.aload_n 0, 1) := by decide +kernel
theorem dX4_left_6 : decode cX4_left 6 = .ok (.getfield 38, 3) := by decide +kernel
theorem dX4_left_9 : decode cX4_left 9 = .ok (.if_icmp .ge 73, 3) := by decide +kernel
theorem dX4_left_12 : decode cX4_left 12 = .ok (.iconst 0, 1) := by decide +kernel
theorem dX4_left_13 : decode cX4_left 13 = .ok (.istore_n 3, 1) := by decide +kernel
theorem dX4_left_14 : decode cX4_left 14 = .ok (.iload_n 3, 1) := by decide +kernel
theorem dX4_left_15 : decode cX4_left 15 = .ok (.aload_n 0, 1) := by decide +kernel
theorem dX4_left_16 : decode cX4_left 16 = .ok (.getfield 45, 3) := by decide +kernel
theorem dX4_left_19 : decode cX4_left 19 = .ok (.if_icmp .ge 57, 3) := by decide +kernel
theorem dX4_left_22 : decode cX4_left 22 = .ok (.iconst 0, 1) := by decide +kernel
theorem dX4_left_23 : decode cX4_left 23 = .ok (.istore 4, 2) := by decide +kernel
theorem dX4_left_25 : decode cX4_left 25 = .ok (.iload 4, 2) := by decide +kernel
theorem dX4_left_27 : decode cX4_left 27 = .ok (.iconst 2, 1) := by decide +kernel
theorem dX4_left_28 : decode cX4_left 28 = .ok (.if_icmp .ge 42, 3) := by decide +kernel
theorem dX4_left_31 : decode cX4_left 31 = .ok (.aload_n 0, 1) := by decide +kernel
theorem dX4_left_32 : decode cX4_left 32 = .ok (.iload_n 2, 1) := by decide +kernel
theorem dX4_left_33 : decode cX4_left 33 = .ok (.iload_n 3, 1) := by decide +kernel
theorem dX4_left_34 : decode cX4_left 34 = .ok (.iload 4, 2) := by decide +kernel
theorem dX4_left_36 : decode cX4_left 36 = .ok (.invokevirtual 65, 3) := by decide +kernel
theorem dX4_left_39 : decode cX4_left 39 = .ok (.istore 5, 2) := by decide +kernel
theorem dX4_left_41 : decode cX4_left 41 = .ok (.iload_n 1, 1) := by decide +kernel
theorem dX4_left_42 : decode cX4_left 42 = .ok (.iload 5, 2) := by decide +kernel
theorem dX4_left_44 : decode cX4_left 44 = .ok (.ifCond .lt 13, 3) := by decide +kernel
theorem dX4_left_47 : decode cX4_left 47 = .ok (.aload_n 0, 1) := by decide +kernel
theorem dX4_left_48 : decode cX4_left 48 = .ok (.getfield 21, 3) := by decide +kernel
theorem dX4_left_51 : decode cX4_left 51 = .ok (.iload 5, 2) := by decide +kernel
theorem dX4_left_53 : decode cX4_left 53 = .ok (.baload, 1) := by decide +kernel
theorem dX4_left_54 : decode cX4_left 54 = .ok (.ifCond .eq 7, 3) := by decide +kernel
theorem dX4_left_57 : decode cX4_left 57 = .ok (.iconst 0, 1) := by decide +kernel
theorem dX4_left_58 : decode cX4_left 58 = .ok (.goto 4, 3) := by decide +kernel
theorem dX4_left_61 : decode cX4_left 61 = .ok (.iconst 1, 1) := by decide +kernel
theorem dX4_left_62 : decode cX4_left 62 = .ok (.iadd, 1) := by decide +kernel
theorem dX4_left_63 : decode cX4_left 63 = .ok (.istore_n 1, 1) := by decide +kernel
theorem dX4_left_64 : decode cX4_left 64 = .ok (.iinc 4 1, 3) := by decide +kernel
theorem dX4_left_67 : decode cX4_left 67 = .ok (.goto (-42), 3) := by decide +kernel
theorem dX4_left_70 : decode cX4_left 70 = .ok (.iinc 3 1, 3) := by decide +kernel
theorem dX4_left_73 : decode cX4_left 73 = .ok (.goto (-59), 3) := by decide +kernel
theorem dX4_left_76 : decode cX4_left 76 = .ok (.iinc 2 1, 3) := by decide +kernel
theorem dX4_left_79 : decode cX4_left 79 = .ok (.goto (-75), 3) := by decide +kernel
theorem dX4_left_82 : decode cX4_left 82 = .ok (.iload_n 1, 1) := by decide +kernel
theorem dX4_left_83 : decode cX4_left 83 = .ok (.ireturn, 1) := by decide +kernel
theorem dX5_init_0 : decode cX5_init 0 = .ok (.aload_n 0, 1) := by decide +kernel
theorem dX5_init_1 : decode cX5_init 1 = .ok (.invokespecial 3, 3) := by decide +kernel
theorem dX5_init_4 : decode cX5_init 4 = .ok (.aload_n 0, 1) := by decide +kernel
theorem dX5_init_5 : decode cX5_init 5 = .ok (.bipush 100, 2) := by decide +kernel
theorem dX5_init_7 : decode cX5_init 7 = .ok (.newarray .int, 2) := by decide +kernel
theorem dX5_init_9 : decode cX5_init 9 = .ok (.putfield 9, 3) := by decide +kernel
theorem dX5_init_12 : decode cX5_init 12 = .ok (.aload_n 0, 1) := by decide +kernel
theorem dX5_init_13 : decode cX5_init 13 = .ok (.aload_n 1, 1) := by decide +kernel
theorem dX5_init_14 : decode cX5_init 14 = .ok (.putfield 15, 3) := by decide +kernel
theorem dX5_init_17 : decode cX5_init 17 = .ok (.return_, 1) := by decide +kernel
theorem dX5_othersWith_0 : decode cX5_othersWith 0 = .ok (.iconst 0, 1) := by decide +kernel
theorem dX5_othersWith_1 : decode cX5_othersWith 1 = .ok (.istore_n 2, 1) := by decide +kernel
theorem dX5_othersWith_2 : decode cX5_othersWith 2 = .ok (.iconst 0, 1) := by decide +kernel
theorem dX5_othersWith_3 : decode cX5_othersWith 3 = .ok (.istore_n 3, 1) := by decide +kernel
theorem dX5_othersWith_4 : decode cX5_othersWith 4 = .ok (.iload_n 3, 1) := by decide +kernel
theorem dX5_othersWith_5 : decode cX5_othersWith 5 = .ok (.sipush 384, 3) := by decide +kernel
theorem dX5_othersWith_8 : decode cX5_othersWith 8 = .ok (.if_icmp .ge 34, 3) := by decide +kernel
theorem dX5_othersWith_11 : decode cX5_othersWith 11 = .ok (.iload_n 2, 1) := by decide +kernel
theorem dX5_othersWith_12 : decode cX5_othersWith 12 = .ok (.iload_n 3, 1) := by decide +kernel
theorem dX5_othersWith_13 : decode cX5_othersWith 13 = .ok (.iload_n 1, 1) := by decide +kernel
theorem dX5_othersWith_14 : decode cX5_othersWith 14 = .ok (.if_icmp .eq 19, 3) := by decide +kernel
theorem dX5_othersWith_17 : decode cX5_othersWith 17 = .ok (.aload_n 0, 1) := by decide +kernel
theorem dX5_othersWith_18 : decode cX5_othersWith 18 = .ok (.getfield 15, 3) := by decide +kernel
theorem dX5_othersWith_21 : decode cX5_othersWith 21 = .ok (.getfield 19, 3) := by decide +kernel
theorem dX5_othersWith_24 : decode cX5_othersWith 24 = .ok (.iload_n 3, 1) := by decide +kernel
theorem dX5_othersWith_25 : decode cX5_othersWith 25 = .ok (.iaload, 1) := by decide +kernel
theorem dX5_othersWith_26 : decode cX5_othersWith 26 = .ok (.ifCond .le 7, 3) := by decide +kernel
theorem dX5_othersWith_29 : decode cX5_othersWith 29 = .ok (.iconst 1, 1) := by decide +kernel
theorem dX5_othersWith_30 : decode cX5_othersWith 30 = .ok (.goto 4, 3) := by decide +kernel
theorem dX5_othersWith_33 : decode cX5_othersWith 33 = .ok (.iconst 0, 1) := by decide +kernel
theorem dX5_othersWith_34 : decode cX5_othersWith 34 = .ok (.iadd, 1) := by decide +kernel
theorem dX5_othersWith_35 : decode cX5_othersWith 35 = .ok (.istore_n 2, 1) := by decide +kernel
theorem dX5_othersWith_36 : decode cX5_othersWith 36 = .ok (.iinc 3 1, 3) := by decide +kernel
theorem dX5_othersWith_39 : decode cX5_othersWith 39 = .ok (.goto (-35), 3) := by decide +kernel
theorem dX5_othersWith_42 : decode cX5_othersWith 42 = .ok (.iload_n 2, 1) := by decide +kernel
theorem dX5_othersWith_43 : decode cX5_othersWith 43 = .ok (.ireturn, 1) := by decide +kernel
theorem dX5_sort_0 : decode cX5_sort 0 = .ok (.aload_n 0, 1) := by decide +kernel
theorem dX5_sort_1 : decode cX5_sort 1 = .ok (.invokevirtual 24, 3) := by decide +kernel
theorem dX5_sort_4 : decode cX5_sort 4 = .ok (.istore_n 3, 1) := by decide +kernel
theorem dX5_sort_5 : decode cX5_sort 5 = .ok (.aload_n 0, 1) := by decide +kernel
theorem dX5_sort_6 : decode cX5_sort 6 = .ok (.iconst 0, 1) := by decide +kernel
theorem dX5_sort_7 : decode cX5_sort 7 = .ok (.putfield 28, 3) := by decide +kernel
theorem dX5_sort_10 : decode cX5_sort 10 = .ok (.aload_n 0, 1) := by decide +kernel
theorem dX5_sort_11 : decode cX5_sort 11 = .ok (.iconst 0, 1) := by decide +kernel
theorem dX5_sort_12 : decode cX5_sort 12 = .ok (.putfield 32, 3) := by decide +kernel
theorem dX5_sort_15 : decode cX5_sort 15 = .ok (.aload_n 0, 1) := by decide +kernel
theorem dX5_sort_16 : decode cX5_sort 16 = .ok (.iconst 0, 1) := by decide +kernel
theorem dX5_sort_17 : decode cX5_sort 17 = .ok (.putfield 35, 3) := by decide +kernel
theorem dX5_sort_20 : decode cX5_sort 20 = .ok (.aload_n 0, 1) := by decide +kernel
theorem dX5_sort_21 : decode cX5_sort 21 = .ok (.iconst 0, 1) := by decide +kernel
theorem dX5_sort_22 : decode cX5_sort 22 = .ok (.putfield 38, 3) := by decide +kernel
theorem dX5_sort_25 : decode cX5_sort 25 = .ok (.iconst 0, 1) := by decide +kernel
theorem dX5_sort_26 : decode cX5_sort 26 = .ok (.istore 4, 2) := by decide +kernel
theorem dX5_sort_28 : decode cX5_sort 28 = .ok (.iload 4, 2) := by decide +kernel
theorem dX5_sort_30 : decode cX5_sort 30 = .ok (.aload_n 0, 1) := by decide +kernel
theorem dX5_sort_31 : decode cX5_sort 31 = .ok (.getfield 15, 3) := by decide +kernel
theorem dX5_sort_34 : decode cX5_sort 34 = .ok (.getfield 41, 3) := by decide +kernel
theorem dX5_sort_37 : decode cX5_sort 37 = .ok (.if_icmp .ge 117, 3) := by decide +kernel
theorem dX5_sort_40 : decode cX5_sort 40 = .ok (.iconst 0, 1) := by decide +kernel
theorem dX5_sort_41 : decode cX5_sort 41 = .ok (.istore 5, 2) := by decide +kernel
theorem dX5_sort_43 : decode cX5_sort 43 = .ok (.iload 5, 2) := by decide +kernel
theorem dX5_sort_45 : decode cX5_sort 45 = .ok (.aload_n 0, 1) := by decide +kernel
theorem dX5_sort_46 : decode cX5_sort 46 = .ok (.getfield 15, 3) := by decide +kernel
theorem dX5_sort_49 : decode cX5_sort 49 = .ok (.getfield 44, 3) := by decide +kernel
theorem dX5_sort_52 : decode cX5_sort 52 = .ok (.if_icmp .ge 96, 3) := by decide +kernel
theorem dX5_sort_55 : decode cX5_sort 55 = .ok (.iconst 0, 1) := by decide +kernel
theorem dX5_sort_56 : decode cX5_sort 56 = .ok (.istore 6, 2) := by decide +kernel
theorem dX5_sort_58 : decode cX5_sort 58 = .ok (.iload 6, 2) := by decide +kernel
theorem dX5_sort_60 : decode cX5_sort 60 = .ok (.iconst 2, 1) := by decide +kernel
theorem dX5_sort_61 : decode cX5_sort 61 = .ok (.if_icmp .ge 81, 3) := by decide +kernel
theorem dX5_sort_64 : decode cX5_sort 64 = .ok (.aload_n 0, 1) := by decide +kernel
theorem dX5_sort_65 : decode cX5_sort 65 = .ok (.getfield 15, 3) := by decide +kernel
theorem dX5_sort_68 : decode cX5_sort 68 = .ok (.iload 4, 2) := by decide +kernel
theorem dX5_sort_70 : decode cX5_sort 70 = .ok (.iload 5, 2) := by decide +kernel
theorem dX5_sort_72 : decode cX5_sort 72 = .ok (.iload 6, 2) := by decide +kernel
theorem dX5_sort_74 : decode cX5_sort 74 = .ok (.invokevirtual 47, 3) := by decide +kernel
theorem dX5_sort_77 : decode cX5_sort 77 = .ok (.istore 7, 2) := by decide +kernel
theorem dX5_sort_79 : decode cX5_sort 79 = .ok (.iload 7, 2) := by decide +kernel
theorem dX5_sort_81 : decode cX5_sort 81 = .ok (.ifCond .lt 55, 3) := by decide +kernel
theorem dX5_sort_84 : decode cX5_sort 84 = .ok (.aload_n 0, 1) := by decide +kernel
theorem dX5_sort_85 : decode cX5_sort 85 = .ok (.getfield 15, 3) := by decide +kernel
theorem dX5_sort_88 : decode cX5_sort 88 = .ok (.getfield 19, 3) := by decide +kernel
theorem dX5_sort_91 : decode cX5_sort 91 = .ok (.iload 7, 2) := by decide +kernel
theorem dX5_sort_93 : decode cX5_sort 93 = .ok (.iaload, 1) := by decide +kernel
theorem dX5_sort_94 : decode cX5_sort 94 = .ok (.ifCond .le 42, 3) := by decide +kernel
theorem dX5_sort_97 : decode cX5_sort 97 = .ok (.aload_n 0, 1) := by decide +kernel
theorem dX5_sort_98 : decode cX5_sort 98 = .ok (.aload_n 0, 1) := by decide +kernel
theorem dX5_sort_99 : decode cX5_sort 99 = .ok (.getfield 15, 3) := by decide +kernel
theorem dX5_sort_102 : decode cX5_sort 102 = .ok (.getfield 19, 3) := by decide +kernel
theorem dX5_sort_105 : decode cX5_sort 105 = .ok (.iload 7, 2) := by decide +kernel
theorem dX5_sort_107 : decode cX5_sort 107 = .ok (.iaload, 1) := by decide +kernel
theorem dX5_sort_108 : decode cX5_sort 108 = .ok (.iload_n 3, 1) := by decide +kernel
theorem dX5_sort_109 : decode cX5_sort 109 = .ok (.isub, 1) := by decide +kernel
theorem dX5_sort_110 : decode cX5_sort 110 = .ok (.invokestatic 51, 3) := by decide +kernel
theorem dX5_sort_113 : decode cX5_sort 113 = .ok (.iload_n 2, 1) := by decide +kernel
theorem dX5_sort_114 : decode cX5_sort 114 = .ok (.if_icmp .le 7, 3) := by decide +kernel
theorem dX5_sort_117 : decode cX5_sort 117 = .ok (.iconst 1, 1) := by decide +kernel
theorem dX5_sort_118 : decode cX5_sort 118 = .ok (.goto 4, 3) := by decide +kernel
theorem dX5_sort_121 : decode cX5_sort 121 = .ok (.iconst 0, 1) := by decide +kernel
theorem dX5_sort_122 : decode cX5_sort 122 = .ok (.iload 5, 2) := by decide +kernel
theorem dX5_sort_124 : decode cX5_sort 124 = .ok (.iload_n 1, 1) := by decide +kernel
theorem dX5_sort_125 : decode cX5_sort 125 = .ok (.if_icmp .ne 7, 3) := by decide +kernel
theorem dX5_sort_128 : decode cX5_sort 128 = .ok (.iconst 1, 1) := by decide +kernel
theorem dX5_sort_129 : decode cX5_sort 129 = .ok (.goto 4, 3) := by decide +kernel
theorem dX5_sort_132 : decode cX5_sort 132 = .ok (.iconst 0, 1) := by decide +kernel
theorem dX5_sort_133 : decode cX5_sort 133 = .ok (.invokevirtual 57, 3) := by decide +kernel
theorem dX5_sort_136 : decode cX5_sort 136 = .ok (.iinc 6 1, 3) := by decide +kernel
theorem dX5_sort_139 : decode cX5_sort 139 = .ok (.goto (-81), 3) := by decide +kernel
theorem dX5_sort_142 : decode cX5_sort 142 = .ok (.iinc 5 1, 3) := by decide +kernel
theorem dX5_sort_145 : decode cX5_sort 145 = .ok (.goto (-102), 3) := by decide +kernel
theorem dX5_sort_148 : decode cX5_sort 148 = .ok (.iinc 4 1, 3) := by decide +kernel
theorem dX5_sort_151 : decode cX5_sort 151 = .ok (.goto (-123), 3) := by decide +kernel
theorem dX5_sort_154 : decode cX5_sort 154 = .ok (.return_, 1) := by decide +kernel
theorem dX5_put_0 : decode cX5_put 0 = .ok (.aload_n 0, 1) := by decide +kernel
theorem dX5_put_1 : decode cX5_put 1 = .ok (.dup, 1) := by decide +kernel
theorem dX5_put_2 : decode cX5_put 2 = .ok (.getfield 28, 3) := by decide +kernel
theorem dX5_put_5 : decode cX5_put 5 = .ok (.iconst 1, 1) := by decide +kernel
theorem dX5_put_6 : decode cX5_put 6 = .ok (.iadd, 1) := by decide +kernel
theorem dX5_put_7 : decode cX5_put 7 = .ok (.putfield 28, 3) := by decide +kernel
theorem dX5_put_10 : decode cX5_put 10 = .ok (.aload_n 0, 1) := by decide +kernel
theorem dX5_put_11 : decode cX5_put 11 = .ok (.dup, 1) := by decide +kernel
theorem dX5_put_12 : decode cX5_put 12 = .ok (.getfield 32, 3) := by decide +kernel
theorem dX5_put_15 : decode cX5_put 15 = .ok (.iload_n 1, 1) := by decide +kernel
theorem dX5_put_16 : decode cX5_put 16 = .ok (.ifCond .eq 7, 3) := by decide +kernel
theorem dX5_put_19 : decode cX5_put 19 = .ok (.iconst 1, 1) := by decide +kernel
theorem dX5_put_20 : decode cX5_put 20 = .ok (.goto 4, 3) := by decide +kernel
theorem dX5_put_23 : decode cX5_put 23 = .ok (.iconst 0, 1) := by decide +kernel
theorem dX5_put_24 : decode cX5_put 24 = .ok (.iadd, 1) := by decide +kernel
theorem dX5_put_25 : decode cX5_put 25 = .ok (.putfield 32, 3) := by decide +kernel
theorem dX5_put_28 : decode cX5_put 28 = .ok (.aload_n 0, 1) := by decide +kernel
theorem dX5_put_29 : decode cX5_put 29 = .ok (.dup, 1) := by decide +kernel
theorem dX5_put_30 : decode cX5_put 30 = .ok (.getfield 35, 3) := by decide +kernel
theorem dX5_put_33 : decode cX5_put 33 = .ok (.iload_n 2, 1) := by decide +kernel
theorem dX5_put_34 : decode cX5_put 34 = .ok (.ifCond .eq 7, 3) := by decide +kernel
theorem dX5_put_37 : decode cX5_put 37 = .ok (.iconst 1, 1) := by decide +kernel
theorem dX5_put_38 : decode cX5_put 38 = .ok (.goto 4, 3) := by decide +kernel
theorem dX5_put_41 : decode cX5_put 41 = .ok (.iconst 0, 1) := by decide +kernel
theorem dX5_put_42 : decode cX5_put 42 = .ok (.iadd, 1) := by decide +kernel
theorem dX5_put_43 : decode cX5_put 43 = .ok (.putfield 35, 3) := by decide +kernel
theorem dX5_put_46 : decode cX5_put 46 = .ok (.aload_n 0, 1) := by decide +kernel
theorem dX5_put_47 : decode cX5_put 47 = .ok (.dup, 1) := by decide +kernel
theorem dX5_put_48 : decode cX5_put 48 = .ok (.getfield 38, 3) := by decide +kernel
theorem dX5_put_51 : decode cX5_put 51 = .ok (.iload_n 1, 1) := by decide +kernel
theorem dX5_put_52 : decode cX5_put 52 = .ok (.ifCond .eq 11, 3) := by decide +kernel
theorem dX5_put_55 : decode cX5_put 55 = .ok (.iload_n 2, 1) := by decide +kernel
theorem dX5_put_56 : decode cX5_put 56 = .ok (.ifCond .eq 7, 3) := by decide +kernel
theorem dX5_put_59 : decode cX5_put 59 = .ok (.iconst 1, 1) := by decide +kernel
theorem dX5_put_60 : decode cX5_put 60 = .ok (.goto 4, 3) := by decide +kernel
theorem dX5_put_63 : decode cX5_put 63 = .ok (.iconst 0, 1) := by decide +kernel
theorem dX5_put_64 : decode cX5_put 64 = .ok (.iadd, 1) := by decide +kernel
theorem dX5_put_65 : decode cX5_put 65 = .ok (.putfield 38, 3) := by decide +kernel
theorem dX5_put_68 : decode cX5_put 68 = .ok (.return_, 1) := by decide +kernel
theorem dX5_usual_0 : decode cX5_usual 0 = .ok (.aload_n 0, 1) := by decide +kernel
theorem dX5_usual_1 : decode cX5_usual 1 = .ok (.getfield 9, 3) := by decide +kernel
theorem dX5_usual_4 : decode cX5_usual 4 = .ok (.iconst 0, 1) := by decide +kernel
theorem dX5_usual_5 : decode cX5_usual 5 = .ok (.invokestatic 61, 3) := by decide +kernel
theorem dX5_usual_8 : decode cX5_usual 8 = .ok (.iconst 0, 1) := by decide +kernel
theorem dX5_usual_9 : decode cX5_usual 9 = .ok (.istore_n 1, 1) := by decide +kernel
theorem dX5_usual_10 : decode cX5_usual 10 = .ok (.iload_n 1, 1) := by decide +kernel
theorem dX5_usual_11 : decode cX5_usual 11 = .ok (.sipush 384, 3) := by decide +kernel
theorem dX5_usual_14 : decode cX5_usual 14 = .ok (.if_icmp .ge 33, 3) := by decide +kernel
theorem dX5_usual_17 : decode cX5_usual 17 = .ok (.aload_n 0, 1) := by decide +kernel
theorem dX5_usual_18 : decode cX5_usual 18 = .ok (.getfield 9, 3) := by decide +kernel
theorem dX5_usual_21 : decode cX5_usual 21 = .ok (.aload_n 0, 1) := by decide +kernel
theorem dX5_usual_22 : decode cX5_usual 22 = .ok (.getfield 15, 3) := by decide +kernel
theorem dX5_usual_25 : decode cX5_usual 25 = .ok (.getfield 19, 3) := by decide +kernel
theorem dX5_usual_28 : decode cX5_usual 28 = .ok (.iload_n 1, 1) := by decide +kernel
theorem dX5_usual_29 : decode cX5_usual 29 = .ok (.iaload, 1) := by decide +kernel
theorem dX5_usual_30 : decode cX5_usual 30 = .ok (.iconst 0, 1) := by decide +kernel
theorem dX5_usual_31 : decode cX5_usual 31 = .ok (.bipush 99, 2) := by decide +kernel
theorem dX5_usual_33 : decode cX5_usual 33 = .ok (.invokestatic 67, 3) := by decide +kernel
theorem dX5_usual_36 : decode cX5_usual 36 = .ok (.dup2, 1) := by decide +kernel
theorem dX5_usual_37 : decode cX5_usual 37 = .ok (.iaload, 1) := by decide +kernel
theorem dX5_usual_38 : decode cX5_usual 38 = .ok (.iconst 1, 1) := by decide +kernel
theorem dX5_usual_39 : decode cX5_usual 39 = .ok (.iadd, 1) := by decide +kernel
theorem dX5_usual_40 : decode cX5_usual 40 = .ok (.iastore, 1) := by decide +kernel
theorem dX5_usual_41 : decode cX5_usual 41 = .ok (.iinc 1 1, 3) := by decide +kernel
theorem dX5_usual_44 : decode cX5_usual 44 = .ok (.goto (-34), 3) := by decide +kernel
theorem dX5_usual_47 : decode cX5_usual 47 = .ok (.iconst 1, 1) := by decide +kernel
theorem dX5_usual_48 : decode cX5_usual 48 = .ok (.istore_n 1, 1) := by decide +kernel
theorem dX5_usual_49 : decode cX5_usual 49 = .ok (.iconst 2, 1) := by decide +kernel
theorem dX5_usual_50 : decode cX5_usual 50 = .ok (.istore_n 2, 1) := by decide +kernel
theorem dX5_usual_51 : decode cX5_usual 51 = .ok (.iload_n 2, 1) := by decide +kernel
theorem dX5_usual_52 : decode cX5_usual 52 = .ok (.bipush 99, 2) := by decide +kernel
theorem dX5_usual_54 : decode cX5_usual 54 = .ok (.if_icmp .gt 26, 3) := by decide +kernel
theorem dX5_usual_57 : decode cX5_usual 57 = .ok (.aload_n 0, 1) := by decide +kernel
theorem dX5_usual_58 : decode cX5_usual 58 = .ok (.getfield 9, 3) := by decide +kernel
theorem dX5_usual_61 : decode cX5_usual 61 = .ok (.iload_n 2, 1) := by decide +kernel
theorem dX5_usual_62 : decode cX5_usual 62 = .ok (.iaload, 1) := by decide +kernel
theorem dX5_usual_63 : decode cX5_usual 63 = .ok (.aload_n 0, 1) := by decide +kernel
theorem dX5_usual_64 : decode cX5_usual 64 = .ok (.getfield 9, 3) := by decide +kernel
theorem dX5_usual_67 : decode cX5_usual 67 = .ok (.iload_n 1, 1) := by decide +kernel
