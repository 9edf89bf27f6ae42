theorem dX11_gone_18 : decode cX11_gone 18 = .ok (.getfield 39, 3) := by decide +kernel
theorem dX11_gone_21 : decode cX11_gone 21 = .ok (.getfield 167, 3) := by decide +kernel
theorem dX11_gone_24 : decode cX11_gone 24 = .ok (.iload 4, 2) := by decide +kernel
theorem dX11_gone_26 : decode cX11_gone 26 = .ok (.baload, 1) := by decide +kernel
theorem dX11_gone_27 : decode cX11_gone 27 = .ok (.ifCond .eq 5, 3) := by decide +kernel
theorem dX11_gone_30 : decode cX11_gone 30 = .ok (.iconst 0, 1) := by decide +kernel
theorem dX11_gone_31 : decode cX11_gone 31 = .ok (.ireturn, 1) := by decide +kernel
theorem dX11_gone_32 : decode cX11_gone 32 = .ok (.aload_n 0, 1) := by decide +kernel
theorem dX11_gone_33 : decode cX11_gone 33 = .ok (.getfield 39, 3) := by decide +kernel
theorem dX11_gone_36 : decode cX11_gone 36 = .ok (.iload 4, 2) := by decide +kernel
theorem dX11_gone_38 : decode cX11_gone 38 = .ok (.iload_n 2, 1) := by decide +kernel
theorem dX11_gone_39 : decode cX11_gone 39 = .ok (.invokevirtual 171, 3) := by decide +kernel
theorem dX11_gone_42 : decode cX11_gone 42 = .ok (.iconst 1, 1) := by decide +kernel
theorem dX11_gone_43 : decode cX11_gone 43 = .ok (.ireturn, 1) := by decide +kernel
theorem dX11_rivet_0 : decode cX11_rivet 0 = .ok (.aload_n 0, 1) := by decide +kernel
theorem dX11_rivet_1 : decode cX11_rivet 1 = .ok (.getfield 39, 3) := by decide +kernel
theorem dX11_rivet_4 : decode cX11_rivet 4 = .ok (.iload_n 1, 1) := by decide +kernel
theorem dX11_rivet_5 : decode cX11_rivet 5 = .ok (.iload_n 2, 1) := by decide +kernel
theorem dX11_rivet_6 : decode cX11_rivet 6 = .ok (.iload_n 3, 1) := by decide +kernel
theorem dX11_rivet_7 : decode cX11_rivet 7 = .ok (.invokevirtual 159, 3) := by decide +kernel
theorem dX11_rivet_10 : decode cX11_rivet 10 = .ok (.istore 5, 2) := by decide +kernel
theorem dX11_rivet_12 : decode cX11_rivet 12 = .ok (.iload 5, 2) := by decide +kernel
theorem dX11_rivet_14 : decode cX11_rivet 14 = .ok (.ifCond .ge 7, 3) := by decide +kernel
theorem dX11_rivet_17 : decode cX11_rivet 17 = .ok (.sipush (-10000), 3) := by decide +kernel
theorem dX11_rivet_20 : decode cX11_rivet 20 = .ok (.ireturn, 1) := by decide +kernel
theorem dX11_rivet_21 : decode cX11_rivet 21 = .ok (.iload 4, 2) := by decide +kernel
theorem dX11_rivet_23 : decode cX11_rivet 23 = .ok (.tableswitch 104 0 4 #[33, 44, 55, 74, 85], 33) := by decide +kernel
theorem dX11_rivet_56 : decode cX11_rivet 56 = .ok (.aload_n 0, 1) := by decide +kernel
theorem dX11_rivet_57 : decode cX11_rivet 57 = .ok (.getfield 39, 3) := by decide +kernel
theorem dX11_rivet_60 : decode cX11_rivet 60 = .ok (.getfield 175, 3) := by decide +kernel
theorem dX11_rivet_63 : decode cX11_rivet 63 = .ok (.iload 5, 2) := by decide +kernel
theorem dX11_rivet_65 : decode cX11_rivet 65 = .ok (.iaload, 1) := by decide +kernel
theorem dX11_rivet_66 : decode cX11_rivet 66 = .ok (.ireturn, 1) := by decide +kernel
theorem dX11_rivet_67 : decode cX11_rivet 67 = .ok (.aload_n 0, 1) := by decide +kernel
theorem dX11_rivet_68 : decode cX11_rivet 68 = .ok (.getfield 39, 3) := by decide +kernel
theorem dX11_rivet_71 : decode cX11_rivet 71 = .ok (.getfield 178, 3) := by decide +kernel
theorem dX11_rivet_74 : decode cX11_rivet 74 = .ok (.iload 5, 2) := by decide +kernel
theorem dX11_rivet_76 : decode cX11_rivet 76 = .ok (.iaload, 1) := by decide +kernel
theorem dX11_rivet_77 : decode cX11_rivet 77 = .ok (.ireturn, 1) := by decide +kernel
theorem dX11_rivet_78 : decode cX11_rivet 78 = .ok (.aload_n 0, 1) := by decide +kernel
theorem dX11_rivet_79 : decode cX11_rivet 79 = .ok (.getfield 39, 3) := by decide +kernel
theorem dX11_rivet_82 : decode cX11_rivet 82 = .ok (.getfield 167, 3) := by decide +kernel
theorem dX11_rivet_85 : decode cX11_rivet 85 = .ok (.iload 5, 2) := by decide +kernel
theorem dX11_rivet_87 : decode cX11_rivet 87 = .ok (.baload, 1) := by decide +kernel
theorem dX11_rivet_88 : decode cX11_rivet 88 = .ok (.ifCond .eq 7, 3) := by decide +kernel
theorem dX11_rivet_91 : decode cX11_rivet 91 = .ok (.iconst 1, 1) := by decide +kernel
theorem dX11_rivet_92 : decode cX11_rivet 92 = .ok (.goto 4, 3) := by decide +kernel
theorem dX11_rivet_95 : decode cX11_rivet 95 = .ok (.iconst 0, 1) := by decide +kernel
theorem dX11_rivet_96 : decode cX11_rivet 96 = .ok (.ireturn, 1) := by decide +kernel
theorem dX11_rivet_97 : decode cX11_rivet 97 = .ok (.aload_n 0, 1) := by decide +kernel
theorem dX11_rivet_98 : decode cX11_rivet 98 = .ok (.getfield 39, 3) := by decide +kernel
theorem dX11_rivet_101 : decode cX11_rivet 101 = .ok (.getfield 181, 3) := by decide +kernel
theorem dX11_rivet_104 : decode cX11_rivet 104 = .ok (.iload 5, 2) := by decide +kernel
theorem dX11_rivet_106 : decode cX11_rivet 106 = .ok (.iaload, 1) := by decide +kernel
theorem dX11_rivet_107 : decode cX11_rivet 107 = .ok (.ireturn, 1) := by decide +kernel
theorem dX11_rivet_108 : decode cX11_rivet 108 = .ok (.aload_n 0, 1) := by decide +kernel
theorem dX11_rivet_109 : decode cX11_rivet 109 = .ok (.getfield 39, 3) := by decide +kernel
theorem dX11_rivet_112 : decode cX11_rivet 112 = .ok (.iload 5, 2) := by decide +kernel
theorem dX11_rivet_114 : decode cX11_rivet 114 = .ok (.iload_n 1, 1) := by decide +kernel
theorem dX11_rivet_115 : decode cX11_rivet 115 = .ok (.invokevirtual 184, 3) := by decide +kernel
theorem dX11_rivet_118 : decode cX11_rivet 118 = .ok (.ifCond .eq 7, 3) := by decide +kernel
theorem dX11_rivet_121 : decode cX11_rivet 121 = .ok (.iconst 1, 1) := by decide +kernel
theorem dX11_rivet_122 : decode cX11_rivet 122 = .ok (.goto 4, 3) := by decide +kernel
theorem dX11_rivet_125 : decode cX11_rivet 125 = .ok (.iconst 0, 1) := by decide +kernel
theorem dX11_rivet_126 : decode cX11_rivet 126 = .ok (.ireturn, 1) := by decide +kernel
theorem dX11_rivet_127 : decode cX11_rivet 127 = .ok (.sipush (-10000), 3) := by decide +kernel
theorem dX11_rivet_130 : decode cX11_rivet 130 = .ok (.ireturn, 1) := by decide +kernel
theorem dX11_cut_0 : decode cX11_cut 0 = .ok (.iload_n 1, 1) := by decide +kernel
theorem dX11_cut_1 : decode cX11_cut 1 = .ok (.aload_n 0, 1) := by decide +kernel
theorem dX11_cut_2 : decode cX11_cut 2 = .ok (.getfield 39, 3) := by decide +kernel
theorem dX11_cut_5 : decode cX11_cut 5 = .ok (.invokevirtual 188, 3) := by decide +kernel
theorem dX11_cut_8 : decode cX11_cut 8 = .ok (.iconst (-1), 1) := by decide +kernel
theorem dX11_cut_9 : decode cX11_cut 9 = .ok (.ixor, 1) := by decide +kernel
theorem dX11_cut_10 : decode cX11_cut 10 = .ok (.iand, 1) := by decide +kernel
theorem dX11_cut_11 : decode cX11_cut 11 = .ok (.ifCond .eq 5, 3) := by decide +kernel
theorem dX11_cut_14 : decode cX11_cut 14 = .ok (.iconst 0, 1) := by decide +kernel
theorem dX11_cut_15 : decode cX11_cut 15 = .ok (.ireturn, 1) := by decide +kernel
theorem dX11_cut_16 : decode cX11_cut 16 = .ok (.aload_n 0, 1) := by decide +kernel
theorem dX11_cut_17 : decode cX11_cut 17 = .ok (.getfield 39, 3) := by decide +kernel
theorem dX11_cut_20 : decode cX11_cut 20 = .ok (.iload_n 1, 1) := by decide +kernel
theorem dX11_cut_21 : decode cX11_cut 21 = .ok (.invokevirtual 191, 3) := by decide +kernel
theorem dX11_cut_24 : decode cX11_cut 24 = .ok (.iconst 1, 1) := by decide +kernel
theorem dX11_cut_25 : decode cX11_cut 25 = .ok (.ireturn, 1) := by decide +kernel
theorem dX11_drawing_0 : decode cX11_drawing 0 = .ok (.aload_n 0, 1) := by decide +kernel
theorem dX11_drawing_1 : decode cX11_drawing 1 = .ok (.getfield 39, 3) := by decide +kernel
theorem dX11_drawing_4 : decode cX11_drawing 4 = .ok (.invokevirtual 147, 3) := by decide +kernel
theorem dX11_drawing_7 : decode cX11_drawing 7 = .ok (.ifCond .eq 14, 3) := by decide +kernel
theorem dX11_drawing_10 : decode cX11_drawing 10 = .ok (.iload_n 1, 1) := by decide +kernel
theorem dX11_drawing_11 : decode cX11_drawing 11 = .ok (.iconst 0, 1) := by decide +kernel
theorem dX11_drawing_12 : decode cX11_drawing 12 = .ok (.sipush 2100, 3) := by decide +kernel
theorem dX11_drawing_15 : decode cX11_drawing 15 = .ok (.invokestatic 100, 3) := by decide +kernel
theorem dX11_drawing_18 : decode cX11_drawing 18 = .ok (.ifCond .ne 5, 3) := by decide +kernel
theorem dX11_drawing_21 : decode cX11_drawing 21 = .ok (.iconst (-1), 1) := by decide +kernel
theorem dX11_drawing_22 : decode cX11_drawing 22 = .ok (.ireturn, 1) := by decide +kernel
theorem dX11_drawing_23 : decode cX11_drawing 23 = .ok (.aload_n 0, 1) := by decide +kernel
theorem dX11_drawing_24 : decode cX11_drawing 24 = .ok (.getfield 48, 3) := by decide +kernel
theorem dX11_drawing_27 : decode cX11_drawing 27 = .ok (.invokevirtual 194, 3) := by decide +kernel
theorem dX11_drawing_30 : decode cX11_drawing 30 = .ok (.ireturn, 1) := by decide +kernel
theorem dX11_mark_0 : decode cX11_mark 0 = .ok (.aload_n 0, 1) := by decide +kernel
theorem dX11_mark_1 : decode cX11_mark 1 = .ok (.getfield 39, 3) := by decide +kernel
theorem dX11_mark_4 : decode cX11_mark 4 = .ok (.iload_n 2, 1) := by decide +kernel
theorem dX11_mark_5 : decode cX11_mark 5 = .ok (.iload_n 3, 1) := by decide +kernel
theorem dX11_mark_6 : decode cX11_mark 6 = .ok (.iload 4, 2) := by decide +kernel
theorem dX11_mark_8 : decode cX11_mark 8 = .ok (.invokevirtual 159, 3) := by decide +kernel
theorem dX11_mark_11 : decode cX11_mark 11 = .ok (.istore 7, 2) := by decide +kernel
theorem dX11_mark_13 : decode cX11_mark 13 = .ok (.iload 7, 2) := by decide +kernel
theorem dX11_mark_15 : decode cX11_mark 15 = .ok (.ifCond .lt 42, 3) := by decide +kernel
theorem dX11_mark_18 : decode cX11_mark 18 = .ok (.aload_n 0, 1) := by decide +kernel
theorem dX11_mark_19 : decode cX11_mark 19 = .ok (.getfield 48, 3) := by decide +kernel
theorem dX11_mark_22 : decode cX11_mark 22 = .ok (.iload_n 1, 1) := by decide +kernel
theorem dX11_mark_23 : decode cX11_mark 23 = .ok (.invokevirtual 197, 3) := by decide +kernel
theorem dX11_mark_26 : decode cX11_mark 26 = .ok (.ifCond .eq 31, 3) := by decide +kernel
theorem dX11_mark_29 : decode cX11_mark 29 = .ok (.iload 5, 2) := by decide +kernel
theorem dX11_mark_31 : decode cX11_mark 31 = .ok (.sipush (-6000), 3) := by decide +kernel
theorem dX11_mark_34 : decode cX11_mark 34 = .ok (.sipush 6000, 3) := by decide +kernel
theorem dX11_mark_37 : decode cX11_mark 37 = .ok (.invokestatic 100, 3) := by decide +kernel
theorem dX11_mark_40 : decode cX11_mark 40 = .ok (.ifCond .eq 17, 3) := by decide +kernel
theorem dX11_mark_43 : decode cX11_mark 43 = .ok (.iload 6, 2) := by decide +kernel
theorem dX11_mark_45 : decode cX11_mark 45 = .ok (.sipush (-6000), 3) := by decide +kernel
theorem dX11_mark_48 : decode cX11_mark 48 = .ok (.sipush 6000, 3) := by decide +kernel
theorem dX11_mark_51 : decode cX11_mark 51 = .ok (.invokestatic 100, 3) := by decide +kernel
theorem dX11_mark_54 : decode cX11_mark 54 = .ok (.ifCond .ne 5, 3) := by decide +kernel
theorem dX11_mark_57 : decode cX11_mark 57 = .ok (.iconst 0, 1) := by decide +kernel
theorem dX11_mark_58 : decode cX11_mark 58 = .ok (.ireturn, 1) := by decide +kernel
theorem dX11_mark_59 : decode cX11_mark 59 = .ok (.aload_n 0, 1) := by decide +kernel
theorem dX11_mark_60 : decode cX11_mark 60 = .ok (.getfield 48, 3) := by decide +kernel
theorem dX11_mark_63 : decode cX11_mark 63 = .ok (.iload_n 1, 1) := by decide +kernel
theorem dX11_mark_64 : decode cX11_mark 64 = .ok (.iload 7, 2) := by decide +kernel
theorem dX11_mark_66 : decode cX11_mark 66 = .ok (.iload 5, 2) := by decide +kernel
theorem dX11_mark_68 : decode cX11_mark 68 = .ok (.iload 6, 2) := by decide +kernel
theorem dX11_mark_70 : decode cX11_mark 70 = .ok (.invokevirtual 200, 3) := by decide +kernel
theorem dX11_mark_73 : decode cX11_mark 73 = .ok (.iconst 1, 1) := by decide +kernel
theorem dX11_mark_74 : decode cX11_mark 74 = .ok (.ireturn, 1) := by decide +kernel
theorem dX11_draw_0 : decode cX11_draw 0 = .ok (.aload_n 0, 1) := by decide +kernel
theorem dX11_draw_1 : decode cX11_draw 1 = .ok (.getfield 48, 3) := by decide +kernel
theorem dX11_draw_4 : decode cX11_draw 4 = .ok (.iload_n 1, 1) := by decide +kernel
theorem dX11_draw_5 : decode cX11_draw 5 = .ok (.invokevirtual 197, 3) := by decide +kernel
theorem dX11_draw_8 : decode cX11_draw 8 = .ok (.ifCond .eq 41, 3) := by decide +kernel
theorem dX11_draw_11 : decode cX11_draw 11 = .ok (.iload_n 2, 1) := by decide +kernel
theorem dX11_draw_12 : decode cX11_draw 12 = .ok (.sipush (-2000), 3) := by decide +kernel
theorem dX11_draw_15 : decode cX11_draw 15 = .ok (.sipush 2000, 3) := by decide +kernel
theorem dX11_draw_18 : decode cX11_draw 18 = .ok (.invokestatic 100, 3) := by decide +kernel
theorem dX11_draw_21 : decode cX11_draw 21 = .ok (.ifCond .eq 28, 3) := by decide +kernel
theorem dX11_draw_24 : decode cX11_draw 24 = .ok (.iload_n 3, 1) := by decide +kernel
theorem dX11_draw_25 : decode cX11_draw 25 = .ok (.sipush (-2000), 3) := by decide +kernel
theorem dX11_draw_28 : decode cX11_draw 28 = .ok (.sipush 2000, 3) := by decide +kernel
theorem dX11_draw_31 : decode cX11_draw 31 = .ok (.invokestatic 100, 3) := by decide +kernel
theorem dX11_draw_34 : decode cX11_draw 34 = .ok (.ifCond .eq 15, 3) := by decide +kernel
theorem dX11_draw_37 : decode cX11_draw 37 = .ok (.iload 4, 2) := by decide +kernel
theorem dX11_draw_39 : decode cX11_draw 39 = .ok (.iconst 0, 1) := by decide +kernel
theorem dX11_draw_40 : decode cX11_draw 40 = .ok (.sipush 1000, 3) := by decide +kernel
theorem dX11_draw_43 : decode cX11_draw 43 = .ok (.invokestatic 100, 3) := by decide +kernel
theorem dX11_draw_46 : decode cX11_draw 46 = .ok (.ifCond .ne 5, 3) := by decide +kernel
theorem dX11_draw_49 : decode cX11_draw 49 = .ok (.iconst (-1), 1) := by decide +kernel
theorem dX11_draw_50 : decode cX11_draw 50 = .ok (.ireturn, 1) := by decide +kernel
theorem dX11_draw_51 : decode cX11_draw 51 = .ok (.aload_n 0, 1) := by decide +kernel
theorem dX11_draw_52 : decode cX11_draw 52 = .ok (.getfield 48, 3) := by decide +kernel
theorem dX11_draw_55 : decode cX11_draw 55 = .ok (.iload_n 1, 1) := by decide +kernel
theorem dX11_draw_56 : decode cX11_draw 56 = .ok (.iload_n 2, 1) := by decide +kernel
theorem dX11_draw_57 : decode cX11_draw 57 = .ok (.iload_n 3, 1) := by decide +kernel
theorem dX11_draw_58 : decode cX11_draw 58 = .ok (.iload 4, 2) := by decide +kernel
theorem dX11_draw_60 : decode cX11_draw 60 = .ok (.invokevirtual 202, 3) := by decide +kernel
theorem dX11_draw_63 : decode cX11_draw 63 = .ok (.aload_n 0, 1) := by decide +kernel
theorem dX11_draw_64 : decode cX11_draw 64 = .ok (.getfield 48, 3) := by decide +kernel
theorem dX11_draw_67 : decode cX11_draw 67 = .ok (.iload_n 1, 1) := by decide +kernel
theorem dX11_draw_68 : decode cX11_draw 68 = .ok (.invokevirtual 205, 3) := by decide +kernel
theorem dX11_draw_71 : decode cX11_draw 71 = .ok (.ireturn, 1) := by decide +kernel
theorem dX11_marked_0 : decode cX11_marked 0 = .ok (.aload_n 0, 1) := by decide +kernel
theorem dX11_marked_1 : decode cX11_marked 1 = .ok (.getfield 39, 3) := by decide +kernel
theorem dX11_marked_4 : decode cX11_marked 4 = .ok (.iload_n 2, 1) := by decide +kernel
theorem dX11_marked_5 : decode cX11_marked 5 = .ok (.iload_n 3, 1) := by decide +kernel
theorem dX11_marked_6 : decode cX11_marked 6 = .ok (.iload 4, 2) := by decide +kernel
theorem dX11_marked_8 : decode cX11_marked 8 = .ok (.invokevirtual 159, 3) := by decide +kernel
theorem dX11_marked_11 : decode cX11_marked 11 = .ok (.istore 6, 2) := by decide +kernel
theorem dX11_marked_13 : decode cX11_marked 13 = .ok (.iload 6, 2) := by decide +kernel
theorem dX11_marked_15 : decode cX11_marked 15 = .ok (.ifCond .lt 26, 3) := by decide +kernel
theorem dX11_marked_18 : decode cX11_marked 18 = .ok (.iload 5, 2) := by decide +kernel
theorem dX11_marked_20 : decode cX11_marked 20 = .ok (.iconst 0, 1) := by decide +kernel
theorem dX11_marked_21 : decode cX11_marked 21 = .ok (.iconst 1, 1) := by decide +kernel
theorem dX11_marked_22 : decode cX11_marked 22 = .ok (.invokestatic 100, 3) := by decide +kernel
theorem dX11_marked_25 : decode cX11_marked 25 = .ok (.ifCond .eq 16, 3) := by decide +kernel
theorem dX11_marked_28 : decode cX11_marked 28 = .ok (.aload_n 0, 1) := by decide +kernel
theorem dX11_marked_29 : decode cX11_marked 29 = .ok (.getfield 48, 3) := by decide +kernel
theorem dX11_marked_32 : decode cX11_marked 32 = .ok (.iload_n 1, 1) := by decide +kernel
theorem dX11_marked_33 : decode cX11_marked 33 = .ok (.iload 6, 2) := by decide +kernel
theorem dX11_marked_35 : decode cX11_marked 35 = .ok (.invokevirtual 209, 3) := by decide +kernel
theorem dX11_marked_38 : decode cX11_marked 38 = .ok (.ifCond .ne 7, 3) := by decide +kernel
theorem dX11_marked_41 : decode cX11_marked 41 = .ok (.sipush (-10000), 3) := by decide +kernel
theorem dX11_marked_44 : decode cX11_marked 44 = .ok (.ireturn, 1) := by decide +kernel
theorem dX11_marked_45 : decode cX11_marked 45 = .ok (.aload_n 0, 1) := by decide +kernel
theorem dX11_marked_46 : decode cX11_marked 46 = .ok (.getfield 48, 3) := by decide +kernel
theorem dX11_marked_49 : decode cX11_marked 49 = .ok (.iload_n 1, 1) := by decide +kernel
theorem dX11_marked_50 : decode cX11_marked 50 = .ok (.iload 6, 2) := by decide +kernel
theorem dX11_marked_52 : decode cX11_marked 52 = .ok (.iload 5, 2) := by decide +kernel
theorem dX11_marked_54 : decode cX11_marked 54 = .ok (.invokevirtual 212, 3) := by decide +kernel
theorem dX11_marked_57 : decode cX11_marked 57 = .ok (.ireturn, 1) := by decide +kernel
theorem dX11_joined_0 : decode cX11_joined 0 = .ok (.aload_n 0, 1) := by decide +kernel
theorem dX11_joined_1 : decode cX11_joined 1 = .ok (.getfield 48, 3) := by decide +kernel
theorem dX11_joined_4 : decode cX11_joined 4 = .ok (.iload_n 1, 1) := by decide +kernel
theorem dX11_joined_5 : decode cX11_joined 5 = .ok (.iload_n 2, 1) := by decide +kernel
theorem dX11_joined_6 : decode cX11_joined 6 = .ok (.invokevirtual 215, 3) := by decide +kernel
theorem dX11_joined_9 : decode cX11_joined 9 = .ok (.ifCond .eq 12, 3) := by decide +kernel
theorem dX11_joined_12 : decode cX11_joined 12 = .ok (.iload_n 3, 1) := by decide +kernel
theorem dX11_joined_13 : decode cX11_joined 13 = .ok (.iconst 0, 1) := by decide +kernel
theorem dX11_joined_14 : decode cX11_joined 14 = .ok (.iconst 4, 1) := by decide +kernel
theorem dX11_joined_15 : decode cX11_joined 15 = .ok (.invokestatic 100, 3) := by decide +kernel
theorem dX11_joined_18 : decode cX11_joined 18 = .ok (.ifCond .ne 6, 3) := by decide +kernel
theorem dX11_joined_21 : decode cX11_joined 21 = .ok (.ldc 218, 2) := by decide +kernel
theorem dX11_joined_23 : decode cX11_joined 23 = .ok (.ireturn, 1) := by decide +kernel
theorem dX11_joined_24 : decode cX11_joined 24 = .ok (.aload_n 0, 1) := by decide +kernel
theorem dX11_joined_25 : decode cX11_joined 25 = .ok (.getfield 48, 3) := by decide +kernel
theorem dX11_joined_28 : decode cX11_joined 28 = .ok (.iload_n 1, 1) := by decide +kernel
theorem dX11_joined_29 : decode cX11_joined 29 = .ok (.iload_n 2, 1) := by decide +kernel
theorem dX11_joined_30 : decode cX11_joined 30 = .ok (.invokevirtual 219, 3) := by decide +kernel
theorem dX11_joined_33 : decode cX11_joined 33 = .ok (.istore 4, 2) := by decide +kernel
theorem dX11_joined_35 : decode cX11_joined 35 = .ok (.iload_n 3, 1) := by decide +kernel
theorem dX11_joined_36 : decode cX11_joined 36 = .ok (.iconst 2, 1) := by decide +kernel
theorem dX11_joined_37 : decode cX11_joined 37 = .ok (.if_icmp .ne 6, 3) := by decide +kernel
theorem dX11_joined_40 : decode cX11_joined 40 = .ok (.iload 4, 2) := by decide +kernel
theorem dX11_joined_42 : decode cX11_joined 42 = .ok (.ireturn, 1) := by decide +kernel
theorem dX11_joined_43 : decode cX11_joined 43 = .ok (.iload 4, 2) := by decide +kernel
theorem dX11_joined_45 : decode cX11_joined 45 = .ok (.ifCond .ne 6, 3) := by decide +kernel
theorem dX11_joined_48 : decode cX11_joined 48 = .ok (.ldc 218, 2) := by decide +kernel
theorem dX11_joined_50 : decode cX11_joined 50 = .ok (.ireturn, 1) := by decide +kernel
theorem dX11_joined_51 : decode cX11_joined 51 = .ok (.iload_n 3, 1) := by decide +kernel
theorem dX11_joined_52 : decode cX11_joined 52 = .ok (.iconst 2, 1) := by decide +kernel
theorem dX11_joined_53 : decode cX11_joined 53 = .ok (.if_icmp .ge 14, 3) := by decide +kernel
theorem dX11_joined_56 : decode cX11_joined 56 = .ok (.aload_n 0, 1) := by decide +kernel
theorem dX11_joined_57 : decode cX11_joined 57 = .ok (.getfield 48, 3) := by decide +kernel
theorem dX11_joined_60 : decode cX11_joined 60 = .ok (.iload_n 1, 1) := by decide +kernel
theorem dX11_joined_61 : decode cX11_joined 61 = .ok (.iload_n 2, 1) := by decide +kernel
theorem dX11_joined_62 : decode cX11_joined 62 = .ok (.iload_n 3, 1) := by decide +kernel
theorem dX11_joined_63 : decode cX11_joined 63 = .ok (.invokevirtual 223, 3) := by decide +kernel
theorem dX11_joined_66 : decode cX11_joined 66 = .ok (.ireturn, 1) := by decide +kernel
theorem dX11_joined_67 : decode cX11_joined 67 = .ok (.aload_n 0, 1) := by decide +kernel
theorem dX11_joined_68 : decode cX11_joined 68 = .ok (.getfield 48, 3) := by decide +kernel
theorem dX11_joined_71 : decode cX11_joined 71 = .ok (.iload_n 1, 1) := by decide +kernel
theorem dX11_joined_72 : decode cX11_joined 72 = .ok (.iload_n 2, 1) := by decide +kernel
theorem dX11_joined_73 : decode cX11_joined 73 = .ok (.iload_n 3, 1) := by decide +kernel
theorem dX11_joined_74 : decode cX11_joined 74 = .ok (.iconst 3, 1) := by decide +kernel
theorem dX11_joined_75 : decode cX11_joined 75 = .ok (.isub, 1) := by decide +kernel
theorem dX11_joined_76 : decode cX11_joined 76 = .ok (.invokevirtual 226, 3) := by decide +kernel
theorem dX11_joined_79 : decode cX11_joined 79 = .ok (.ireturn, 1) := by decide +kernel
theorem dX11_off_0 : decode cX11_off 0 = .ok (.aload_n 0, 1) := by decide +kernel
theorem dX11_off_1 : decode cX11_off 1 = .ok (.getfield 48, 3) := by decide +kernel
theorem dX11_off_4 : decode cX11_off 4 = .ok (.iload_n 1, 1) := by decide +kernel
theorem dX11_off_5 : decode cX11_off 5 = .ok (.iload_n 2, 1) := by decide +kernel
theorem dX11_off_6 : decode cX11_off 6 = .ok (.invokevirtual 215, 3) := by decide +kernel
theorem dX11_off_9 : decode cX11_off 9 = .ok (.ifCond .eq 26, 3) := by decide +kernel
theorem dX11_off_12 : decode cX11_off 12 = .ok (.iload_n 3, 1) := by decide +kernel
theorem dX11_off_13 : decode cX11_off 13 = .ok (.iconst 0, 1) := by decide +kernel
theorem dX11_off_14 : decode cX11_off 14 = .ok (.sipush 12000, 3) := by decide +kernel
theorem dX11_off_17 : decode cX11_off 17 = .ok (.invokestatic 100, 3) := by decide +kernel
theorem dX11_off_20 : decode cX11_off 20 = .ok (.ifCond .eq 15, 3) := by decide +kernel
theorem dX11_off_23 : decode cX11_off 23 = .ok (.aload_n 0, 1) := by decide +kernel
theorem dX11_off_24 : decode cX11_off 24 = .ok (.getfield 48, 3) := by decide +kernel
theorem dX11_off_27 : decode cX11_off 27 = .ok (.iload_n 1, 1) := by decide +kernel
theorem dX11_off_28 : decode cX11_off 28 = .ok (.iload_n 2, 1) := by decide +kernel
theorem dX11_off_29 : decode cX11_off 29 = .ok (.invokevirtual 219, 3) := by decide +kernel
theorem dX11_off_32 : decode cX11_off 32 = .ok (.ifCond .ne 5, 3) := by decide +kernel
theorem dX11_off_35 : decode cX11_off 35 = .ok (.iconst (-1), 1) := by decide +kernel
theorem dX11_off_36 : decode cX11_off 36 = .ok (.ireturn, 1) := by decide +kernel
theorem dX11_off_37 : decode cX11_off 37 = .ok (.aload_n 0, 1) := by decide +kernel
theorem dX11_off_38 : decode cX11_off 38 = .ok (.getfield 48, 3) := by decide +kernel
theorem dX11_off_41 : decode cX11_off 41 = .ok (.iload_n 1, 1) := by decide +kernel
theorem dX11_off_42 : decode cX11_off 42 = .ok (.iload_n 2, 1) := by decide +kernel
theorem dX11_off_43 : decode cX11_off 43 = .ok (.iload_n 3, 1) := by decide +kernel
theorem dX11_off_44 : decode cX11_off 44 = .ok (.invokevirtual 229, 3) := by decide +kernel
theorem dX11_off_47 : decode cX11_off 47 = .ok (.ireturn, 1) := by decide +kernel
theorem dX11_slipped_0 : decode cX11_slipped 0 = .ok (.aload_n 0, 1) := by decide +kernel
theorem dX11_slipped_1 : decode cX11_slipped 1 = .ok (.getfield 39, 3) := by decide +kernel
theorem dX11_slipped_4 : decode cX11_slipped 4 = .ok (.iload 4, 2) := by decide +kernel
theorem dX11_slipped_6 : decode cX11_slipped 6 = .ok (.iload 5, 2) := by decide +kernel
theorem dX11_slipped_8 : decode cX11_slipped 8 = .ok (.iload 6, 2) := by decide +kernel
theorem dX11_slipped_10 : decode cX11_slipped 10 = .ok (.invokevirtual 159, 3) := by decide +kernel
theorem dX11_slipped_13 : decode cX11_slipped 13 = .ok (.istore 7, 2) := by decide +kernel
theorem dX11_slipped_15 : decode cX11_slipped 15 = .ok (.iload 7, 2) := by decide +kernel
theorem dX11_slipped_17 : decode cX11_slipped 17 = .ok (.ifCond .lt 18, 3) := by decide +kernel
theorem dX11_slipped_20 : decode cX11_slipped 20 = .ok (.iload_n 1, 1) := by decide +kernel
theorem dX11_slipped_21 : decode cX11_slipped 21 = .ok (.iload_n 2, 1) := by decide +kernel
theorem dX11_slipped_22 : decode cX11_slipped 22 = .ok (.if_icmp .eq 13, 3) := by decide +kernel
theorem dX11_slipped_25 : decode cX11_slipped 25 = .ok (.iload_n 1, 1) := by decide +kernel
theorem dX11_slipped_26 : decode cX11_slipped 26 = .ok (.iload_n 3, 1) := by decide +kernel
theorem dX11_slipped_27 : decode cX11_slipped 27 = .ok (.if_icmp .eq 8, 3) := by decide +kernel
theorem dX11_slipped_30 : decode cX11_slipped 30 = .ok (.iload_n 2, 1) := by decide +kernel
theorem dX11_slipped_31 : decode cX11_slipped 31 = .ok (.iload_n 3, 1) := by decide +kernel
theorem dX11_slipped_32 : decode cX11_slipped 32 = .ok (.if_icmp .ne 5, 3) := by decide +kernel
theorem dX11_slipped_35 : decode cX11_slipped 35 = .ok (.iconst (-1), 1) := by decide +kernel
theorem dX11_slipped_36 : decode cX11_slipped 36 = .ok (.ireturn, 1) := by decide +kernel
theorem dX11_slipped_37 : decode cX11_slipped 37 = .ok (.aload_n 0, 1) := by decide +kernel
theorem dX11_slipped_38 : decode cX11_slipped 38 = .ok (.getfield 48, 3) := by decide +kernel
theorem dX11_slipped_41 : decode cX11_slipped 41 = .ok (.iload_n 1, 1) := by decide +kernel
theorem dX11_slipped_42 : decode cX11_slipped 42 = .ok (.iload 7, 2) := by decide +kernel
theorem dX11_slipped_44 : decode cX11_slipped 44 = .ok (.invokevirtual 209, 3) := by decide +kernel
theorem dX11_slipped_47 : decode cX11_slipped 47 = .ok (.ifCond .eq 29, 3) := by decide +kernel
theorem dX11_slipped_50 : decode cX11_slipped 50 = .ok (.aload_n 0, 1) := by decide +kernel
theorem dX11_slipped_51 : decode cX11_slipped 51 = .ok (.getfield 48, 3) := by decide +kernel
theorem dX11_slipped_54 : decode cX11_slipped 54 = .ok (.iload_n 2, 1) := by decide +kernel
theorem dX11_slipped_55 : decode cX11_slipped 55 = .ok (.iload 7, 2) := by decide +kernel
theorem dX11_slipped_57 : decode cX11_slipped 57 = .ok (.invokevirtual 209, 3) := by decide +kernel
theorem dX11_slipped_60 : decode cX11_slipped 60 = .ok (.ifCond .eq 16, 3) := by decide +kernel
theorem dX11_slipped_63 : decode cX11_slipped 63 = .ok (.aload_n 0, 1) := by decide +kernel
theorem dX11_slipped_64 : decode cX11_slipped 64 = .ok (.getfield 48, 3) := by decide +kernel
theorem dX11_slipped_67 : decode cX11_slipped 67 = .ok (.iload_n 3, 1) := by decide +kernel
theorem dX11_slipped_68 : decode cX11_slipped 68 = .ok (.iload 7, 2) := by decide +kernel
theorem dX11_slipped_70 : decode cX11_slipped 70 = .ok (.invokevirtual 209, 3) := by decide +kernel
theorem dX11_slipped_73 : decode cX11_slipped 73 = .ok (.ifCond .ne 5, 3) := by decide +kernel
theorem dX11_slipped_76 : decode cX11_slipped 76 = .ok (.iconst (-1), 1) := by decide +kernel
theorem dX11_slipped_77 : decode cX11_slipped 77 = .ok (.ireturn, 1) := by decide +kernel
theorem dX11_slipped_78 : decode cX11_slipped 78 = .ok (.aload_n 0, 1) := by decide +kernel
theorem dX11_slipped_79 : decode cX11_slipped 79 = .ok (.getfield 48, 3) := by decide +kernel
theorem dX11_slipped_82 : decode cX11_slipped 82 = .ok (.iload_n 1, 1) := by decide +kernel
theorem dX11_slipped_83 : decode cX11_slipped 83 = .ok (.iload_n 3, 1) := by decide +kernel
theorem dX11_slipped_84 : decode cX11_slipped 84 = .ok (.iload 7, 2) := by decide +kernel
theorem dX11_slipped_86 : decode cX11_slipped 86 = .ok (.invokevirtual 232, 3) := by decide +kernel
theorem dX11_slipped_89 : decode cX11_slipped 89 = .ok (.istore 8, 2) := by decide +kernel
theorem dX11_slipped_91 : decode cX11_slipped 91 = .ok (.aload_n 0, 1) := by decide +kernel
theorem dX11_slipped_92 : decode cX11_slipped 92 = .ok (.getfield 48, 3) := by decide +kernel
theorem dX11_slipped_95 : decode cX11_slipped 95 = .ok (.iload_n 2, 1) := by decide +kernel
theorem dX11_slipped_96 : decode cX11_slipped 96 = .ok (.iload_n 3, 1) := by decide +kernel
theorem dX11_slipped_97 : decode cX11_slipped 97 = .ok (.iload 7, 2) := by decide +kernel
theorem dX11_slipped_99 : decode cX11_slipped 99 = .ok (.invokevirtual 232, 3) := by decide +kernel
theorem dX11_slipped_102 : decode cX11_slipped 102 = .ok (.istore 9, 2) := by decide +kernel
theorem dX11_slipped_104 : decode cX11_slipped 104 = .ok (.iload 8, 2) := by decide +kernel
theorem dX11_slipped_106 : decode cX11_slipped 106 = .ok (.iload 9, 2) := by decide +kernel
theorem dX11_slipped_108 : decode cX11_slipped 108 = .ok (.if_icmp .ne 5, 3) := by decide +kernel
theorem dX11_slipped_111 : decode cX11_slipped 111 = .ok (.iconst 2, 1) := by decide +kernel
theorem dX11_slipped_112 : decode cX11_slipped 112 = .ok (.ireturn, 1) := by decide +kernel
theorem dX11_slipped_113 : decode cX11_slipped 113 = .ok (.iload 8, 2) := by decide +kernel
theorem dX11_slipped_115 : decode cX11_slipped 115 = .ok (.iload 9, 2) := by decide +kernel
theorem dX11_slipped_117 : decode cX11_slipped 117 = .ok (.if_icmp .le 7, 3) := by decide +kernel
theorem dX11_slipped_120 : decode cX11_slipped 120 = .ok (.iconst 0, 1) := by decide +kernel
theorem dX11_slipped_121 : decode cX11_slipped 121 = .ok (.goto 4, 3) := by decide +kernel
theorem dX11_slipped_124 : decode cX11_slipped 124 = .ok (.iconst 1, 1) := by decide +kernel
theorem dX11_slipped_125 : decode cX11_slipped 125 = .ok (.ireturn, 1) := by decide +kernel
theorem dX11_span_0 : decode cX11_span 0 = .ok (.iload_n 2, 1) := by decide +kernel
theorem dX11_span_1 : decode cX11_span 1 = .ok (.iconst 0, 1) := by decide +kernel
theorem dX11_span_2 : decode cX11_span 2 = .ok (.aload_n 0, 1) := by decide +kernel
theorem dX11_span_3 : decode cX11_span 3 = .ok (.getfield 39, 3) := by decide +kernel
theorem dX11_span_6 : decode cX11_span 6 = .ok (.getfield 235, 3) := by decide +kernel
theorem dX11_span_9 : decode cX11_span 9 = .ok (.iconst 1, 1) := by decide +kernel
theorem dX11_span_10 : decode cX11_span 10 = .ok (.isub, 1) := by decide +kernel
theorem dX11_span_11 : decode cX11_span 11 = .ok (.invokestatic 100, 3) := by decide +kernel
theorem dX11_span_14 : decode cX11_span 14 = .ok (.ifCond .eq 25, 3) := by decide +kernel
theorem dX11_span_17 : decode cX11_span 17 = .ok (.iload 4, 2) := by decide +kernel
theorem dX11_span_19 : decode cX11_span 19 = .ok (.iconst 0, 1) := by decide +kernel
theorem dX11_span_20 : decode cX11_span 20 = .ok (.iconst 1, 1) := by decide +kernel
theorem dX11_span_21 : decode cX11_span 21 = .ok (.invokestatic 100, 3) := by decide +kernel
theorem dX11_span_24 : decode cX11_span 24 = .ok (.ifCond .eq 15, 3) := by decide +kernel
theorem dX11_span_27 : decode cX11_span 27 = .ok (.aload_n 0, 1) := by decide +kernel
theorem dX11_span_28 : decode cX11_span 28 = .ok (.getfield 55, 3) := by decide +kernel
theorem dX11_span_31 : decode cX11_span 31 = .ok (.iload_n 1, 1) := by decide +kernel
theorem dX11_span_32 : decode cX11_span 32 = .ok (.iload_n 3, 1) := by decide +kernel
theorem dX11_span_33 : decode cX11_span 33 = .ok (.invokevirtual 238, 3) := by decide +kernel
theorem dX11_span_36 : decode cX11_span 36 = .ok (.ifCond .ne 7, 3) := by decide +kernel
theorem dX11_span_39 : decode cX11_span 39 = .ok (.sipush (-10000), 3) := by decide +kernel
theorem dX11_span_42 : decode cX11_span 42 = .ok (.ireturn, 1) := by decide +kernel
theorem dX11_span_43 : decode cX11_span 43 = .ok (.iload 4, 2) := by decide +kernel
theorem dX11_span_45 : decode cX11_span 45 = .ok (.ifCond .ne 15, 3) := by decide +kernel
theorem dX11_span_48 : decode cX11_span 48 = .ok (.aload_n 0, 1) := by decide +kernel
theorem dX11_span_49 : decode cX11_span 49 = .ok (.getfield 55, 3) := by decide +kernel
theorem dX11_span_52 : decode cX11_span 52 = .ok (.getfield 241, 3) := by decide +kernel
theorem dX11_span_55 : decode cX11_span 55 = .ok (.iload_n 2, 1) := by decide +kernel
theorem dX11_span_56 : decode cX11_span 56 = .ok (.iaload, 1) := by decide +kernel
theorem dX11_span_57 : decode cX11_span 57 = .ok (.goto 12, 3) := by decide +kernel
theorem dX11_span_60 : decode cX11_span 60 = .ok (.aload_n 0, 1) := by decide +kernel
theorem dX11_span_61 : decode cX11_span 61 = .ok (.getfield 55, 3) := by decide +kernel
theorem dX11_span_64 : decode cX11_span 64 = .ok (.getfield 244, 3) := by decide +kernel
theorem dX11_span_67 : decode cX11_span 67 = .ok (.iload_n 2, 1) := by decide +kernel
theorem dX11_span_68 : decode cX11_span 68 = .ok (.iaload, 1) := by decide +kernel
theorem dX11_span_69 : decode cX11_span 69 = .ok (.ireturn, 1) := by decide +kernel
theorem dX11_batten_0 : decode cX11_batten 0 = .ok (.iload_n 3, 1) := by decide +kernel
theorem dX11_batten_1 : decode cX11_batten 1 = .ok (.iconst (-1), 1) := by decide +kernel
theorem dX11_batten_2 : decode cX11_batten 2 = .ok (.aload_n 0, 1) := by decide +kernel
theorem dX11_batten_3 : decode cX11_batten 3 = .ok (.getfield 39, 3) := by decide +kernel
theorem dX11_batten_6 : decode cX11_batten 6 = .ok (.getfield 235, 3) := by decide +kernel
theorem dX11_batten_9 : decode cX11_batten 9 = .ok (.iconst 1, 1) := by decide +kernel
theorem dX11_batten_10 : decode cX11_batten 10 = .ok (.isub, 1) := by decide +kernel
theorem dX11_batten_11 : decode cX11_batten 11 = .ok (.invokestatic 100, 3) := by decide +kernel
theorem dX11_batten_14 : decode cX11_batten 14 = .ok (.ifCond .eq 15, 3) := by decide +kernel
theorem dX11_batten_17 : decode cX11_batten 17 = .ok (.aload_n 0, 1) := by decide +kernel
theorem dX11_batten_18 : decode cX11_batten 18 = .ok (.getfield 55, 3) := by decide +kernel
theorem dX11_batten_21 : decode cX11_batten 21 = .ok (.iload_n 1, 1) := by decide +kernel
theorem dX11_batten_22 : decode cX11_batten 22 = .ok (.iload_n 2, 1) := by decide +kernel
theorem dX11_batten_23 : decode cX11_batten 23 = .ok (.invokevirtual 247, 3) := by decide +kernel
theorem dX11_batten_26 : decode cX11_batten 26 = .ok (.ifCond .ne 7, 3) := by decide +kernel
theorem dX11_batten_29 : decode cX11_batten 29 = .ok (.ldc2_w 250, 3) := by decide +kernel
theorem dX11_batten_32 : decode cX11_batten 32 = .ok (.lreturn, 1) := by decide +kernel
theorem dX11_batten_33 : decode cX11_batten 33 = .ok (.iload_n 3, 1) := by decide +kernel
theorem dX11_batten_34 : decode cX11_batten 34 = .ok (.iconst (-1), 1) := by decide +kernel
theorem dX11_batten_35 : decode cX11_batten 35 = .ok (.if_icmp .ne 15, 3) := by decide +kernel
theorem dX11_batten_38 : decode cX11_batten 38 = .ok (.aload_n 0, 1) := by decide +kernel
theorem dX11_batten_39 : decode cX11_batten 39 = .ok (.getfield 55, 3) := by decide +kernel
theorem dX11_batten_42 : decode cX11_batten 42 = .ok (.getfield 252, 3) := by decide +kernel
theorem dX11_batten_45 : decode cX11_batten 45 = .ok (.iload_n 1, 1) := by decide +kernel
theorem dX11_batten_46 : decode cX11_batten 46 = .ok (.laload, 1) := by decide +kernel
theorem dX11_batten_47 : decode cX11_batten 47 = .ok (.goto 13, 3) := by decide +kernel
theorem dX11_batten_50 : decode cX11_batten 50 = .ok (.aload_n 0, 1) := by decide +kernel
theorem dX11_batten_51 : decode cX11_batten 51 = .ok (.getfield 55, 3) := by decide +kernel
theorem dX11_batten_54 : decode cX11_batten 54 = .ok (.iload_n 1, 1) := by decide +kernel
theorem dX11_batten_55 : decode cX11_batten 55 = .ok (.iload_n 3, 1) := by decide +kernel
theorem dX11_batten_56 : decode cX11_batten 56 = .ok (.invokevirtual 256, 3) := by decide +kernel
theorem dX11_batten_59 : decode cX11_batten 59 = .ok (.i2l, 1) := by decide +kernel
theorem dX11_batten_60 : decode cX11_batten 60 = .ok (.lreturn, 1) := by decide +kernel
theorem dX11_lost_0 : decode cX11_lost 0 = .ok (.iload_n 3, 1) := by decide +kernel
theorem dX11_lost_1 : decode cX11_lost 1 = .ok (.iconst 0, 1) := by decide +kernel
theorem dX11_lost_2 : decode cX11_lost 2 = .ok (.iconst 1, 1) := by decide +kernel
theorem dX11_lost_3 : decode cX11_lost 3 = .ok (.invokestatic 100, 3) := by decide +kernel
theorem dX11_lost_6 : decode cX11_lost 6 = .ok (.ifCond .eq 15, 3) := by decide +kernel
theorem dX11_lost_9 : decode cX11_lost 9 = .ok (.aload_n 0, 1) := by decide +kernel
theorem dX11_lost_10 : decode cX11_lost 10 = .ok (.getfield 55, 3) := by decide +kernel
theorem dX11_lost_13 : decode cX11_lost 13 = .ok (.iload_n 1, 1) := by decide +kernel
theorem dX11_lost_14 : decode cX11_lost 14 = .ok (.iload_n 2, 1) := by decide +kernel
theorem dX11_lost_15 : decode cX11_lost 15 = .ok (.invokevirtual 247, 3) := by decide +kernel
theorem dX11_lost_18 : decode cX11_lost 18 = .ok (.ifCond .ne 5, 3) := by decide +kernel
theorem dX11_lost_21 : decode cX11_lost 21 = .ok (.iconst (-1), 1) := by decide +kernel
theorem dX11_lost_22 : decode cX11_lost 22 = .ok (.ireturn, 1) := by decide +kernel
theorem dX11_lost_23 : decode cX11_lost 23 = .ok (.aload_n 0, 1) := by decide +kernel
theorem dX11_lost_24 : decode cX11_lost 24 = .ok (.getfield 55, 3) := by decide +kernel
theorem dX11_lost_27 : decode cX11_lost 27 = .ok (.iload_n 1, 1) := by decide +kernel
theorem dX11_lost_28 : decode cX11_lost 28 = .ok (.iload_n 3, 1) := by decide +kernel
theorem dX11_lost_29 : decode cX11_lost 29 = .ok (.invokevirtual 259, 3) := by decide +kernel
theorem dX11_lost_32 : decode cX11_lost 32 = .ok (.ireturn, 1) := by decide +kernel
theorem dX11_size_0 : decode cX11_size 0 = .ok (.aload_n 0, 1) := by decide +kernel
theorem dX11_size_1 : decode cX11_size 1 = .ok (.getfield 39, 3) := by decide +kernel
theorem dX11_size_4 : decode cX11_size 4 = .ok (.iload_n 1, 1) := by decide +kernel
theorem dX11_size_5 : decode cX11_size 5 = .ok (.iload_n 2, 1) := by decide +kernel
theorem dX11_size_6 : decode cX11_size 6 = .ok (.iload_n 3, 1) := by decide +kernel
theorem dX11_size_7 : decode cX11_size 7 = .ok (.invokevirtual 159, 3) := by decide +kernel
theorem dX11_size_10 : decode cX11_size 10 = .ok (.istore 5, 2) := by decide +kernel
theorem dX11_size_12 : decode cX11_size 12 = .ok (.iload 5, 2) := by decide +kernel
theorem dX11_size_14 : decode cX11_size 14 = .ok (.ifCond .lt 28, 3) := by decide +kernel
theorem dX11_size_17 : decode cX11_size 17 = .ok (.iload 4, 2) := by decide +kernel
theorem dX11_size_19 : decode cX11_size 19 = .ok (.iconst 0, 1) := by decide +kernel
theorem dX11_size_20 : decode cX11_size 20 = .ok (.bipush 99, 2) := by decide +kernel
theorem dX11_size_22 : decode cX11_size 22 = .ok (.invokestatic 100, 3) := by decide +kernel
theorem dX11_size_25 : decode cX11_size 25 = .ok (.ifCond .eq 17, 3) := by decide +kernel
theorem dX11_size_28 : decode cX11_size 28 = .ok (.aload_n 0, 1) := by decide +kernel
theorem dX11_size_29 : decode cX11_size 29 = .ok (.getfield 71, 3) := by decide +kernel
theorem dX11_size_32 : decode cX11_size 32 = .ok (.iload 5, 2) := by decide +kernel
theorem dX11_size_34 : decode cX11_size 34 = .ok (.invokevirtual 262, 3) := by decide +kernel
theorem dX11_size_37 : decode cX11_size 37 = .ok (.bipush 60, 2) := by decide +kernel
theorem dX11_size_39 : decode cX11_size 39 = .ok (.if_icmp .lt 5, 3) := by decide +kernel
theorem dX11_size_42 : decode cX11_size 42 = .ok (.iconst 0, 1) := by decide +kernel
theorem dX11_size_43 : decode cX11_size 43 = .ok (.ireturn, 1) := by decide +kernel
theorem dX11_size_44 : decode cX11_size 44 = .ok (.aload_n 0, 1) := by decide +kernel
theorem dX11_size_45 : decode cX11_size 45 = .ok (.getfield 39, 3) := by decide +kernel
theorem dX11_size_48 : decode cX11_size 48 = .ok (.getfield 181, 3) := by decide +kernel
theorem dX11_size_51 : decode cX11_size 51 = .ok (.iload 5, 2) := by decide +kernel
theorem dX11_size_53 : decode cX11_size 53 = .ok (.iload 4, 2) := by decide +kernel
theorem dX11_size_55 : decode cX11_size 55 = .ok (.iastore, 1) := by decide +kernel
theorem dX11_size_56 : decode cX11_size 56 = .ok (.iconst 1, 1) := by decide +kernel
theorem dX11_size_57 : decode cX11_size 57 = .ok (.ireturn, 1) := by decide +kernel
theorem dX11_repairs_0 : decode cX11_repairs 0 = .ok (.iload_n 1, 1) := by decide +kernel
theorem dX11_repairs_1 : decode cX11_repairs 1 = .ok (.iconst 0, 1) := by decide +kernel
theorem dX11_repairs_2 : decode cX11_repairs 2 = .ok (.aload_n 0, 1) := by decide +kernel
theorem dX11_repairs_3 : decode cX11_repairs 3 = .ok (.getfield 39, 3) := by decide +kernel
theorem dX11_repairs_6 : decode cX11_repairs 6 = .ok (.getfield 265, 3) := by decide +kernel
theorem dX11_repairs_9 : decode cX11_repairs 9 = .ok (.iconst 1, 1) := by decide +kernel
theorem dX11_repairs_10 : decode cX11_repairs 10 = .ok (.isub, 1) := by decide +kernel
theorem dX11_repairs_11 : decode cX11_repairs 11 = .ok (.invokestatic 100, 3) := by decide +kernel
theorem dX11_repairs_14 : decode cX11_repairs 14 = .ok (.ifCond .eq 22, 3) := by decide +kernel
theorem dX11_repairs_17 : decode cX11_repairs 17 = .ok (.iload_n 2, 1) := by decide +kernel
theorem dX11_repairs_18 : decode cX11_repairs 18 = .ok (.iconst 0, 1) := by decide +kernel
theorem dX11_repairs_19 : decode cX11_repairs 19 = .ok (.bipush 99, 2) := by decide +kernel
theorem dX11_repairs_21 : decode cX11_repairs 21 = .ok (.invokestatic 100, 3) := by decide +kernel
theorem dX11_repairs_24 : decode cX11_repairs 24 = .ok (.ifCond .eq 12, 3) := by decide +kernel
theorem dX11_repairs_27 : decode cX11_repairs 27 = .ok (.iload_n 3, 1) := by decide +kernel
theorem dX11_repairs_28 : decode cX11_repairs 28 = .ok (.iconst 0, 1) := by decide +kernel
theorem dX11_repairs_29 : decode cX11_repairs 29 = .ok (.iconst 3, 1) := by decide +kernel
theorem dX11_repairs_30 : decode cX11_repairs 30 = .ok (.invokestatic 100, 3) := by decide +kernel
theorem dX11_repairs_33 : decode cX11_repairs 33 = .ok (.ifCond .ne 7, 3) := by decide +kernel
theorem dX11_repairs_36 : decode cX11_repairs 36 = .ok (.ldc2_w 268, 3) := by decide +kernel
theorem dX11_repairs_39 : decode cX11_repairs 39 = .ok (.lreturn, 1) := by decide +kernel
theorem dX11_repairs_40 : decode cX11_repairs 40 = .ok (.aload_n 0, 1) := by decide +kernel
theorem dX11_repairs_41 : decode cX11_repairs 41 = .ok (.getfield 71, 3) := by decide +kernel
theorem dX11_repairs_44 : decode cX11_repairs 44 = .ok (.iload_n 1, 1) := by decide +kernel
theorem dX11_repairs_45 : decode cX11_repairs 45 = .ok (.iload_n 2, 1) := by decide +kernel
theorem dX11_repairs_46 : decode cX11_repairs 46 = .ok (.invokevirtual 270, 3) := by decide +kernel
theorem dX11_repairs_49 : decode cX11_repairs 49 = .ok (.iload_n 3, 1) := by decide +kernel
theorem dX11_repairs_50 : decode cX11_repairs 50 = .ok (.lookupswitch 44 #[(0, 26), (1, 35)], 26) := by decide +kernel
theorem dX11_repairs_76 : decode cX11_repairs 76 = .ok (.aload_n 0, 1) := by decide +kernel
theorem dX11_repairs_77 : decode cX11_repairs 77 = .ok (.getfield 71, 3) := by decide +kernel
theorem dX11_repairs_80 : decode cX11_repairs 80 = .ok (.getfield 273, 3) := by decide +kernel
theorem dX11_repairs_83 : decode cX11_repairs 83 = .ok (.i2l, 1) := by decide +kernel
theorem dX11_repairs_84 : decode cX11_repairs 84 = .ok (.lreturn, 1) := by decide +kernel
theorem dX11_repairs_85 : decode cX11_repairs 85 = .ok (.aload_n 0, 1) := by decide +kernel
theorem dX11_repairs_86 : decode cX11_repairs 86 = .ok (.getfield 71, 3) := by decide +kernel
theorem dX11_repairs_89 : decode cX11_repairs 89 = .ok (.getfield 276, 3) := by decide +kernel
theorem dX11_repairs_92 : decode cX11_repairs 92 = .ok (.i2l, 1) := by decide +kernel
theorem dX11_repairs_93 : decode cX11_repairs 93 = .ok (.lreturn, 1) := by decide +kernel
theorem dX11_repairs_94 : decode cX11_repairs 94 = .ok (.aload_n 0, 1) := by decide +kernel
theorem dX11_repairs_95 : decode cX11_repairs 95 = .ok (.getfield 71, 3) := by decide +kernel
theorem dX11_repairs_98 : decode cX11_repairs 98 = .ok (.invokevirtual 279, 3) := by decide +kernel
theorem dX11_repairs_101 : decode cX11_repairs 101 = .ok (.aload_n 0, 1) := by decide +kernel
theorem dX11_repairs_102 : decode cX11_repairs 102 = .ok (.getfield 71, 3) := by decide +kernel
theorem dX11_repairs_105 : decode cX11_repairs 105 = .ok (.invokevirtual 283, 3) := by decide +kernel
theorem dX11_repairs_108 : decode cX11_repairs 108 = .ok (.iload_n 3, 1) := by decide +kernel
theorem dX11_repairs_109 : decode cX11_repairs 109 = .ok (.iconst 2, 1) := by decide +kernel
theorem dX11_repairs_110 : decode cX11_repairs 110 = .ok (.if_icmp .ne 7, 3) := by decide +kernel
theorem dX11_repairs_113 : decode cX11_repairs 113 = .ok (.iconst 1, 1) := by decide +kernel
theorem dX11_repairs_114 : decode cX11_repairs 114 = .ok (.goto 4, 3) := by decide +kernel
theorem dX11_repairs_117 : decode cX11_repairs 117 = .ok (.iconst 0, 1) := by decide +kernel
theorem dX11_repairs_118 : decode cX11_repairs 118 = .ok (.invokestatic 286, 3) := by decide +kernel
theorem dX11_repairs_121 : decode cX11_repairs 121 = .ok (.lreturn, 1) := by decide +kernel
theorem dX11_thole_0 : decode cX11_thole 0 = .ok (.iload_n 1, 1) := by decide +kernel
theorem dX11_thole_1 : decode cX11_thole 1 = .ok (.iconst 0, 1) := by decide +kernel
theorem dX11_thole_2 : decode cX11_thole 2 = .ok (.aload_n 0, 1) := by decide +kernel
theorem dX11_thole_3 : decode cX11_thole 3 = .ok (.getfield 39, 3) := by decide +kernel
theorem dX11_thole_6 : decode cX11_thole 6 = .ok (.getfield 235, 3) := by decide +kernel
theorem dX11_thole_9 : decode cX11_thole 9 = .ok (.iconst 1, 1) := by decide +kernel
theorem dX11_thole_10 : decode cX11_thole 10 = .ok (.isub, 1) := by decide +kernel
theorem dX11_thole_11 : decode cX11_thole 11 = .ok (.invokestatic 100, 3) := by decide +kernel
theorem dX11_thole_14 : decode cX11_thole 14 = .ok (.ifCond .eq 21, 3) := by decide +kernel
theorem dX11_thole_17 : decode cX11_thole 17 = .ok (.iload_n 2, 1) := by decide +kernel
theorem dX11_thole_18 : decode cX11_thole 18 = .ok (.iconst 0, 1) := by decide +kernel
theorem dX11_thole_19 : decode cX11_thole 19 = .ok (.iconst 1, 1) := by decide +kernel
theorem dX11_thole_20 : decode cX11_thole 20 = .ok (.invokestatic 100, 3) := by decide +kernel
theorem dX11_thole_23 : decode cX11_thole 23 = .ok (.ifCond .eq 12, 3) := by decide +kernel
theorem dX11_thole_26 : decode cX11_thole 26 = .ok (.iload_n 3, 1) := by decide +kernel
theorem dX11_thole_27 : decode cX11_thole 27 = .ok (.iconst (-1), 1) := by decide +kernel
theorem dX11_thole_28 : decode cX11_thole 28 = .ok (.iconst 1, 1) := by decide +kernel
theorem dX11_thole_29 : decode cX11_thole 29 = .ok (.invokestatic 100, 3) := by decide +kernel
theorem dX11_thole_32 : decode cX11_thole 32 = .ok (.ifCond .ne 5, 3) := by decide +kernel
theorem dX11_thole_35 : decode cX11_thole 35 = .ok (.iconst 0, 1) := by decide +kernel
theorem dX11_thole_36 : decode cX11_thole 36 = .ok (.ireturn, 1) := by decide +kernel
theorem dX11_thole_37 : decode cX11_thole 37 = .ok (.aload_n 0, 1) := by decide +kernel
theorem dX11_thole_38 : decode cX11_thole 38 = .ok (.getfield 78, 3) := by decide +kernel
theorem dX11_thole_41 : decode cX11_thole 41 = .ok (.iload_n 1, 1) := by decide +kernel
theorem dX11_thole_42 : decode cX11_thole 42 = .ok (.iload_n 2, 1) := by decide +kernel
theorem dX11_thole_43 : decode cX11_thole 43 = .ok (.iload_n 3, 1) := by decide +kernel
theorem dX11_thole_44 : decode cX11_thole 44 = .ok (.invokevirtual 290, 3) := by decide +kernel
theorem dX11_thole_47 : decode cX11_thole 47 = .ok (.iconst 1, 1) := by decide +kernel
theorem dX11_thole_48 : decode cX11_thole 48 = .ok (.ireturn, 1) := by decide +kernel
theorem dX11_oars_0 : decode cX11_oars 0 = .ok (.aload_n 0, 1) := by decide +kernel
theorem dX11_oars_1 : decode cX11_oars 1 = .ok (.getfield 39, 3) := by decide +kernel
theorem dX11_oars_4 : decode cX11_oars 4 = .ok (.invokevirtual 147, 3) := by decide +kernel
theorem dX11_oars_7 : decode cX11_oars 7 = .ok (.ifCond .ne 5, 3) := by decide +kernel
theorem dX11_oars_10 : decode cX11_oars 10 = .ok (.iconst (-1), 1) := by decide +kernel
theorem dX11_oars_11 : decode cX11_oars 11 = .ok (.ireturn, 1) := by decide +kernel
theorem dX11_oars_12 : decode cX11_oars 12 = .ok (.iload_n 1, 1) := by decide +kernel
theorem dX11_oars_13 : decode cX11_oars 13 = .ok (.tableswitch 63 0 3 #[31, 39, 47, 55], 31) := by decide +kernel
theorem dX11_oars_44 : decode cX11_oars 44 = .ok (.aload_n 0, 1) := by decide +kernel
theorem dX11_oars_45 : decode cX11_oars 45 = .ok (.getfield 78, 3) := by decide +kernel
theorem dX11_oars_48 : decode cX11_oars 48 = .ok (.invokevirtual 293, 3) := by decide +kernel
theorem dX11_oars_51 : decode cX11_oars 51 = .ok (.ireturn, 1) := by decide +kernel
theorem dX11_oars_52 : decode cX11_oars 52 = .ok (.aload_n 0, 1) := by decide +kernel
theorem dX11_oars_53 : decode cX11_oars 53 = .ok (.getfield 78, 3) := by decide +kernel
theorem dX11_oars_56 : decode cX11_oars 56 = .ok (.invokevirtual 296, 3) := by decide +kernel
theorem dX11_oars_59 : decode cX11_oars 59 = .ok (.ireturn, 1) := by decide +kernel
theorem dX11_oars_60 : decode cX11_oars 60 = .ok (.aload_n 0, 1) := by decide +kernel
theorem dX11_oars_61 : decode cX11_oars 61 = .ok (.getfield 78, 3) := by decide +kernel
theorem dX11_oars_64 : decode cX11_oars 64 = .ok (.invokevirtual 299, 3) := by decide +kernel
theorem dX11_oars_67 : decode cX11_oars 67 = .ok (.ireturn, 1) := by decide +kernel
theorem dX11_oars_68 : decode cX11_oars 68 = .ok (.aload_n 0, 1) := by decide +kernel
theorem dX11_oars_69 : decode cX11_oars 69 = .ok (.getfield 78, 3) := by decide +kernel
theorem dX11_oars_72 : decode cX11_oars 72 = .ok (.invokevirtual 302, 3) := by decide +kernel
theorem dX11_oars_75 : decode cX11_oars 75 = .ok (.ireturn, 1) := by decide +kernel
theorem dX11_oars_76 : decode cX11_oars 76 = .ok (.iconst (-1), 1) := by decide +kernel
theorem dX11_oars_77 : decode cX11_oars 77 = .ok (.ireturn, 1) := by decide +kernel
theorem dX11_pair_0 : decode cX11_pair 0 = .ok (.iload_n 1, 1) := by decide +kernel
theorem dX11_pair_1 : decode cX11_pair 1 = .ok (.iconst 0, 1) := by decide +kernel
theorem dX11_pair_2 : decode cX11_pair 2 = .ok (.aload_n 0, 1) := by decide +kernel
theorem dX11_pair_3 : decode cX11_pair 3 = .ok (.getfield 39, 3) := by decide +kernel
theorem dX11_pair_6 : decode cX11_pair 6 = .ok (.getfield 235, 3) := by decide +kernel
theorem dX11_pair_9 : decode cX11_pair 9 = .ok (.iconst 1, 1) := by decide +kernel
theorem dX11_pair_10 : decode cX11_pair 10 = .ok (.isub, 1) := by decide +kernel
theorem dX11_pair_11 : decode cX11_pair 11 = .ok (.invokestatic 100, 3) := by decide +kernel
theorem dX11_pair_14 : decode cX11_pair 14 = .ok (.ifCond .eq 12, 3) := by decide +kernel
theorem dX11_pair_17 : decode cX11_pair 17 = .ok (.iload_n 2, 1) := by decide +kernel
theorem dX11_pair_18 : decode cX11_pair 18 = .ok (.iconst 0, 1) := by decide +kernel
theorem dX11_pair_19 : decode cX11_pair 19 = .ok (.iconst 1, 1) := by decide +kernel
theorem dX11_pair_20 : decode cX11_pair 20 = .ok (.invokestatic 100, 3) := by decide +kernel
theorem dX11_pair_23 : decode cX11_pair 23 = .ok (.ifCond .ne 7, 3) := by decide +kernel
theorem dX11_pair_26 : decode cX11_pair 26 = .ok (.ldc2_w 268, 3) := by decide +kernel
theorem dX11_pair_29 : decode cX11_pair 29 = .ok (.lreturn, 1) := by decide +kernel
theorem dX11_pair_30 : decode cX11_pair 30 = .ok (.aload_n 0, 1) := by decide +kernel
theorem dX11_pair_31 : decode cX11_pair 31 = .ok (.getfield 78, 3) := by decide +kernel
theorem dX11_pair_34 : decode cX11_pair 34 = .ok (.invokevirtual 299, 3) := by decide +kernel
theorem dX11_pair_37 : decode cX11_pair 37 = .ok (.ifCond .ne 7, 3) := by decide +kernel
theorem dX11_pair_40 : decode cX11_pair 40 = .ok (.ldc2_w 305, 3) := by decide +kernel
theorem dX11_pair_43 : decode cX11_pair 43 = .ok (.lreturn, 1) := by decide +kernel
theorem dX11_pair_44 : decode cX11_pair 44 = .ok (.aload_n 0, 1) := by decide +kernel
theorem dX11_pair_45 : decode cX11_pair 45 = .ok (.getfield 78, 3) := by decide +kernel
theorem dX11_pair_48 : decode cX11_pair 48 = .ok (.iload_n 1, 1) := by decide +kernel
theorem dX11_pair_49 : decode cX11_pair 49 = .ok (.iconst 0, 1) := by decide +kernel
theorem dX11_pair_50 : decode cX11_pair 50 = .ok (.invokevirtual 307, 3) := by decide +kernel
theorem dX11_pair_53 : decode cX11_pair 53 = .ok (.i2l, 1) := by decide +kernel
theorem dX11_pair_54 : decode cX11_pair 54 = .ok (.aload_n 0, 1) := by decide +kernel
theorem dX11_pair_55 : decode cX11_pair 55 = .ok (.getfield 78, 3) := by decide +kernel
theorem dX11_pair_58 : decode cX11_pair 58 = .ok (.iload_n 1, 1) := by decide +kernel
theorem dX11_pair_59 : decode cX11_pair 59 = .ok (.iconst 1, 1) := by decide +kernel
theorem dX11_pair_60 : decode cX11_pair 60 = .ok (.invokevirtual 307, 3) := by decide +kernel
theorem dX11_pair_63 : decode cX11_pair 63 = .ok (.i2l, 1) := by decide +kernel
theorem dX11_pair_64 : decode cX11_pair 64 = .ok (.lmul, 1) := by decide +kernel
theorem dX11_pair_65 : decode cX11_pair 65 = .ok (.lstore_n 3, 1) := by decide +kernel
theorem dX11_pair_66 : decode cX11_pair 66 = .ok (.aload_n 0, 1) := by decide +kernel
theorem dX11_pair_67 : decode cX11_pair 67 = .ok (.getfield 78, 3) := by decide +kernel
theorem dX11_pair_70 : decode cX11_pair 70 = .ok (.iload_n 1, 1) := by decide +kernel
theorem dX11_pair_71 : decode cX11_pair 71 = .ok (.iconst 0, 1) := by decide +kernel
theorem dX11_pair_72 : decode cX11_pair 72 = .ok (.invokevirtual 310, 3) := by decide +kernel
theorem dX11_pair_75 : decode cX11_pair 75 = .ok (.i2l, 1) := by decide +kernel
theorem dX11_pair_76 : decode cX11_pair 76 = .ok (.aload_n 0, 1) := by decide +kernel
theorem dX11_pair_77 : decode cX11_pair 77 = .ok (.getfield 78, 3) := by decide +kernel
theorem dX11_pair_80 : decode cX11_pair 80 = .ok (.iload_n 1, 1) := by decide +kernel
theorem dX11_pair_81 : decode cX11_pair 81 = .ok (.iconst 1, 1) := by decide +kernel
theorem dX11_pair_82 : decode cX11_pair 82 = .ok (.invokevirtual 310, 3) := by decide +kernel
theorem dX11_pair_85 : decode cX11_pair 85 = .ok (.i2l, 1) := by decide +kernel
theorem dX11_pair_86 : decode cX11_pair 86 = .ok (.lmul, 1) := by decide +kernel
theorem dX11_pair_87 : decode cX11_pair 87 = .ok (.lstore 5, 2) := by decide +kernel
theorem dX11_pair_89 : decode cX11_pair 89 = .ok (.lload_n 3, 1) := by decide +kernel
theorem dX11_pair_90 : decode cX11_pair 90 = .ok (.lload 5, 2) := by decide +kernel
theorem dX11_pair_92 : decode cX11_pair 92 = .ok (.iload_n 2, 1) := by decide +kernel
theorem dX11_pair_93 : decode cX11_pair 93 = .ok (.ifCond .ne 7, 3) := by decide +kernel
theorem dX11_pair_96 : decode cX11_pair 96 = .ok (.iconst 1, 1) := by decide +kernel
theorem dX11_pair_97 : decode cX11_pair 97 = .ok (.goto 4, 3) := by decide +kernel
theorem dX11_pair_100 : decode cX11_pair 100 = .ok (.iconst 0, 1) := by decide +kernel
theorem dX11_pair_101 : decode cX11_pair 101 = .ok (.invokestatic 286, 3) := by decide +kernel
theorem dX11_pair_104 : decode cX11_pair 104 = .ok (.lreturn, 1) := by decide +kernel
theorem dX11_phosphor_0 : decode cX11_phosphor 0 = .ok (.iload_n 1, 1) := by decide +kernel
theorem dX11_phosphor_1 : decode cX11_phosphor 1 = .ok (.iconst 0, 1) := by decide +kernel
theorem dX11_phosphor_2 : decode cX11_phosphor 2 = .ok (.bipush 11, 2) := by decide +kernel
theorem dX11_phosphor_4 : decode cX11_phosphor 4 = .ok (.invokestatic 100, 3) := by decide +kernel
theorem dX11_phosphor_7 : decode cX11_phosphor 7 = .ok (.ifCond .eq 23, 3) := by decide +kernel
theorem dX11_phosphor_10 : decode cX11_phosphor 10 = .ok (.iload_n 2, 1) := by decide +kernel
theorem dX11_phosphor_11 : decode cX11_phosphor 11 = .ok (.iconst 0, 1) := by decide +kernel
theorem dX11_phosphor_12 : decode cX11_phosphor 12 = .ok (.iconst 5, 1) := by decide +kernel
theorem dX11_phosphor_13 : decode cX11_phosphor 13 = .ok (.invokestatic 100, 3) := by decide +kernel
theorem dX11_phosphor_16 : decode cX11_phosphor 16 = .ok (.ifCond .eq 14, 3) := by decide +kernel
theorem dX11_phosphor_19 : decode cX11_phosphor 19 = .ok (.iload_n 3, 1) := by decide +kernel
theorem dX11_phosphor_20 : decode cX11_phosphor 20 = .ok (.iconst 0, 1) := by decide +kernel
theorem dX11_phosphor_21 : decode cX11_phosphor 21 = .ok (.sipush 999, 3) := by decide +kernel
theorem dX11_phosphor_24 : decode cX11_phosphor 24 = .ok (.invokestatic 100, 3) := by decide +kernel
theorem dX11_phosphor_27 : decode cX11_phosphor 27 = .ok (.ifCond .ne 5, 3) := by decide +kernel
theorem dX11_phosphor_30 : decode cX11_phosphor 30 = .ok (.iconst 0, 1) := by decide +kernel
theorem dX11_phosphor_31 : decode cX11_phosphor 31 = .ok (.ireturn, 1) := by decide +kernel
theorem dX11_phosphor_32 : decode cX11_phosphor 32 = .ok (.aload_n 0, 1) := by decide +kernel
theorem dX11_phosphor_33 : decode cX11_phosphor 33 = .ok (.getfield 85, 3) := by decide +kernel
theorem dX11_phosphor_36 : decode cX11_phosphor 36 = .ok (.iload_n 1, 1) := by decide +kernel
theorem dX11_phosphor_37 : decode cX11_phosphor 37 = .ok (.iload_n 2, 1) := by decide +kernel
theorem dX11_phosphor_38 : decode cX11_phosphor 38 = .ok (.iload_n 3, 1) := by decide +kernel
theorem dX11_phosphor_39 : decode cX11_phosphor 39 = .ok (.invokevirtual 313, 3) := by decide +kernel
theorem dX11_phosphor_42 : decode cX11_phosphor 42 = .ok (.iconst 1, 1) := by decide +kernel
theorem dX11_phosphor_43 : decode cX11_phosphor 43 = .ok (.ireturn, 1) := by decide +kernel
theorem dX11_body_0 : decode cX11_body 0 = .ok (.iload_n 1, 1) := by decide +kernel
theorem dX11_body_1 : decode cX11_body 1 = .ok (.iconst 1, 1) := by decide +kernel
theorem dX11_body_2 : decode cX11_body 2 = .ok (.bipush 12, 2) := by decide +kernel
theorem dX11_body_4 : decode cX11_body 4 = .ok (.invokestatic 100, 3) := by decide +kernel
theorem dX11_body_7 : decode cX11_body 7 = .ok (.ifCond .eq 22, 3) := by decide +kernel
theorem dX11_body_10 : decode cX11_body 10 = .ok (.iload_n 2, 1) := by decide +kernel
theorem dX11_body_11 : decode cX11_body 11 = .ok (.iconst 1, 1) := by decide +kernel
theorem dX11_body_12 : decode cX11_body 12 = .ok (.bipush 6, 2) := by decide +kernel
theorem dX11_body_14 : decode cX11_body 14 = .ok (.invokestatic 100, 3) := by decide +kernel
theorem dX11_body_17 : decode cX11_body 17 = .ok (.ifCond .eq 12, 3) := by decide +kernel
theorem dX11_body_20 : decode cX11_body 20 = .ok (.iload_n 3, 1) := by decide +kernel
theorem dX11_body_21 : decode cX11_body 21 = .ok (.iconst 0, 1) := by decide +kernel
theorem dX11_body_22 : decode cX11_body 22 = .ok (.iconst 4, 1) := by decide +kernel
theorem dX11_body_23 : decode cX11_body 23 = .ok (.invokestatic 100, 3) := by decide +kernel
theorem dX11_body_26 : decode cX11_body 26 = .ok (.ifCond .ne 5, 3) := by decide +kernel
theorem dX11_body_29 : decode cX11_body 29 = .ok (.iconst (-1), 1) := by decide +kernel
theorem dX11_body_30 : decode cX11_body 30 = .ok (.ireturn, 1) := by decide +kernel
theorem dX11_body_31 : decode cX11_body 31 = .ok (.aload_n 0, 1) := by decide +kernel
theorem dX11_body_32 : decode cX11_body 32 = .ok (.getfield 85, 3) := by decide +kernel
theorem dX11_body_35 : decode cX11_body 35 = .ok (.iload_n 1, 1) := by decide +kernel
theorem dX11_body_36 : decode cX11_body 36 = .ok (.iload_n 2, 1) := by decide +kernel
theorem dX11_body_37 : decode cX11_body 37 = .ok (.invokevirtual 315, 3) := by decide +kernel
theorem dX11_body_40 : decode cX11_body 40 = .ok (.iload_n 3, 1) := by decide +kernel
theorem dX11_body_41 : decode cX11_body 41 = .ok (.tableswitch 63 0 3 #[31, 39, 47, 55], 31) := by decide +kernel
theorem dX11_body_72 : decode cX11_body 72 = .ok (.aload_n 0, 1) := by decide +kernel
theorem dX11_body_73 : decode cX11_body 73 = .ok (.getfield 85, 3) := by decide +kernel
theorem dX11_body_76 : decode cX11_body 76 = .ok (.getfield 318, 3) := by decide +kernel
theorem dX11_body_79 : decode cX11_body 79 = .ok (.ireturn, 1) := by decide +kernel
theorem dX11_body_80 : decode cX11_body 80 = .ok (.aload_n 0, 1) := by decide +kernel
theorem dX11_body_81 : decode cX11_body 81 = .ok (.getfield 85, 3) := by decide +kernel
theorem dX11_body_84 : decode cX11_body 84 = .ok (.getfield 321, 3) := by decide +kernel
theorem dX11_body_87 : decode cX11_body 87 = .ok (.ireturn, 1) := by decide +kernel
theorem dX11_body_88 : decode cX11_body 88 = .ok (.aload_n 0, 1) := by decide +kernel
theorem dX11_body_89 : decode cX11_body 89 = .ok (.getfield 85, 3) := by decide +kernel
theorem dX11_body_92 : decode cX11_body 92 = .ok (.getfield 324, 3) := by decide +kernel
theorem dX11_body_95 : decode cX11_body 95 = .ok (.ireturn, 1) := by decide +kernel
theorem dX11_body_96 : decode cX11_body 96 = .ok (.aload_n 0, 1) := by decide +kernel
theorem dX11_body_97 : decode cX11_body 97 = .ok (.getfield 85, 3) := by decide +kernel
theorem dX11_body_100 : decode cX11_body 100 = .ok (.getfield 327, 3) := by decide +kernel
theorem dX11_body_103 : decode cX11_body 103 = .ok (.ireturn, 1) := by decide +kernel
theorem dX11_body_104 : decode cX11_body 104 = .ok (.aload_n 0, 1) := by decide +kernel
theorem dX11_body_105 : decode cX11_body 105 = .ok (.getfield 85, 3) := by decide +kernel
theorem dX11_body_108 : decode cX11_body 108 = .ok (.getfield 330, 3) := by decide +kernel
theorem dX11_body_111 : decode cX11_body 111 = .ok (.ireturn, 1) := by decide +kernel
theorem dX11_story_0 : decode cX11_story 0 = .ok (.iload_n 1, 1) := by decide +kernel
theorem dX11_story_1 : decode cX11_story 1 = .ok (.iconst 0, 1) := by decide +kernel
theorem dX11_story_2 : decode cX11_story 2 = .ok (.iconst 5, 1) := by decide +kernel
theorem dX11_story_3 : decode cX11_story 3 = .ok (.invokestatic 100, 3) := by decide +kernel
theorem dX11_story_6 : decode cX11_story 6 = .ok (.ifCond .eq 23, 3) := by decide +kernel
theorem dX11_story_9 : decode cX11_story 9 = .ok (.iload_n 2, 1) := by decide +kernel
theorem dX11_story_10 : decode cX11_story 10 = .ok (.iconst 0, 1) := by decide +kernel
theorem dX11_story_11 : decode cX11_story 11 = .ok (.iconst 5, 1) := by decide +kernel
theorem dX11_story_12 : decode cX11_story 12 = .ok (.invokestatic 100, 3) := by decide +kernel
theorem dX11_story_15 : decode cX11_story 15 = .ok (.ifCond .eq 14, 3) := by decide +kernel
theorem dX11_story_18 : decode cX11_story 18 = .ok (.iload_n 3, 1) := by decide +kernel
theorem dX11_story_19 : decode cX11_story 19 = .ok (.iconst 0, 1) := by decide +kernel
theorem dX11_story_20 : decode cX11_story 20 = .ok (.sipush 1000, 3) := by decide +kernel
theorem dX11_story_23 : decode cX11_story 23 = .ok (.invokestatic 100, 3) := by decide +kernel
theorem dX11_story_26 : decode cX11_story 26 = .ok (.ifCond .ne 5, 3) := by decide +kernel
theorem dX11_story_29 : decode cX11_story 29 = .ok (.iconst 0, 1) := by decide +kernel
theorem dX11_story_30 : decode cX11_story 30 = .ok (.ireturn, 1) := by decide +kernel
theorem dX11_story_31 : decode cX11_story 31 = .ok (.aload_n 0, 1) := by decide +kernel
theorem dX11_story_32 : decode cX11_story 32 = .ok (.getfield 92, 3) := by decide +kernel
theorem dX11_story_35 : decode cX11_story 35 = .ok (.iload_n 1, 1) := by decide +kernel
theorem dX11_story_36 : decode cX11_story 36 = .ok (.iload_n 2, 1) := by decide +kernel
theorem dX11_story_37 : decode cX11_story 37 = .ok (.iload_n 3, 1) := by decide +kernel
theorem dX11_story_38 : decode cX11_story 38 = .ok (.invokevirtual 333, 3) := by decide +kernel
theorem dX11_story_41 : decode cX11_story 41 = .ok (.iconst 1, 1) := by decide +kernel
theorem dX11_story_42 : decode cX11_story 42 = .ok (.ireturn, 1) := by decide +kernel
theorem dX11_sign_0 : decode cX11_sign 0 = .ok (.iload_n 1, 1) := by decide +kernel
theorem dX11_sign_1 : decode cX11_sign 1 = .ok (.iconst 0, 1) := by decide +kernel
theorem dX11_sign_2 : decode cX11_sign 2 = .ok (.iconst 5, 1) := by decide +kernel
theorem dX11_sign_3 : decode cX11_sign 3 = .ok (.invokestatic 100, 3) := by decide +kernel
theorem dX11_sign_6 : decode cX11_sign 6 = .ok (.ifCond .eq 12, 3) := by decide +kernel
theorem dX11_sign_9 : decode cX11_sign 9 = .ok (.iload_n 2, 1) := by decide +kernel
theorem dX11_sign_10 : decode cX11_sign 10 = .ok (.iconst (-1), 1) := by decide +kernel
theorem dX11_sign_11 : decode cX11_sign 11 = .ok (.iconst 1, 1) := by decide +kernel
theorem dX11_sign_12 : decode cX11_sign 12 = .ok (.invokestatic 100, 3) := by decide +kernel
theorem dX11_sign_15 : decode cX11_sign 15 = .ok (.ifCond .ne 5, 3) := by decide +kernel
theorem dX11_sign_18 : decode cX11_sign 18 = .ok (.iconst 0, 1) := by decide +kernel
theorem dX11_sign_19 : decode cX11_sign 19 = .ok (.ireturn, 1) := by decide +kernel
theorem dX11_sign_20 : decode cX11_sign 20 = .ok (.aload_n 0, 1) := by decide +kernel
theorem dX11_sign_21 : decode cX11_sign 21 = .ok (.getfield 92, 3) := by decide +kernel
theorem dX11_sign_24 : decode cX11_sign 24 = .ok (.getfield 334, 3) := by decide +kernel
theorem dX11_sign_27 : decode cX11_sign 27 = .ok (.iload_n 1, 1) := by decide +kernel
theorem dX11_sign_28 : decode cX11_sign 28 = .ok (.iload_n 2, 1) := by decide +kernel
theorem dX11_sign_29 : decode cX11_sign 29 = .ok (.iastore, 1) := by decide +kernel
theorem dX11_sign_30 : decode cX11_sign 30 = .ok (.iconst 1, 1) := by decide +kernel
theorem dX11_sign_31 : decode cX11_sign 31 = .ok (.ireturn, 1) := by decide +kernel
theorem dX11_odds_0 : decode cX11_odds 0 = .ok (.iload_n 1, 1) := by decide +kernel
theorem dX11_odds_1 : decode cX11_odds 1 = .ok (.iconst (-1), 1) := by decide +kernel
theorem dX11_odds_2 : decode cX11_odds 2 = .ok (.if_icmp .ne 11, 3) := by decide +kernel
theorem dX11_odds_5 : decode cX11_odds 5 = .ok (.aload_n 0, 1) := by decide +kernel
theorem dX11_odds_6 : decode cX11_odds 6 = .ok (.getfield 92, 3) := by decide +kernel
theorem dX11_odds_9 : decode cX11_odds 9 = .ok (.invokevirtual 337, 3) := by decide +kernel
theorem dX11_odds_12 : decode cX11_odds 12 = .ok (.lreturn, 1) := by decide +kernel
theorem dX11_odds_13 : decode cX11_odds 13 = .ok (.iload_n 1, 1) := by decide +kernel
theorem dX11_odds_14 : decode cX11_odds 14 = .ok (.iconst 0, 1) := by decide +kernel
theorem dX11_odds_15 : decode cX11_odds 15 = .ok (.iconst 5, 1) := by decide +kernel
theorem dX11_odds_16 : decode cX11_odds 16 = .ok (.invokestatic 100, 3) := by decide +kernel
theorem dX11_odds_19 : decode cX11_odds 19 = .ok (.ifCond .eq 15, 3) := by decide +kernel
theorem dX11_odds_22 : decode cX11_odds 22 = .ok (.aload_n 0, 1) := by decide +kernel
theorem dX11_odds_23 : decode cX11_odds 23 = .ok (.getfield 92, 3) := by decide +kernel
theorem dX11_odds_26 : decode cX11_odds 26 = .ok (.getfield 340, 3) := by decide +kernel
theorem dX11_odds_29 : decode cX11_odds 29 = .ok (.iload_n 1, 1) := by decide +kernel
theorem dX11_odds_30 : decode cX11_odds 30 = .ok (.baload, 1) := by decide +kernel
theorem dX11_odds_31 : decode cX11_odds 31 = .ok (.ifCond .ne 7, 3) := by decide +kernel
theorem dX11_odds_34 : decode cX11_odds 34 = .ok (.ldc2_w 268, 3) := by decide +kernel
theorem dX11_odds_37 : decode cX11_odds 37 = .ok (.lreturn, 1) := by decide +kernel
theorem dX11_odds_38 : decode cX11_odds 38 = .ok (.aload_n 0, 1) := by decide +kernel
theorem dX11_odds_39 : decode cX11_odds 39 = .ok (.getfield 92, 3) := by decide +kernel
theorem dX11_odds_42 : decode cX11_odds 42 = .ok (.iload_n 1, 1) := by decide +kernel
theorem dX11_odds_43 : decode cX11_odds 43 = .ok (.invokevirtual 343, 3) := by decide +kernel
theorem dX11_odds_46 : decode cX11_odds 46 = .ok (.lreturn, 1) := by decide +kernel
theorem dX11_next_0 : decode cX11_next 0 = .ok (.iload_n 1, 1) := by decide +kernel
theorem dX11_next_1 : decode cX11_next 1 = .ok (.iconst 0, 1) := by decide +kernel
theorem dX11_next_2 : decode cX11_next 2 = .ok (.iconst 1, 1) := by decide +kernel
theorem dX11_next_3 : decode cX11_next 3 = .ok (.invokestatic 100, 3) := by decide +kernel
theorem dX11_next_6 : decode cX11_next 6 = .ok (.ifCond .eq 13, 3) := by decide +kernel
theorem dX11_next_9 : decode cX11_next 9 = .ok (.aload_n 0, 1) := by decide +kernel
theorem dX11_next_10 : decode cX11_next 10 = .ok (.getfield 92, 3) := by decide +kernel
theorem dX11_next_13 : decode cX11_next 13 = .ok (.invokevirtual 347, 3) := by decide +kernel
theorem dX11_next_16 : decode cX11_next 16 = .ok (.ifCond .ne 5, 3) := by decide +kernel
theorem dX11_next_19 : decode cX11_next 19 = .ok (.iconst (-1), 1) := by decide +kernel
theorem dX11_next_20 : decode cX11_next 20 = .ok (.ireturn, 1) := by decide +kernel
theorem dX11_next_21 : decode cX11_next 21 = .ok (.aload_n 0, 1) := by decide +kernel
theorem dX11_next_22 : decode cX11_next 22 = .ok (.getfield 92, 3) := by decide +kernel
theorem dX11_next_25 : decode cX11_next 25 = .ok (.invokevirtual 350, 3) := by decide +kernel
theorem dX11_next_28 : decode cX11_next 28 = .ok (.istore_n 2, 1) := by decide +kernel
theorem dX11_next_29 : decode cX11_next 29 = .ok (.iload_n 2, 1) := by decide +kernel
theorem dX11_next_30 : decode cX11_next 30 = .ok (.ifCond .ge 5, 3) := by decide +kernel
theorem dX11_next_33 : decode cX11_next 33 = .ok (.iconst (-1), 1) := by decide +kernel
theorem dX11_next_34 : decode cX11_next 34 = .ok (.ireturn, 1) := by decide +kernel
theorem dX11_next_35 : decode cX11_next 35 = .ok (.iload_n 1, 1) := by decide +kernel
theorem dX11_next_36 : decode cX11_next 36 = .ok (.ifCond .ne 7, 3) := by decide +kernel
theorem dX11_next_39 : decode cX11_next 39 = .ok (.iload_n 2, 1) := by decide +kernel
theorem dX11_next_40 : decode cX11_next 40 = .ok (.goto 11, 3) := by decide +kernel
theorem dX11_next_43 : decode cX11_next 43 = .ok (.aload_n 0, 1) := by decide +kernel
theorem dX11_next_44 : decode cX11_next 44 = .ok (.getfield 92, 3) := by decide +kernel
theorem dX11_next_47 : decode cX11_next 47 = .ok (.iload_n 2, 1) := by decide +kernel
theorem dX11_next_48 : decode cX11_next 48 = .ok (.invokevirtual 353, 3) := by decide +kernel
theorem dX11_next_51 : decode cX11_next 51 = .ok (.ireturn, 1) := by decide +kernel
theorem dX11_area_0 : decode cX11_area 0 = .ok (.iload_n 1, 1) := by decide +kernel
theorem dX11_area_1 : decode cX11_area 1 = .ok (.iconst 0, 1) := by decide +kernel
theorem dX11_area_2 : decode cX11_area 2 = .ok (.aload_n 0, 1) := by decide +kernel
theorem dX11_area_3 : decode cX11_area 3 = .ok (.getfield 39, 3) := by decide +kernel
theorem dX11_area_6 : decode cX11_area 6 = .ok (.getfield 235, 3) := by decide +kernel
theorem dX11_area_9 : decode cX11_area 9 = .ok (.iconst 1, 1) := by decide +kernel
theorem dX11_area_10 : decode cX11_area 10 = .ok (.isub, 1) := by decide +kernel
theorem dX11_area_11 : decode cX11_area 11 = .ok (.invokestatic 100, 3) := by decide +kernel
theorem dX11_area_14 : decode cX11_area 14 = .ok (.ifCond .eq 52, 3) := by decide +kernel
theorem dX11_area_17 : decode cX11_area 17 = .ok (.iload 4, 2) := by decide +kernel
theorem dX11_area_19 : decode cX11_area 19 = .ok (.iconst 0, 1) := by decide +kernel
theorem dX11_area_20 : decode cX11_area 20 = .ok (.aload_n 0, 1) := by decide +kernel
theorem dX11_area_21 : decode cX11_area 21 = .ok (.getfield 39, 3) := by decide +kernel
theorem dX11_area_24 : decode cX11_area 24 = .ok (.getfield 265, 3) := by decide +kernel
theorem dX11_area_27 : decode cX11_area 27 = .ok (.iconst 1, 1) := by decide +kernel
theorem dX11_area_28 : decode cX11_area 28 = .ok (.isub, 1) := by decide +kernel
theorem dX11_area_29 : decode cX11_area 29 = .ok (.invokestatic 100, 3) := by decide +kernel
theorem dX11_area_32 : decode cX11_area 32 = .ok (.ifCond .eq 34, 3) := by decide +kernel
theorem dX11_area_35 : decode cX11_area 35 = .ok (.iload_n 2, 1) := by decide +kernel
theorem dX11_area_36 : decode cX11_area 36 = .ok (.iconst 1, 1) := by decide +kernel
theorem dX11_area_37 : decode cX11_area 37 = .ok (.sipush 200, 3) := by decide +kernel
theorem dX11_area_40 : decode cX11_area 40 = .ok (.invokestatic 100, 3) := by decide +kernel
theorem dX11_area_43 : decode cX11_area 43 = .ok (.ifCond .eq 23, 3) := by decide +kernel
theorem dX11_area_46 : decode cX11_area 46 = .ok (.aload_n 0, 1) := by decide +kernel
theorem dX11_area_47 : decode cX11_area 47 = .ok (.getfield 64, 3) := by decide +kernel
theorem dX11_area_50 : decode cX11_area 50 = .ok (.aload_n 0, 1) := by decide +kernel
theorem dX11_area_51 : decode cX11_area 51 = .ok (.getfield 39, 3) := by decide +kernel
theorem dX11_area_54 : decode cX11_area 54 = .ok (.getfield 265, 3) := by decide +kernel
theorem dX11_area_57 : decode cX11_area 57 = .ok (.iconst 1, 1) := by decide +kernel
theorem dX11_area_58 : decode cX11_area 58 = .ok (.isub, 1) := by decide +kernel
theorem dX11_area_59 : decode cX11_area 59 = .ok (.iload_n 3, 1) := by decide +kernel
theorem dX11_area_60 : decode cX11_area 60 = .ok (.invokevirtual 356, 3) := by decide +kernel
theorem dX11_area_63 : decode cX11_area 63 = .ok (.ifCond .ne 7, 3) := by decide +kernel
theorem dX11_area_66 : decode cX11_area 66 = .ok (.ldc2_w 268, 3) := by decide +kernel
theorem dX11_area_69 : decode cX11_area 69 = .ok (.lreturn, 1) := by decide +kernel
theorem dX11_area_70 : decode cX11_area 70 = .ok (.aload_n 0, 1) := by decide +kernel
theorem dX11_area_71 : decode cX11_area 71 = .ok (.getfield 64, 3) := by decide +kernel
theorem dX11_area_74 : decode cX11_area 74 = .ok (.iload_n 1, 1) := by decide +kernel
theorem dX11_area_75 : decode cX11_area 75 = .ok (.iload_n 2, 1) := by decide +kernel
theorem dX11_area_76 : decode cX11_area 76 = .ok (.iload 4, 2) := by decide +kernel
theorem dX11_area_78 : decode cX11_area 78 = .ok (.invokevirtual 359, 3) := by decide +kernel
theorem dX11_area_81 : decode cX11_area 81 = .ok (.lreturn, 1) := by decide +kernel
theorem dX11_volume_0 : decode cX11_volume 0 = .ok (.iload_n 3, 1) := by decide +kernel
theorem dX11_volume_1 : decode cX11_volume 1 = .ok (.iconst 0, 1) := by decide +kernel
theorem dX11_volume_2 : decode cX11_volume 2 = .ok (.aload_n 0, 1) := by decide +kernel
theorem dX11_volume_3 : decode cX11_volume 3 = .ok (.getfield 39, 3) := by decide +kernel
theorem dX11_volume_6 : decode cX11_volume 6 = .ok (.getfield 265, 3) := by decide +kernel
theorem dX11_volume_9 : decode cX11_volume 9 = .ok (.iconst 1, 1) := by decide +kernel
theorem dX11_volume_10 : decode cX11_volume 10 = .ok (.isub, 1) := by decide +kernel
theorem dX11_volume_11 : decode cX11_volume 11 = .ok (.invokestatic 100, 3) := by decide +kernel
theorem dX11_volume_14 : decode cX11_volume 14 = .ok (.ifCond .eq 34, 3) := by decide +kernel
theorem dX11_volume_17 : decode cX11_volume 17 = .ok (.iload_n 1, 1) := by decide +kernel
theorem dX11_volume_18 : decode cX11_volume 18 = .ok (.iconst 1, 1) := by decide +kernel
theorem dX11_volume_19 : decode cX11_volume 19 = .ok (.sipush 200, 3) := by decide +kernel
theorem dX11_volume_22 : decode cX11_volume 22 = .ok (.invokestatic 100, 3) := by decide +kernel
theorem dX11_volume_25 : decode cX11_volume 25 = .ok (.ifCond .eq 23, 3) := by decide +kernel
theorem dX11_volume_28 : decode cX11_volume 28 = .ok (.aload_n 0, 1) := by decide +kernel
theorem dX11_volume_29 : decode cX11_volume 29 = .ok (.getfield 64, 3) := by decide +kernel
theorem dX11_volume_32 : decode cX11_volume 32 = .ok (.aload_n 0, 1) := by decide +kernel
theorem dX11_volume_33 : decode cX11_volume 33 = .ok (.getfield 39, 3) := by decide +kernel
theorem dX11_volume_36 : decode cX11_volume 36 = .ok (.getfield 265, 3) := by decide +kernel
theorem dX11_volume_39 : decode cX11_volume 39 = .ok (.iconst 1, 1) := by decide +kernel
theorem dX11_volume_40 : decode cX11_volume 40 = .ok (.isub, 1) := by decide +kernel
theorem dX11_volume_41 : decode cX11_volume 41 = .ok (.iload_n 2, 1) := by decide +kernel
theorem dX11_volume_42 : decode cX11_volume 42 = .ok (.invokevirtual 356, 3) := by decide +kernel
theorem dX11_volume_45 : decode cX11_volume 45 = .ok (.ifCond .ne 7, 3) := by decide +kernel
theorem dX11_volume_48 : decode cX11_volume 48 = .ok (.ldc2_w 268, 3) := by decide +kernel
theorem dX11_volume_51 : decode cX11_volume 51 = .ok (.lreturn, 1) := by decide +kernel
theorem dX11_volume_52 : decode cX11_volume 52 = .ok (.aload_n 0, 1) := by decide +kernel
theorem dX11_volume_53 : decode cX11_volume 53 = .ok (.getfield 64, 3) := by decide +kernel
theorem dX11_volume_56 : decode cX11_volume 56 = .ok (.iload_n 1, 1) := by decide +kernel
theorem dX11_volume_57 : decode cX11_volume 57 = .ok (.iload_n 3, 1) := by decide +kernel
theorem dX11_volume_58 : decode cX11_volume 58 = .ok (.aload_n 0, 1) := by decide +kernel
theorem dX11_volume_59 : decode cX11_volume 59 = .ok (.getfield 96, 3) := by decide +kernel
theorem dX11_volume_62 : decode cX11_volume 62 = .ok (.invokevirtual 363, 3) := by decide +kernel
theorem dX11_volume_65 : decode cX11_volume 65 = .ok (.lreturn, 1) := by decide +kernel
theorem dX11_depth_0 : decode cX11_depth 0 = .ok (.iload_n 3, 1) := by decide +kernel
theorem dX11_depth_1 : decode cX11_depth 1 = .ok (.iconst 0, 1) := by decide +kernel
theorem dX11_depth_2 : decode cX11_depth 2 = .ok (.ldc_w 366, 3) := by decide +kernel
theorem dX11_depth_5 : decode cX11_depth 5 = .ok (.invokestatic 100, 3) := by decide +kernel
theorem dX11_depth_8 : decode cX11_depth 8 = .ok (.ifCond .eq 34, 3) := by decide +kernel
theorem dX11_depth_11 : decode cX11_depth 11 = .ok (.iload_n 1, 1) := by decide +kernel
theorem dX11_depth_12 : decode cX11_depth 12 = .ok (.iconst 1, 1) := by decide +kernel
theorem dX11_depth_13 : decode cX11_depth 13 = .ok (.sipush 200, 3) := by decide +kernel
theorem dX11_depth_16 : decode cX11_depth 16 = .ok (.invokestatic 100, 3) := by decide +kernel
theorem dX11_depth_19 : decode cX11_depth 19 = .ok (.ifCond .eq 23, 3) := by decide +kernel
theorem dX11_depth_22 : decode cX11_depth 22 = .ok (.aload_n 0, 1) := by decide +kernel
theorem dX11_depth_23 : decode cX11_depth 23 = .ok (.getfield 64, 3) := by decide +kernel
theorem dX11_depth_26 : decode cX11_depth 26 = .ok (.aload_n 0, 1) := by decide +kernel
theorem dX11_depth_27 : decode cX11_depth 27 = .ok (.getfield 39, 3) := by decide +kernel
theorem dX11_depth_30 : decode cX11_depth 30 = .ok (.getfield 265, 3) := by decide +kernel
theorem dX11_depth_33 : decode cX11_depth 33 = .ok (.iconst 1, 1) := by decide +kernel
theorem dX11_depth_34 : decode cX11_depth 34 = .ok (.isub, 1) := by decide +kernel
theorem dX11_depth_35 : decode cX11_depth 35 = .ok (.iload_n 2, 1) := by decide +kernel
theorem dX11_depth_36 : decode cX11_depth 36 = .ok (.invokevirtual 356, 3) := by decide +kernel
theorem dX11_depth_39 : decode cX11_depth 39 = .ok (.ifCond .ne 5, 3) := by decide +kernel
theorem dX11_depth_42 : decode cX11_depth 42 = .ok (.iconst (-1), 1) := by decide +kernel
theorem dX11_depth_43 : decode cX11_depth 43 = .ok (.ireturn, 1) := by decide +kernel
theorem dX11_depth_44 : decode cX11_depth 44 = .ok (.aload_n 0, 1) := by decide +kernel
theorem dX11_depth_45 : decode cX11_depth 45 = .ok (.getfield 64, 3) := by decide +kernel
theorem dX11_depth_48 : decode cX11_depth 48 = .ok (.iload_n 1, 1) := by decide +kernel
theorem dX11_depth_49 : decode cX11_depth 49 = .ok (.iload_n 3, 1) := by decide +kernel
theorem dX11_depth_50 : decode cX11_depth 50 = .ok (.aload_n 0, 1) := by decide +kernel
theorem dX11_depth_51 : decode cX11_depth 51 = .ok (.getfield 96, 3) := by decide +kernel
theorem dX11_depth_54 : decode cX11_depth 54 = .ok (.invokevirtual 367, 3) := by decide +kernel
theorem dX11_depth_57 : decode cX11_depth 57 = .ok (.ireturn, 1) := by decide +kernel
theorem dX11_pace_0 : decode cX11_pace 0 = .ok (.iload_n 1, 1) := by decide +kernel
theorem dX11_pace_1 : decode cX11_pace 1 = .ok (.iconst 1, 1) := by decide +kernel
theorem dX11_pace_2 : decode cX11_pace 2 = .ok (.sipush 1000, 3) := by decide +kernel
theorem dX11_pace_5 : decode cX11_pace 5 = .ok (.invokestatic 100, 3) := by decide +kernel
theorem dX11_pace_8 : decode cX11_pace 8 = .ok (.ifCond .eq 13, 3) := by decide +kernel
theorem dX11_pace_11 : decode cX11_pace 11 = .ok (.aload_n 0, 1) := by decide +kernel
theorem dX11_pace_12 : decode cX11_pace 12 = .ok (.getfield 39, 3) := by decide +kernel
theorem dX11_pace_15 : decode cX11_pace 15 = .ok (.invokevirtual 147, 3) := by decide +kernel
theorem dX11_pace_18 : decode cX11_pace 18 = .ok (.ifCond .ne 5, 3) := by decide +kernel
theorem dX11_pace_21 : decode cX11_pace 21 = .ok (.iconst (-1), 1) := by decide +kernel
theorem dX11_pace_22 : decode cX11_pace 22 = .ok (.ireturn, 1) := by decide +kernel
theorem dX11_pace_23 : decode cX11_pace 23 = .ok (.iload_n 1, 1) := by decide +kernel
theorem dX11_pace_24 : decode cX11_pace 24 = .ok (.aload_n 0, 1) := by decide +kernel
theorem dX11_pace_25 : decode cX11_pace 25 = .ok (.getfield 39, 3) := by decide +kernel
theorem dX11_pace_28 : decode cX11_pace 28 = .ok (.getfield 235, 3) := by decide +kernel
theorem dX11_pace_31 : decode cX11_pace 31 = .ok (.iconst 1, 1) := by decide +kernel
theorem dX11_pace_32 : decode cX11_pace 32 = .ok (.isub, 1) := by decide +kernel
theorem dX11_pace_33 : decode cX11_pace 33 = .ok (.imul, 1) := by decide +kernel
theorem dX11_pace_34 : decode cX11_pace 34 = .ok (.aload_n 0, 1) := by decide +kernel
theorem dX11_pace_35 : decode cX11_pace 35 = .ok (.getfield 96, 3) := by decide +kernel
theorem dX11_pace_38 : decode cX11_pace 38 = .ok (.imul, 1) := by decide +kernel
theorem dX11_pace_39 : decode cX11_pace 39 = .ok (.invokestatic 370, 3) := by decide +kernel
theorem dX11_pace_42 : decode cX11_pace 42 = .ok (.ireturn, 1) := by decide +kernel
theorem dX11_length_0 : decode cX11_length 0 = .ok (.aload_n 0, 1) := by decide +kernel
theorem dX11_length_1 : decode cX11_length 1 = .ok (.getfield 55, 3) := by decide +kernel
theorem dX11_length_4 : decode cX11_length 4 = .ok (.iload_n 1, 1) := by decide +kernel
theorem dX11_length_5 : decode cX11_length 5 = .ok (.iload_n 2, 1) := by decide +kernel
theorem dX11_length_6 : decode cX11_length 6 = .ok (.invokevirtual 247, 3) := by decide +kernel
theorem dX11_length_9 : decode cX11_length 9 = .ok (.ifCond .ne 5, 3) := by decide +kernel
theorem dX11_length_12 : decode cX11_length 12 = .ok (.iconst (-1), 1) := by decide +kernel
theorem dX11_length_13 : decode cX11_length 13 = .ok (.ireturn, 1) := by decide +kernel
theorem dX11_length_14 : decode cX11_length 14 = .ok (.aload_n 0, 1) := by decide +kernel
theorem dX11_length_15 : decode cX11_length 15 = .ok (.getfield 64, 3) := by decide +kernel
theorem dX11_length_18 : decode cX11_length 18 = .ok (.iload_n 1, 1) := by decide +kernel
theorem dX11_length_19 : decode cX11_length 19 = .ok (.aload_n 0, 1) := by decide +kernel
theorem dX11_length_20 : decode cX11_length 20 = .ok (.getfield 96, 3) := by decide +kernel
theorem dX11_length_23 : decode cX11_length 23 = .ok (.invokevirtual 373, 3) := by decide +kernel
theorem dX11_length_26 : decode cX11_length 26 = .ok (.ireturn, 1) := by decide +kernel
theorem dX11_joints_0 : decode cX11_joints 0 = .ok (.iload_n 3, 1) := by decide +kernel
theorem dX11_joints_1 : decode cX11_joints 1 = .ok (.iconst 1, 1) := by decide +kernel
theorem dX11_joints_2 : decode cX11_joints 2 = .ok (.ldc_w 376, 3) := by decide +kernel
theorem dX11_joints_5 : decode cX11_joints 5 = .ok (.invokestatic 100, 3) := by decide +kernel
theorem dX11_joints_8 : decode cX11_joints 8 = .ok (.ifCond .eq 21, 3) := by decide +kernel
theorem dX11_joints_11 : decode cX11_joints 11 = .ok (.iload 4, 2) := by decide +kernel
theorem dX11_joints_13 : decode cX11_joints 13 = .ok (.iconst (-1), 1) := by decide +kernel
theorem dX11_joints_14 : decode cX11_joints 14 = .ok (.if_icmp .lt 15, 3) := by decide +kernel
theorem dX11_joints_17 : decode cX11_joints 17 = .ok (.aload_n 0, 1) := by decide +kernel
theorem dX11_joints_18 : decode cX11_joints 18 = .ok (.getfield 64, 3) := by decide +kernel
theorem dX11_joints_21 : decode cX11_joints 21 = .ok (.iload_n 1, 1) := by decide +kernel
theorem dX11_joints_22 : decode cX11_joints 22 = .ok (.iload_n 2, 1) := by decide +kernel
theorem dX11_joints_23 : decode cX11_joints 23 = .ok (.invokevirtual 356, 3) := by decide +kernel
theorem dX11_joints_26 : decode cX11_joints 26 = .ok (.ifCond .ne 6, 3) := by decide +kernel
theorem dX11_joints_29 : decode cX11_joints 29 = .ok (.bipush (-3), 2) := by decide +kernel
theorem dX11_joints_31 : decode cX11_joints 31 = .ok (.ireturn, 1) := by decide +kernel
theorem dX11_joints_32 : decode cX11_joints 32 = .ok (.aload_n 0, 1) := by decide +kernel
theorem dX11_joints_33 : decode cX11_joints 33 = .ok (.getfield 64, 3) := by decide +kernel
theorem dX11_joints_36 : decode cX11_joints 36 = .ok (.iload_n 1, 1) := by decide +kernel
theorem dX11_joints_37 : decode cX11_joints 37 = .ok (.iload_n 3, 1) := by decide +kernel
theorem dX11_joints_38 : decode cX11_joints 38 = .ok (.aload_n 0, 1) := by decide +kernel
theorem dX11_joints_39 : decode cX11_joints 39 = .ok (.getfield 96, 3) := by decide +kernel
theorem dX11_joints_42 : decode cX11_joints 42 = .ok (.invokevirtual 377, 3) := by decide +kernel
theorem dX11_joints_45 : decode cX11_joints 45 = .ok (.ifCond .ne 6, 3) := by decide +kernel
theorem dX11_joints_48 : decode cX11_joints 48 = .ok (.bipush (-2), 2) := by decide +kernel
theorem dX11_joints_50 : decode cX11_joints 50 = .ok (.ireturn, 1) := by decide +kernel
theorem dX11_joints_51 : decode cX11_joints 51 = .ok (.iload 4, 2) := by decide +kernel
theorem dX11_joints_53 : decode cX11_joints 53 = .ok (.iconst (-1), 1) := by decide +kernel
theorem dX11_joints_54 : decode cX11_joints 54 = .ok (.if_icmp .ne 11, 3) := by decide +kernel
theorem dX11_joints_57 : decode cX11_joints 57 = .ok (.aload_n 0, 1) := by decide +kernel
theorem dX11_joints_58 : decode cX11_joints 58 = .ok (.getfield 64, 3) := by decide +kernel
theorem dX11_joints_61 : decode cX11_joints 61 = .ok (.getfield 380, 3) := by decide +kernel
theorem dX11_joints_64 : decode cX11_joints 64 = .ok (.ireturn, 1) := by decide +kernel
theorem dX11_joints_65 : decode cX11_joints 65 = .ok (.iload 4, 2) := by decide +kernel
theorem dX11_joints_67 : decode cX11_joints 67 = .ok (.aload_n 0, 1) := by decide +kernel
theorem dX11_joints_68 : decode cX11_joints 68 = .ok (.getfield 64, 3) := by decide +kernel
theorem dX11_joints_71 : decode cX11_joints 71 = .ok (.getfield 380, 3) := by decide +kernel
theorem dX11_joints_74 : decode cX11_joints 74 = .ok (.if_icmp .ge 16, 3) := by decide +kernel
theorem dX11_joints_77 : decode cX11_joints 77 = .ok (.aload_n 0, 1) := by decide +kernel
theorem dX11_joints_78 : decode cX11_joints 78 = .ok (.getfield 64, 3) := by decide +kernel
theorem dX11_joints_81 : decode cX11_joints 81 = .ok (.getfield 383, 3) := by decide +kernel
theorem dX11_joints_84 : decode cX11_joints 84 = .ok (.iload 4, 2) := by decide +kernel
theorem dX11_joints_86 : decode cX11_joints 86 = .ok (.iaload, 1) := by decide +kernel
theorem dX11_joints_87 : decode cX11_joints 87 = .ok (.goto 5, 3) := by decide +kernel
theorem dX11_joints_90 : decode cX11_joints 90 = .ok (.bipush (-3), 2) := by decide +kernel
theorem dX11_joints_92 : decode cX11_joints 92 = .ok (.ireturn, 1) := by decide +kernel
theorem dX11_lasts_0 : decode cX11_lasts 0 = .ok (.iload_n 1, 1) := by decide +kernel
theorem dX11_lasts_1 : decode cX11_lasts 1 = .ok (.iconst 1, 1) := by decide +kernel
theorem dX11_lasts_2 : decode cX11_lasts 2 = .ok (.sipush 10000, 3) := by decide +kernel
theorem dX11_lasts_5 : decode cX11_lasts 5 = .ok (.invokestatic 100, 3) := by decide +kernel
theorem dX11_lasts_8 : decode cX11_lasts 8 = .ok (.ifCond .eq 13, 3) := by decide +kernel
theorem dX11_lasts_11 : decode cX11_lasts 11 = .ok (.iload_n 2, 1) := by decide +kernel
theorem dX11_lasts_12 : decode cX11_lasts 12 = .ok (.iconst 0, 1) := by decide +kernel
theorem dX11_lasts_13 : decode cX11_lasts 13 = .ok (.bipush 100, 2) := by decide +kernel
theorem dX11_lasts_15 : decode cX11_lasts 15 = .ok (.invokestatic 100, 3) := by decide +kernel
theorem dX11_lasts_18 : decode cX11_lasts 18 = .ok (.ifCond .ne 5, 3) := by decide +kernel
theorem dX11_lasts_21 : decode cX11_lasts 21 = .ok (.iconst (-1), 1) := by decide +kernel
theorem dX11_lasts_22 : decode cX11_lasts 22 = .ok (.ireturn, 1) := by decide +kernel
theorem dX11_lasts_23 : decode cX11_lasts 23 = .ok (.aload_n 0, 1) := by decide +kernel
theorem dX11_lasts_24 : decode cX11_lasts 24 = .ok (.getfield 32, 3) := by decide +kernel
theorem dX11_lasts_27 : decode cX11_lasts 27 = .ok (.bipush 13, 2) := by decide +kernel
theorem dX11_lasts_29 : decode cX11_lasts 29 = .ok (.aload_n 0, 1) := by decide +kernel
theorem dX11_lasts_30 : decode cX11_lasts 30 = .ok (.getfield 39, 3) := by decide +kernel
theorem dX11_lasts_33 : decode cX11_lasts 33 = .ok (.getfield 235, 3) := by decide +kernel
theorem dX11_lasts_36 : decode cX11_lasts 36 = .ok (.iastore, 1) := by decide +kernel
theorem dX11_lasts_37 : decode cX11_lasts 37 = .ok (.aload_n 0, 1) := by decide +kernel
theorem dX11_lasts_38 : decode cX11_lasts 38 = .ok (.getfield 32, 3) := by decide +kernel
theorem dX11_lasts_41 : decode cX11_lasts 41 = .ok (.bipush 10, 2) := by decide +kernel
theorem dX11_lasts_43 : decode cX11_lasts 43 = .ok (.aload_n 0, 1) := by decide +kernel
theorem dX11_lasts_44 : decode cX11_lasts 44 = .ok (.getfield 39, 3) := by decide +kernel
theorem dX11_lasts_47 : decode cX11_lasts 47 = .ok (.getfield 265, 3) := by decide +kernel
theorem dX11_lasts_50 : decode cX11_lasts 50 = .ok (.iastore, 1) := by decide +kernel
theorem dX11_lasts_51 : decode cX11_lasts 51 = .ok (.aload_n 0, 1) := by decide +kernel
theorem dX11_lasts_52 : decode cX11_lasts 52 = .ok (.getfield 32, 3) := by decide +kernel
theorem dX11_lasts_55 : decode cX11_lasts 55 = .ok (.bipush 22, 2) := by decide +kernel
theorem dX11_lasts_57 : decode cX11_lasts 57 = .ok (.iload_n 2, 1) := by decide +kernel
theorem dX11_lasts_58 : decode cX11_lasts 58 = .ok (.iastore, 1) := by decide +kernel
theorem dX11_lasts_59 : decode cX11_lasts 59 = .ok (.iload_n 1, 1) := by decide +kernel
theorem dX11_lasts_60 : decode cX11_lasts 60 = .ok (.istore_n 3, 1) := by decide +kernel
theorem dX11_lasts_61 : decode cX11_lasts 61 = .ok (.iconst 0, 1) := by decide +kernel
theorem dX11_lasts_62 : decode cX11_lasts 62 = .ok (.istore 4, 2) := by decide +kernel
theorem dX11_lasts_64 : decode cX11_lasts 64 = .ok (.iload 4, 2) := by decide +kernel
theorem dX11_lasts_66 : decode cX11_lasts 66 = .ok (.sipush 2000, 3) := by decide +kernel
theorem dX11_lasts_69 : decode cX11_lasts 69 = .ok (.if_icmp .ge 57, 3) := by decide +kernel
theorem dX11_lasts_72 : decode cX11_lasts 72 = .ok (.aload_n 0, 1) := by decide +kernel
theorem dX11_lasts_73 : decode cX11_lasts 73 = .ok (.getfield 32, 3) := by decide +kernel
theorem dX11_lasts_76 : decode cX11_lasts 76 = .ok (.bipush 19, 2) := by decide +kernel
theorem dX11_lasts_78 : decode cX11_lasts 78 = .ok (.iload 4, 2) := by decide +kernel
theorem dX11_lasts_80 : decode cX11_lasts 80 = .ok (.iastore, 1) := by decide +kernel
theorem dX11_lasts_81 : decode cX11_lasts 81 = .ok (.aload_n 0, 1) := by decide +kernel
theorem dX11_lasts_82 : decode cX11_lasts 82 = .ok (.getfield 32, 3) := by decide +kernel
theorem dX11_lasts_85 : decode cX11_lasts 85 = .ok (.bipush 21, 2) := by decide +kernel
theorem dX11_lasts_87 : decode cX11_lasts 87 = .ok (.iload_n 3, 1) := by decide +kernel
theorem dX11_lasts_88 : decode cX11_lasts 88 = .ok (.iastore, 1) := by decide +kernel
theorem dX11_lasts_89 : decode cX11_lasts 89 = .ok (.iload_n 3, 1) := by decide +kernel
theorem dX11_lasts_90 : decode cX11_lasts 90 = .ok (.aload_n 0, 1) := by decide +kernel
theorem dX11_lasts_91 : decode cX11_lasts 91 = .ok (.getfield 28, 3) := by decide +kernel
theorem dX11_lasts_94 : decode cX11_lasts 94 = .ok (.iconst 2, 1) := by decide +kernel
theorem dX11_lasts_95 : decode cX11_lasts 95 = .ok (.aaload, 1) := by decide +kernel
theorem dX11_lasts_96 : decode cX11_lasts 96 = .ok (.bipush 101, 2) := by decide +kernel
theorem dX11_lasts_98 : decode cX11_lasts 98 = .ok (.aload_n 0, 1) := by decide +kernel
theorem dX11_lasts_99 : decode cX11_lasts 99 = .ok (.getfield 32, 3) := by decide +kernel
theorem dX11_lasts_102 : decode cX11_lasts 102 = .ok (.iconst 0, 1) := by decide +kernel
theorem dX11_lasts_103 : decode cX11_lasts 103 = .ok (.sipush 1000, 3) := by decide +kernel
theorem dX11_lasts_106 : decode cX11_lasts 106 = .ok (.invokevirtual 386, 3) := by decide +kernel
theorem dX11_lasts_109 : decode cX11_lasts 109 = .ok (.isub, 1) := by decide +kernel
theorem dX11_lasts_110 : decode cX11_lasts 110 = .ok (.istore_n 3, 1) := by decide +kernel
theorem dX11_lasts_111 : decode cX11_lasts 111 = .ok (.iload_n 3, 1) := by decide +kernel
theorem dX11_lasts_112 : decode cX11_lasts 112 = .ok (.ifCond .gt 8, 3) := by decide +kernel
theorem dX11_lasts_115 : decode cX11_lasts 115 = .ok (.iload 4, 2) := by decide +kernel
theorem dX11_lasts_117 : decode cX11_lasts 117 = .ok (.iconst 1, 1) := by decide +kernel
theorem dX11_lasts_118 : decode cX11_lasts 118 = .ok (.iadd, 1) := by decide +kernel
theorem dX11_lasts_119 : decode cX11_lasts 119 = .ok (.ireturn, 1) := by decide +kernel
theorem dX11_lasts_120 : decode cX11_lasts 120 = .ok (.iinc 4 1, 3) := by decide +kernel
theorem dX11_lasts_123 : decode cX11_lasts 123 = .ok (.goto (-59), 3) := by decide +kernel
theorem dX11_lasts_126 : decode cX11_lasts 126 = .ok (.bipush (-2), 2) := by decide +kernel
theorem dX11_lasts_128 : decode cX11_lasts 128 = .ok (.ireturn, 1) := by decide +kernel
theorem dX11_check_0 : decode cX11_check 0 = .ok (.iload_n 3, 1) := by decide +kernel
theorem dX11_check_1 : decode cX11_check 1 = .ok (.ifCond .lt 28, 3) := by decide +kernel
theorem dX11_check_4 : decode cX11_check 4 = .ok (.iload_n 3, 1) := by decide +kernel
theorem dX11_check_5 : decode cX11_check 5 = .ok (.aload_n 0, 1) := by decide +kernel
theorem dX11_check_6 : decode cX11_check 6 = .ok (.getfield 10, 3) := by decide +kernel
theorem dX11_check_9 : decode cX11_check 9 = .ok (.getfield 116, 3) := by decide +kernel
theorem dX11_check_12 : decode cX11_check 12 = .ok (.iconst 4, 1) := by decide +kernel
theorem dX11_check_13 : decode cX11_check 13 = .ok (.idiv, 1) := by decide +kernel
theorem dX11_check_14 : decode cX11_check 14 = .ok (.if_icmp .gt 15, 3) := by decide +kernel
theorem dX11_check_17 : decode cX11_check 17 = .ok (.aload_n 0, 1) := by decide +kernel
theorem dX11_check_18 : decode cX11_check 18 = .ok (.getfield 55, 3) := by decide +kernel
theorem dX11_check_21 : decode cX11_check 21 = .ok (.iload_n 1, 1) := by decide +kernel
theorem dX11_check_22 : decode cX11_check 22 = .ok (.iload_n 2, 1) := by decide +kernel
theorem dX11_check_23 : decode cX11_check 23 = .ok (.invokevirtual 247, 3) := by decide +kernel
theorem dX11_check_26 : decode cX11_check 26 = .ok (.ifCond .ne 6, 3) := by decide +kernel
theorem dX11_check_29 : decode cX11_check 29 = .ok (.bipush (-2), 2) := by decide +kernel
theorem dX11_check_31 : decode cX11_check 31 = .ok (.ireturn, 1) := by decide +kernel
theorem dX11_check_32 : decode cX11_check 32 = .ok (.aload_n 0, 1) := by decide +kernel
theorem dX11_check_33 : decode cX11_check 33 = .ok (.iload_n 1, 1) := by decide +kernel
theorem dX11_check_34 : decode cX11_check 34 = .ok (.iload_n 3, 1) := by decide +kernel
theorem dX11_check_35 : decode cX11_check 35 = .ok (.invokevirtual 390, 3) := by decide +kernel
theorem dX11_check_38 : decode cX11_check 38 = .ok (.istore 4, 2) := by decide +kernel
theorem dX11_check_40 : decode cX11_check 40 = .ok (.aload_n 0, 1) := by decide +kernel
theorem dX11_check_41 : decode cX11_check 41 = .ok (.getfield 10, 3) := by decide +kernel
theorem dX11_check_44 : decode cX11_check 44 = .ok (.invokevirtual 133, 3) := by decide +kernel
theorem dX11_check_47 : decode cX11_check 47 = .ok (.iload 4, 2) := by decide +kernel
theorem dX11_check_49 : decode cX11_check 49 = .ok (.ireturn, 1) := by decide +kernel
theorem dX11_firstWrong_0 : decode cX11_firstWrong 0 = .ok (.iconst 0, 1) := by decide +kernel
theorem dX11_firstWrong_1 : decode cX11_firstWrong 1 = .ok (.istore_n 3, 1) := by decide +kernel
theorem dX11_firstWrong_2 : decode cX11_firstWrong 2 = .ok (.iload_n 3, 1) := by decide +kernel
theorem dX11_firstWrong_3 : decode cX11_firstWrong 3 = .ok (.iload_n 2, 1) := by decide +kernel
theorem dX11_firstWrong_4 : decode cX11_firstWrong 4 = .ok (.if_icmp .ge 42, 3) := by decide +kernel
theorem dX11_firstWrong_7 : decode cX11_firstWrong 7 = .ok (.iload_n 3, 1) := by decide +kernel
theorem dX11_firstWrong_8 : decode cX11_firstWrong 8 = .ok (.aload_n 0, 1) := by decide +kernel
theorem dX11_firstWrong_9 : decode cX11_firstWrong 9 = .ok (.getfield 39, 3) := by decide +kernel
theorem dX11_firstWrong_12 : decode cX11_firstWrong 12 = .ok (.getfield 235, 3) := by decide +kernel
theorem dX11_firstWrong_15 : decode cX11_firstWrong 15 = .ok (.if_icmp .ge 23, 3) := by decide +kernel
theorem dX11_firstWrong_18 : decode cX11_firstWrong 18 = .ok (.aload_n 0, 1) := by decide +kernel
theorem dX11_firstWrong_19 : decode cX11_firstWrong 19 = .ok (.getfield 10, 3) := by decide +kernel
theorem dX11_firstWrong_22 : decode cX11_firstWrong 22 = .ok (.iload_n 3, 1) := by decide +kernel
theorem dX11_firstWrong_23 : decode cX11_firstWrong 23 = .ok (.invokevirtual 393, 3) := by decide +kernel
theorem dX11_firstWrong_26 : decode cX11_firstWrong 26 = .ok (.aload_n 0, 1) := by decide +kernel
theorem dX11_firstWrong_27 : decode cX11_firstWrong 27 = .ok (.getfield 55, 3) := by decide +kernel
theorem dX11_firstWrong_30 : decode cX11_firstWrong 30 = .ok (.iload_n 1, 1) := by decide +kernel
theorem dX11_firstWrong_31 : decode cX11_firstWrong 31 = .ok (.iload_n 3, 1) := by decide +kernel
theorem dX11_firstWrong_32 : decode cX11_firstWrong 32 = .ok (.invokevirtual 256, 3) := by decide +kernel
theorem dX11_firstWrong_35 : decode cX11_firstWrong 35 = .ok (.if_icmp .eq 5, 3) := by decide +kernel
theorem dX11_firstWrong_38 : decode cX11_firstWrong 38 = .ok (.iload_n 3, 1) := by decide +kernel
theorem dX11_firstWrong_39 : decode cX11_firstWrong 39 = .ok (.ireturn, 1) := by decide +kernel
theorem dX11_firstWrong_40 : decode cX11_firstWrong 40 = .ok (.iinc 3 1, 3) := by decide +kernel
theorem dX11_firstWrong_43 : decode cX11_firstWrong 43 = .ok (.goto (-41), 3) := by decide +kernel
theorem dX11_firstWrong_46 : decode cX11_firstWrong 46 = .ok (.iload_n 2, 1) := by decide +kernel
theorem dX11_firstWrong_47 : decode cX11_firstWrong 47 = .ok (.aload_n 0, 1) := by decide +kernel
theorem dX11_firstWrong_48 : decode cX11_firstWrong 48 = .ok (.getfield 39, 3) := by decide +kernel
theorem dX11_firstWrong_51 : decode cX11_firstWrong 51 = .ok (.getfield 235, 3) := by decide +kernel
theorem dX11_firstWrong_54 : decode cX11_firstWrong 54 = .ok (.if_icmp .ge 7, 3) := by decide +kernel
theorem dX11_firstWrong_57 : decode cX11_firstWrong 57 = .ok (.iload_n 2, 1) := by decide +kernel
theorem dX11_firstWrong_58 : decode cX11_firstWrong 58 = .ok (.goto 4, 3) := by decide +kernel
theorem dX11_firstWrong_61 : decode cX11_firstWrong 61 = .ok (.iconst (-1), 1) := by decide +kernel
theorem dX11_firstWrong_62 : decode cX11_firstWrong 62 = .ok (.ireturn, 1) := by decide +kernel
theorem dX11_count_0 : decode cX11_count 0 = .ok (.iload_n 1, 1) := by decide +kernel
theorem dX11_count_1 : decode cX11_count 1 = .ok (.tableswitch 123 0 9 #[55, 63, 71, 79, 87, 95, 95, 95, 107, 115], 55) := by decide +kernel
theorem dX11_count_56 : decode cX11_count 56 = .ok (.aload_n 0, 1) := by decide +kernel
theorem dX11_count_57 : decode cX11_count 57 = .ok (.getfield 39, 3) := by decide +kernel
theorem dX11_count_60 : decode cX11_count 60 = .ok (.getfield 235, 3) := by decide +kernel
theorem dX11_count_63 : decode cX11_count 63 = .ok (.ireturn, 1) := by decide +kernel
theorem dX11_count_64 : decode cX11_count 64 = .ok (.aload_n 0, 1) := by decide +kernel
theorem dX11_count_65 : decode cX11_count 65 = .ok (.getfield 39, 3) := by decide +kernel
theorem dX11_count_68 : decode cX11_count 68 = .ok (.getfield 265, 3) := by decide +kernel
theorem dX11_count_71 : decode cX11_count 71 = .ok (.ireturn, 1) := by decide +kernel
theorem dX11_count_72 : decode cX11_count 72 = .ok (.aload_n 0, 1) := by decide +kernel
theorem dX11_count_73 : decode cX11_count 73 = .ok (.getfield 39, 3) := by decide +kernel
theorem dX11_count_76 : decode cX11_count 76 = .ok (.invokevirtual 155, 3) := by decide +kernel
theorem dX11_count_79 : decode cX11_count 79 = .ok (.ireturn, 1) := by decide +kernel
theorem dX11_count_80 : decode cX11_count 80 = .ok (.aload_n 0, 1) := by decide +kernel
theorem dX11_count_81 : decode cX11_count 81 = .ok (.getfield 39, 3) := by decide +kernel
theorem dX11_count_84 : decode cX11_count 84 = .ok (.getfield 105, 3) := by decide +kernel
theorem dX11_count_87 : decode cX11_count 87 = .ok (.ireturn, 1) := by decide +kernel
theorem dX11_count_88 : decode cX11_count 88 = .ok (.aload_n 0, 1) := by decide +kernel
theorem dX11_count_89 : decode cX11_count 89 = .ok (.getfield 10, 3) := by decide +kernel
theorem dX11_count_92 : decode cX11_count 92 = .ok (.getfield 116, 3) := by decide +kernel
theorem dX11_count_95 : decode cX11_count 95 = .ok (.ireturn, 1) := by decide +kernel
theorem dX11_count_96 : decode cX11_count 96 = .ok (.aload_n 0, 1) := by decide +kernel
theorem dX11_count_97 : decode cX11_count 97 = .ok (.getfield 28, 3) := by decide +kernel
theorem dX11_count_100 : decode cX11_count 100 = .ok (.iload_n 1, 1) := by decide +kernel
theorem dX11_count_101 : decode cX11_count 101 = .ok (.iconst 5, 1) := by decide +kernel
theorem dX11_count_102 : decode cX11_count 102 = .ok (.isub, 1) := by decide +kernel
theorem dX11_count_103 : decode cX11_count 103 = .ok (.aaload, 1) := by decide +kernel
theorem dX11_count_104 : decode cX11_count 104 = .ok (.getfield 396, 3) := by decide +kernel
theorem dX11_count_107 : decode cX11_count 107 = .ok (.ireturn, 1) := by decide +kernel
theorem dX11_count_108 : decode cX11_count 108 = .ok (.aload_n 0, 1) := by decide +kernel
theorem dX11_count_109 : decode cX11_count 109 = .ok (.getfield 48, 3) := by decide +kernel
theorem dX11_count_112 : decode cX11_count 112 = .ok (.getfield 399, 3) := by decide +kernel
theorem dX11_count_115 : decode cX11_count 115 = .ok (.ireturn, 1) := by decide +kernel
theorem dX11_count_116 : decode cX11_count 116 = .ok (.aload_n 0, 1) := by decide +kernel
theorem dX11_count_117 : decode cX11_count 117 = .ok (.getfield 92, 3) := by decide +kernel
theorem dX11_count_120 : decode cX11_count 120 = .ok (.invokevirtual 347, 3) := by decide +kernel
theorem dX11_count_123 : decode cX11_count 123 = .ok (.ireturn, 1) := by decide +kernel
theorem dX11_count_124 : decode cX11_count 124 = .ok (.iload_n 1, 1) := by decide +kernel
theorem dX11_count_125 : decode cX11_count 125 = .ok (.bipush 10, 2) := by decide +kernel
theorem dX11_count_127 : decode cX11_count 127 = .ok (.if_icmp .lt 31, 3) := by decide +kernel
theorem dX11_count_130 : decode cX11_count 130 = .ok (.aload_n 0, 1) := by decide +kernel
theorem dX11_count_131 : decode cX11_count 131 = .ok (.getfield 48, 3) := by decide +kernel
theorem dX11_count_134 : decode cX11_count 134 = .ok (.iload_n 1, 1) := by decide +kernel
theorem dX11_count_135 : decode cX11_count 135 = .ok (.bipush 10, 2) := by decide +kernel
theorem dX11_count_137 : decode cX11_count 137 = .ok (.isub, 1) := by decide +kernel
theorem dX11_count_138 : decode cX11_count 138 = .ok (.invokevirtual 197, 3) := by decide +kernel
theorem dX11_count_141 : decode cX11_count 141 = .ok (.ifCond .eq 17, 3) := by decide +kernel
theorem dX11_count_144 : decode cX11_count 144 = .ok (.aload_n 0, 1) := by decide +kernel
theorem dX11_count_145 : decode cX11_count 145 = .ok (.getfield 48, 3) := by decide +kernel
theorem dX11_count_148 : decode cX11_count 148 = .ok (.iload_n 1, 1) := by decide +kernel
theorem dX11_count_149 : decode cX11_count 149 = .ok (.bipush 10, 2) := by decide +kernel
theorem dX11_count_151 : decode cX11_count 151 = .ok (.isub, 1) := by decide +kernel
theorem dX11_count_152 : decode cX11_count 152 = .ok (.invokevirtual 205, 3) := by decide +kernel
theorem dX11_count_155 : decode cX11_count 155 = .ok (.goto 4, 3) := by decide +kernel
theorem dX11_count_158 : decode cX11_count 158 = .ok (.iconst (-1), 1) := by decide +kernel
theorem dX11_count_159 : decode cX11_count 159 = .ok (.ireturn, 1) := by decide +kernel
theorem dX11_within_0 : decode cX11_within 0 = .ok (.iload_n 0, 1) := by decide +kernel
theorem dX11_within_1 : decode cX11_within 1 = .ok (.iload_n 1, 1) := by decide +kernel
theorem dX11_within_2 : decode cX11_within 2 = .ok (.if_icmp .lt 12, 3) := by decide +kernel
theorem dX11_within_5 : decode cX11_within 5 = .ok (.iload_n 0, 1) := by decide +kernel
theorem dX11_within_6 : decode cX11_within 6 = .ok (.iload_n 2, 1) := by decide +kernel
theorem dX11_within_7 : decode cX11_within 7 = .ok (.if_icmp .gt 7, 3) := by decide +kernel
theorem dX11_within_10 : decode cX11_within 10 = .ok (.iconst 1, 1) := by decide +kernel
theorem dX11_within_11 : decode cX11_within 11 = .ok (.goto 4, 3) := by decide +kernel
theorem dX11_within_14 : decode cX11_within 14 = .ok (.iconst 0, 1) := by decide +kernel
theorem dX11_within_15 : decode cX11_within 15 = .ok (.ireturn, 1) := by decide +kernel
theorem dX11_held_0 : decode cX11_held 0 = .ok (.iload_n 1, 1) := by decide +kernel
theorem dX11_held_1 : decode cX11_held 1 = .ok (.iload_n 2, 1) := by decide +kernel
theorem dX11_held_2 : decode cX11_held 2 = .ok (.iload_n 0, 1) := by decide +kernel
theorem dX11_held_3 : decode cX11_held 3 = .ok (.invokestatic 402, 3) := by decide +kernel
theorem dX11_held_6 : decode cX11_held 6 = .ok (.invokestatic 407, 3) := by decide +kernel
theorem dX11_held_9 : decode cX11_held 9 = .ok (.ireturn, 1) := by decide +kernel
theorem dX11_root_0 : decode cX11_root 0 = .ok (.iconst 0, 1) := by decide +kernel
theorem dX11_root_1 : decode cX11_root 1 = .ok (.istore_n 1, 1) := by decide +kernel
theorem dX11_root_2 : decode cX11_root 2 = .ok (.sipush 16384, 3) := by decide +kernel
theorem dX11_root_5 : decode cX11_root 5 = .ok (.istore_n 2, 1) := by decide +kernel
theorem dX11_root_6 : decode cX11_root 6 = .ok (.iload_n 2, 1) := by decide +kernel
theorem dX11_root_7 : decode cX11_root 7 = .ok (.ifCond .le 23, 3) := by decide +kernel
theorem dX11_root_10 : decode cX11_root 10 = .ok (.iload_n 1, 1) := by decide +kernel
theorem dX11_root_11 : decode cX11_root 11 = .ok (.iload_n 2, 1) := by decide +kernel
theorem dX11_root_12 : decode cX11_root 12 = .ok (.iadd, 1) := by decide +kernel
theorem dX11_root_13 : decode cX11_root 13 = .ok (.istore_n 3, 1) := by decide +kernel
theorem dX11_root_14 : decode cX11_root 14 = .ok (.iload_n 3, 1) := by decide +kernel
theorem dX11_root_15 : decode cX11_root 15 = .ok (.iload_n 3, 1) := by decide +kernel
theorem dX11_root_16 : decode cX11_root 16 = .ok (.imul, 1) := by decide +kernel
theorem dX11_root_17 : decode cX11_root 17 = .ok (.iload_n 0, 1) := by decide +kernel
theorem dX11_root_18 : decode cX11_root 18 = .ok (.if_icmp .gt 5, 3) := by decide +kernel
theorem dX11_root_21 : decode cX11_root 21 = .ok (.iload_n 3, 1) := by decide +kernel
theorem dX11_root_22 : decode cX11_root 22 = .ok (.istore_n 1, 1) := by decide +kernel
theorem dX11_root_23 : decode cX11_root 23 = .ok (.iload_n 2, 1) := by decide +kernel
theorem dX11_root_24 : decode cX11_root 24 = .ok (.iconst 1, 1) := by decide +kernel
theorem dX11_root_25 : decode cX11_root 25 = .ok (.ishr, 1) := by decide +kernel
theorem dX11_root_26 : decode cX11_root 26 = .ok (.istore_n 2, 1) := by decide +kernel
theorem dX11_root_27 : decode cX11_root 27 = .ok (.goto (-21), 3) := by decide +kernel
theorem dX11_root_30 : decode cX11_root 30 = .ok (.iload_n 1, 1) := by decide +kernel
theorem dX11_root_31 : decode cX11_root 31 = .ok (.ireturn, 1) := by decide +kernel
theorem dX11_reduced_0 : decode cX11_reduced 0 = .ok (.lload_n 0, 1) := by decide +kernel
theorem dX11_reduced_1 : decode cX11_reduced 1 = .ok (.lload_n 2, 1) := by decide +kernel
theorem dX11_reduced_2 : decode cX11_reduced 2 = .ok (.invokestatic 410, 3) := by decide +kernel
theorem dX11_reduced_5 : decode cX11_reduced 5 = .ok (.lstore 5, 2) := by decide +kernel
theorem dX11_reduced_7 : decode cX11_reduced 7 = .ok (.iload 4, 2) := by decide +kernel
theorem dX11_reduced_9 : decode cX11_reduced 9 = .ok (.ifCond .eq 7, 3) := by decide +kernel
theorem dX11_reduced_12 : decode cX11_reduced 12 = .ok (.lload_n 0, 1) := by decide +kernel
theorem dX11_reduced_13 : decode cX11_reduced 13 = .ok (.goto 4, 3) := by decide +kernel
theorem dX11_reduced_16 : decode cX11_reduced 16 = .ok (.lload_n 2, 1) := by decide +kernel
theorem dX11_reduced_17 : decode cX11_reduced 17 = .ok (.lstore 7, 2) := by decide +kernel
theorem dX11_reduced_19 : decode cX11_reduced 19 = .ok (.lload 5, 2) := by decide +kernel
theorem dX11_reduced_21 : decode cX11_reduced 21 = .ok (.lconst 0, 1) := by decide +kernel
theorem dX11_reduced_22 : decode cX11_reduced 22 = .ok (.lcmp, 1) := by decide +kernel
theorem dX11_reduced_23 : decode cX11_reduced 23 = .ok (.ifCond .ne 8, 3) := by decide +kernel
theorem dX11_reduced_26 : decode cX11_reduced 26 = .ok (.lload 7, 2) := by decide +kernel
theorem dX11_reduced_28 : decode cX11_reduced 28 = .ok (.goto 8, 3) := by decide +kernel
theorem dX11_reduced_31 : decode cX11_reduced 31 = .ok (.lload 7, 2) := by decide +kernel
theorem dX11_reduced_33 : decode cX11_reduced 33 = .ok (.lload 5, 2) := by decide +kernel
theorem dX11_reduced_35 : decode cX11_reduced 35 = .ok (.ldiv, 1) := by decide +kernel
theorem dX11_reduced_36 : decode cX11_reduced 36 = .ok (.lreturn, 1) := by decide +kernel
theorem dX11_commonDivisor_0 : decode cX11_commonDivisor 0 = .ok (.lload_n 0, 1) := by decide +kernel
theorem dX11_commonDivisor_1 : decode cX11_commonDivisor 1 = .ok (.lstore 4, 2) := by decide +kernel
theorem dX11_commonDivisor_3 : decode cX11_commonDivisor 3 = .ok (.lload_n 2, 1) := by decide +kernel
theorem dX11_commonDivisor_4 : decode cX11_commonDivisor 4 = .ok (.lstore 6, 2) := by decide +kernel
theorem dX11_commonDivisor_6 : decode cX11_commonDivisor 6 = .ok (.iconst 0, 1) := by decide +kernel
theorem dX11_commonDivisor_7 : decode cX11_commonDivisor 7 = .ok (.istore 8, 2) := by decide +kernel
theorem dX11_commonDivisor_9 : decode cX11_commonDivisor 9 = .ok (.iload 8, 2) := by decide +kernel
theorem dX11_commonDivisor_11 : decode cX11_commonDivisor 11 = .ok (.bipush 100, 2) := by decide +kernel
theorem dX11_commonDivisor_13 : decode cX11_commonDivisor 13 = .ok (.if_icmp .ge 31, 3) := by decide +kernel
theorem dX11_commonDivisor_16 : decode cX11_commonDivisor 16 = .ok (.lload 6, 2) := by decide +kernel
theorem dX11_commonDivisor_18 : decode cX11_commonDivisor 18 = .ok (.lconst 0, 1) := by decide +kernel
theorem dX11_commonDivisor_19 : decode cX11_commonDivisor 19 = .ok (.lcmp, 1) := by decide +kernel
theorem dX11_commonDivisor_20 : decode cX11_commonDivisor 20 = .ok (.ifCond .eq 24, 3) := by decide +kernel
theorem dX11_commonDivisor_23 : decode cX11_commonDivisor 23 = .ok (.lload 4, 2) := by decide +kernel
theorem dX11_commonDivisor_25 : decode cX11_commonDivisor 25 = .ok (.lload 6, 2) := by decide +kernel
theorem dX11_commonDivisor_27 : decode cX11_commonDivisor 27 = .ok (.lrem, 1) := by decide +kernel
theorem dX11_commonDivisor_28 : decode cX11_commonDivisor 28 = .ok (.lstore 9, 2) := by decide +kernel
theorem dX11_commonDivisor_30 : decode cX11_commonDivisor 30 = .ok (.lload 6, 2) := by decide +kernel
theorem dX11_commonDivisor_32 : decode cX11_commonDivisor 32 = .ok (.lstore 4, 2) := by decide +kernel
theorem dX11_commonDivisor_34 : decode cX11_commonDivisor 34 = .ok (.lload 9, 2) := by decide +kernel
theorem dX11_commonDivisor_36 : decode cX11_commonDivisor 36 = .ok (.lstore 6, 2) := by decide +kernel
theorem dX11_commonDivisor_38 : decode cX11_commonDivisor 38 = .ok (.iinc 8 1, 3) := by decide +kernel
theorem dX11_commonDivisor_41 : decode cX11_commonDivisor 41 = .ok (.goto (-32), 3) := by decide +kernel
theorem dX11_commonDivisor_44 : decode cX11_commonDivisor 44 = .ok (.lload 4, 2) := by decide +kernel
theorem dX11_commonDivisor_46 : decode cX11_commonDivisor 46 = .ok (.lreturn, 1) := by decide +kernel
theorem dX12_init_0 : decode cX12_init 0 = .ok (.aload_n 0, 1) := by decide +kernel
theorem dX12_init_1 : decode cX12_init 1 = .ok (.invokespecial 1, 3) := by decide +kernel
theorem dX12_init_4 : decode cX12_init 4 = .ok (.aload_n 0, 1) := by decide +kernel
theorem dX12_init_5 : decode cX12_init 5 = .ok (.sipush 220, 3) := by decide +kernel
theorem dX12_init_8 : decode cX12_init 8 = .ok (.newarray .byte, 2) := by decide +kernel
theorem dX12_init_10 : decode cX12_init 10 = .ok (.putfield 7, 3) := by decide +kernel
theorem dX12_init_13 : decode cX12_init 13 = .ok (.aload_n 0, 1) := by decide +kernel
theorem dX12_init_14 : decode cX12_init 14 = .ok (.bipush 100, 2) := by decide +kernel
theorem dX12_init_16 : decode cX12_init 16 = .ok (.putfield 13, 3) := by decide +kernel
theorem dX12_init_19 : decode cX12_init 19 = .ok (.aload_n 0, 1) := by decide +kernel
theorem dX12_init_20 : decode cX12_init 20 = .ok (.iconst 1, 1) := by decide +kernel
theorem dX12_init_21 : decode cX12_init 21 = .ok (.putfield 17, 3) := by decide +kernel
theorem dX12_init_24 : decode cX12_init 24 = .ok (.aload_n 0, 1) := by decide +kernel
theorem dX12_init_25 : decode cX12_init 25 = .ok (.iconst 3, 1) := by decide +kernel
theorem dX12_init_26 : decode cX12_init 26 = .ok (.newarray .int, 2) := by decide +kernel
theorem dX12_init_28 : decode cX12_init 28 = .ok (.putfield 20, 3) := by decide +kernel
theorem dX12_init_31 : decode cX12_init 31 = .ok (.aload_n 0, 1) := by decide +kernel
theorem dX12_init_32 : decode cX12_init 32 = .ok (.bipush 42, 2) := by decide +kernel
theorem dX12_init_34 : decode cX12_init 34 = .ok (.newarray .int, 2) := by decide +kernel
theorem dX12_init_36 : decode cX12_init 36 = .ok (.putfield 24, 3) := by decide +kernel
theorem dX12_init_39 : decode cX12_init 39 = .ok (.aload_n 0, 1) := by decide +kernel
theorem dX12_init_40 : decode cX12_init 40 = .ok (.bipush 42, 2) := by decide +kernel
theorem dX12_init_42 : decode cX12_init 42 = .ok (.newarray .int, 2) := by decide +kernel
theorem dX12_init_44 : decode cX12_init 44 = .ok (.putfield 27, 3) := by decide +kernel
theorem dX12_init_47 : decode cX12_init 47 = .ok (.aload_n 0, 1) := by decide +kernel
theorem dX12_init_48 : decode cX12_init 48 = .ok (.bipush 42, 2) := by decide +kernel
theorem dX12_init_50 : decode cX12_init 50 = .ok (.newarray .int, 2) := by decide +kernel
theorem dX12_init_52 : decode cX12_init 52 = .ok (.putfield 30, 3) := by decide +kernel
theorem dX12_init_55 : decode cX12_init 55 = .ok (.aload_n 0, 1) := by decide +kernel
theorem dX12_init_56 : decode cX12_init 56 = .ok (.bipush 42, 2) := by decide +kernel
theorem dX12_init_58 : decode cX12_init 58 = .ok (.newarray .int, 2) := by decide +kernel
theorem dX12_init_60 : decode cX12_init 60 = .ok (.putfield 33, 3) := by decide +kernel
theorem dX12_init_63 : decode cX12_init 63 = .ok (.aload_n 0, 1) := by decide +kernel
theorem dX12_init_64 : decode cX12_init 64 = .ok (.sipush 600, 3) := by decide +kernel
theorem dX12_init_67 : decode cX12_init 67 = .ok (.newarray .int, 2) := by decide +kernel
theorem dX12_init_69 : decode cX12_init 69 = .ok (.putfield 36, 3) := by decide +kernel
theorem dX12_init_72 : decode cX12_init 72 = .ok (.aload_n 0, 1) := by decide +kernel
theorem dX12_init_73 : decode cX12_init 73 = .ok (.sipush 600, 3) := by decide +kernel
theorem dX12_init_76 : decode cX12_init 76 = .ok (.newarray .int, 2) := by decide +kernel
theorem dX12_init_78 : decode cX12_init 78 = .ok (.putfield 39, 3) := by decide +kernel
theorem dX12_init_81 : decode cX12_init 81 = .ok (.aload_n 0, 1) := by decide +kernel
theorem dX12_init_82 : decode cX12_init 82 = .ok (.bipush 14, 2) := by decide +kernel
theorem dX12_init_84 : decode cX12_init 84 = .ok (.newarray .int, 2) := by decide +kernel
theorem dX12_init_86 : decode cX12_init 86 = .ok (.putfield 42, 3) := by decide +kernel
theorem dX12_init_89 : decode cX12_init 89 = .ok (.aload_n 0, 1) := by decide +kernel
theorem dX12_init_90 : decode cX12_init 90 = .ok (.bipush 14, 2) := by decide +kernel
theorem dX12_init_92 : decode cX12_init 92 = .ok (.newarray .int, 2) := by decide +kernel
theorem dX12_init_94 : decode cX12_init 94 = .ok (.putfield 45, 3) := by decide +kernel
theorem dX12_init_97 : decode cX12_init 97 = .ok (.aload_n 0, 1) := by decide +kernel
theorem dX12_init_98 : decode cX12_init 98 = .ok (.bipush 14, 2) := by decide +kernel
theorem dX12_init_100 : decode cX12_init 100 = .ok (.newarray .int, 2) := by decide +kernel
theorem dX12_init_102 : decode cX12_init 102 = .ok (.putfield 48, 3) := by decide +kernel
theorem dX12_init_105 : decode cX12_init 105 = .ok (.aload_n 0, 1) := by decide +kernel
theorem dX12_init_106 : decode cX12_init 106 = .ok (.bipush 14, 2) := by decide +kernel
theorem dX12_init_108 : decode cX12_init 108 = .ok (.newarray .int, 2) := by decide +kernel
theorem dX12_init_110 : decode cX12_init 110 = .ok (.putfield 51, 3) := by decide +kernel
theorem dX12_init_113 : decode cX12_init 113 = .ok (.aload_n 0, 1) := by decide +kernel
theorem dX12_init_114 : decode cX12_init 114 = .ok (.sipush 200, 3) := by decide +kernel
theorem dX12_init_117 : decode cX12_init 117 = .ok (.newarray .int, 2) := by decide +kernel
theorem dX12_init_119 : decode cX12_init 119 = .ok (.putfield 54, 3) := by decide +kernel
theorem dX12_init_122 : decode cX12_init 122 = .ok (.aload_n 0, 1) := by decide +kernel
theorem dX12_init_123 : decode cX12_init 123 = .ok (.sipush 200, 3) := by decide +kernel
theorem dX12_init_126 : decode cX12_init 126 = .ok (.newarray .int, 2) := by decide +kernel
theorem dX12_init_128 : decode cX12_init 128 = .ok (.putfield 57, 3) := by decide +kernel
theorem dX12_init_131 : decode cX12_init 131 = .ok (.aload_n 0, 1) := by decide +kernel
theorem dX12_init_132 : decode cX12_init 132 = .ok (.sipush 240, 3) := by decide +kernel
theorem dX12_init_135 : decode cX12_init 135 = .ok (.newarray .int, 2) := by decide +kernel
theorem dX12_init_137 : decode cX12_init 137 = .ok (.putfield 60, 3) := by decide +kernel
theorem dX12_init_140 : decode cX12_init 140 = .ok (.aload_n 0, 1) := by decide +kernel
theorem dX12_init_141 : decode cX12_init 141 = .ok (.sipush 240, 3) := by decide +kernel
theorem dX12_init_144 : decode cX12_init 144 = .ok (.newarray .int, 2) := by decide +kernel
theorem dX12_init_146 : decode cX12_init 146 = .ok (.putfield 63, 3) := by decide +kernel
theorem dX12_init_149 : decode cX12_init 149 = .ok (.aload_n 0, 1) := by decide +kernel
theorem dX12_init_150 : decode cX12_init 150 = .ok (.sipush 240, 3) := by decide +kernel
theorem dX12_init_153 : decode cX12_init 153 = .ok (.newarray .boolean, 2) := by decide +kernel
theorem dX12_init_155 : decode cX12_init 155 = .ok (.putfield 66, 3) := by decide +kernel
theorem dX12_init_158 : decode cX12_init 158 = .ok (.aload_n 0, 1) := by decide +kernel
theorem dX12_init_159 : decode cX12_init 159 = .ok (.sipush 384, 3) := by decide +kernel
theorem dX12_init_162 : decode cX12_init 162 = .ok (.newarray .int, 2) := by decide +kernel
theorem dX12_init_164 : decode cX12_init 164 = .ok (.putfield 70, 3) := by decide +kernel
theorem dX12_init_167 : decode cX12_init 167 = .ok (.aload_n 0, 1) := by decide +kernel
theorem dX12_init_168 : decode cX12_init 168 = .ok (.sipush 384, 3) := by decide +kernel
theorem dX12_init_171 : decode cX12_init 171 = .ok (.newarray .int, 2) := by decide +kernel
theorem dX12_init_173 : decode cX12_init 173 = .ok (.putfield 73, 3) := by decide +kernel
theorem dX12_init_176 : decode cX12_init 176 = .ok (.aload_n 0, 1) := by decide +kernel
theorem dX12_init_177 : decode cX12_init 177 = .ok (.sipush 384, 3) := by decide +kernel
theorem dX12_init_180 : decode cX12_init 180 = .ok (.newarray .boolean, 2) := by decide +kernel
theorem dX12_init_182 : decode cX12_init 182 = .ok (.putfield 76, 3) := by decide +kernel
theorem dX12_init_185 : decode cX12_init 185 = .ok (.aload_n 0, 1) := by decide +kernel
theorem dX12_init_186 : decode cX12_init 186 = .ok (.sipush 384, 3) := by decide +kernel
theorem dX12_init_189 : decode cX12_init 189 = .ok (.newarray .int, 2) := by decide +kernel
theorem dX12_init_191 : decode cX12_init 191 = .ok (.putfield 79, 3) := by decide +kernel
theorem dX12_init_194 : decode cX12_init 194 = .ok (.aload_n 0, 1) := by decide +kernel
theorem dX12_init_195 : decode cX12_init 195 = .ok (.bipush 24, 2) := by decide +kernel
theorem dX12_init_197 : decode cX12_init 197 = .ok (.newarray .int, 2) := by decide +kernel
theorem dX12_init_199 : decode cX12_init 199 = .ok (.putfield 82, 3) := by decide +kernel
theorem dX12_init_202 : decode cX12_init 202 = .ok (.aload_n 0, 1) := by decide +kernel
theorem dX12_init_203 : decode cX12_init 203 = .ok (.sipush 1536, 3) := by decide +kernel
theorem dX12_init_206 : decode cX12_init 206 = .ok (.newarray .boolean, 2) := by decide +kernel
theorem dX12_init_208 : decode cX12_init 208 = .ok (.putfield 85, 3) := by decide +kernel
theorem dX12_init_211 : decode cX12_init 211 = .ok (.aload_n 0, 1) := by decide +kernel
theorem dX12_init_212 : decode cX12_init 212 = .ok (.sipush 1536, 3) := by decide +kernel
theorem dX12_init_215 : decode cX12_init 215 = .ok (.newarray .int, 2) := by decide +kernel
theorem dX12_init_217 : decode cX12_init 217 = .ok (.putfield 88, 3) := by decide +kernel
theorem dX12_init_220 : decode cX12_init 220 = .ok (.aload_n 0, 1) := by decide +kernel
theorem dX12_init_221 : decode cX12_init 221 = .ok (.sipush 1536, 3) := by decide +kernel
theorem dX12_init_224 : decode cX12_init 224 = .ok (.newarray .int, 2) := by decide +kernel
theorem dX12_init_226 : decode cX12_init 226 = .ok (.putfield 91, 3) := by decide +kernel
theorem dX12_init_229 : decode cX12_init 229 = .ok (.aload_n 0, 1) := by decide +kernel
theorem dX12_init_230 : decode cX12_init 230 = .ok (.sipush 384, 3) := by decide +kernel
theorem dX12_init_233 : decode cX12_init 233 = .ok (.newarray .int, 2) := by decide +kernel
theorem dX12_init_235 : decode cX12_init 235 = .ok (.putfield 94, 3) := by decide +kernel
theorem dX12_init_238 : decode cX12_init 238 = .ok (.aload_n 0, 1) := by decide +kernel
theorem dX12_init_239 : decode cX12_init 239 = .ok (.bipush 24, 2) := by decide +kernel
theorem dX12_init_241 : decode cX12_init 241 = .ok (.newarray .int, 2) := by decide +kernel
theorem dX12_init_243 : decode cX12_init 243 = .ok (.putfield 97, 3) := by decide +kernel
theorem dX12_init_246 : decode cX12_init 246 = .ok (.aload_n 0, 1) := by decide +kernel
theorem dX12_init_247 : decode cX12_init 247 = .ok (.bipush 24, 2) := by decide +kernel
theorem dX12_init_249 : decode cX12_init 249 = .ok (.newarray .int, 2) := by decide +kernel
theorem dX12_init_251 : decode cX12_init 251 = .ok (.putfield 100, 3) := by decide +kernel
theorem dX12_init_254 : decode cX12_init 254 = .ok (.aload_n 0, 1) := by decide +kernel
theorem dX12_init_255 : decode cX12_init 255 = .ok (.bipush 24, 2) := by decide +kernel
theorem dX12_init_257 : decode cX12_init 257 = .ok (.newarray .int, 2) := by decide +kernel
theorem dX12_init_259 : decode cX12_init 259 = .ok (.putfield 103, 3) := by decide +kernel
theorem dX12_init_262 : decode cX12_init 262 = .ok (.aload_n 0, 1) := by decide +kernel
theorem dX12_init_263 : decode cX12_init 263 = .ok (.bipush 24, 2) := by decide +kernel
theorem dX12_init_265 : decode cX12_init 265 = .ok (.newarray .int, 2) := by decide +kernel
theorem dX12_init_267 : decode cX12_init 267 = .ok (.putfield 106, 3) := by decide +kernel
theorem dX12_init_270 : decode cX12_init 270 = .ok (.aload_n 0, 1) := by decide +kernel
theorem dX12_init_271 : decode cX12_init 271 = .ok (.bipush 24, 2) := by decide +kernel
theorem dX12_init_273 : decode cX12_init 273 = .ok (.newarray .boolean, 2) := by decide +kernel
theorem dX12_init_275 : decode cX12_init 275 = .ok (.putfield 109, 3) := by decide +kernel
theorem dX12_init_278 : decode cX12_init 278 = .ok (.aload_n 0, 1) := by decide +kernel
theorem dX12_init_279 : decode cX12_init 279 = .ok (.bipush 8, 2) := by decide +kernel
theorem dX12_init_281 : decode cX12_init 281 = .ok (.newarray .int, 2) := by decide +kernel
theorem dX12_init_283 : decode cX12_init 283 = .ok (.putfield 112, 3) := by decide +kernel
theorem dX12_init_286 : decode cX12_init 286 = .ok (.aload_n 0, 1) := by decide +kernel
theorem dX12_init_287 : decode cX12_init 287 = .ok (.bipush 8, 2) := by decide +kernel
theorem dX12_init_289 : decode cX12_init 289 = .ok (.newarray .boolean, 2) := by decide +kernel
theorem dX12_init_291 : decode cX12_init 291 = .ok (.putfield 115, 3) := by decide +kernel
theorem dX12_init_294 : decode cX12_init 294 = .ok (.aload_n 0, 1) := by decide +kernel
theorem dX12_init_295 : decode cX12_init 295 = .ok (.bipush 8, 2) := by decide +kernel
theorem dX12_init_297 : decode cX12_init 297 = .ok (.newarray .boolean, 2) := by decide +kernel
theorem dX12_init_299 : decode cX12_init 299 = .ok (.putfield 118, 3) := by decide +kernel
theorem dX12_init_302 : decode cX12_init 302 = .ok (.aload_n 0, 1) := by decide +kernel
theorem dX12_init_303 : decode cX12_init 303 = .ok (.sipush 192, 3) := by decide +kernel
theorem dX12_init_306 : decode cX12_init 306 = .ok (.newarray .int, 2) := by decide +kernel
theorem dX12_init_308 : decode cX12_init 308 = .ok (.putfield 121, 3) := by decide +kernel
theorem dX12_init_311 : decode cX12_init 311 = .ok (.aload_n 0, 1) := by decide +kernel
theorem dX12_init_312 : decode cX12_init 312 = .ok (.bipush 8, 2) := by decide +kernel
