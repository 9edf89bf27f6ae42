theorem dX12_body_180 : decode cX12_body 180 = .ok (.iconst 1, 1) := by decide +kernel
theorem dX12_body_181 : decode cX12_body 181 = .ok (.iadd, 1) := by decide +kernel
theorem dX12_body_182 : decode cX12_body 182 = .ok (.bipush 6, 2) := by decide +kernel
theorem dX12_body_184 : decode cX12_body 184 = .ok (.iload_n 2, 1) := by decide +kernel
theorem dX12_body_185 : decode cX12_body 185 = .ok (.isub, 1) := by decide +kernel
theorem dX12_body_186 : decode cX12_body 186 = .ok (.iconst 1, 1) := by decide +kernel
theorem dX12_body_187 : decode cX12_body 187 = .ok (.iadd, 1) := by decide +kernel
theorem dX12_body_188 : decode cX12_body 188 = .ok (.imul, 1) := by decide +kernel
theorem dX12_body_189 : decode cX12_body 189 = .ok (.ireturn, 1) := by decide +kernel
theorem dX12_story_0 : decode cX12_story 0 = .ok (.iload_n 1, 1) := by decide +kernel
theorem dX12_story_1 : decode cX12_story 1 = .ok (.i2l, 1) := by decide +kernel
theorem dX12_story_2 : decode cX12_story 2 = .ok (.lconst 0, 1) := by decide +kernel
theorem dX12_story_3 : decode cX12_story 3 = .ok (.ldc2_w 542, 3) := by decide +kernel
theorem dX12_story_6 : decode cX12_story 6 = .ok (.invokestatic 155, 3) := by decide +kernel
theorem dX12_story_9 : decode cX12_story 9 = .ok (.ifCond .eq 27, 3) := by decide +kernel
theorem dX12_story_12 : decode cX12_story 12 = .ok (.iload_n 2, 1) := by decide +kernel
theorem dX12_story_13 : decode cX12_story 13 = .ok (.i2l, 1) := by decide +kernel
theorem dX12_story_14 : decode cX12_story 14 = .ok (.lconst 0, 1) := by decide +kernel
theorem dX12_story_15 : decode cX12_story 15 = .ok (.ldc2_w 542, 3) := by decide +kernel
theorem dX12_story_18 : decode cX12_story 18 = .ok (.invokestatic 155, 3) := by decide +kernel
theorem dX12_story_21 : decode cX12_story 21 = .ok (.ifCond .eq 15, 3) := by decide +kernel
theorem dX12_story_24 : decode cX12_story 24 = .ok (.iload_n 3, 1) := by decide +kernel
theorem dX12_story_25 : decode cX12_story 25 = .ok (.i2l, 1) := by decide +kernel
theorem dX12_story_26 : decode cX12_story 26 = .ok (.lconst 0, 1) := by decide +kernel
theorem dX12_story_27 : decode cX12_story 27 = .ok (.ldc2_w 153, 3) := by decide +kernel
theorem dX12_story_30 : decode cX12_story 30 = .ok (.invokestatic 155, 3) := by decide +kernel
theorem dX12_story_33 : decode cX12_story 33 = .ok (.ifCond .ne 5, 3) := by decide +kernel
theorem dX12_story_36 : decode cX12_story 36 = .ok (.iconst 0, 1) := by decide +kernel
theorem dX12_story_37 : decode cX12_story 37 = .ok (.ireturn, 1) := by decide +kernel
theorem dX12_story_38 : decode cX12_story 38 = .ok (.aload_n 0, 1) := by decide +kernel
theorem dX12_story_39 : decode cX12_story 39 = .ok (.getfield 141, 3) := by decide +kernel
theorem dX12_story_42 : decode cX12_story 42 = .ok (.bipush 6, 2) := by decide +kernel
theorem dX12_story_44 : decode cX12_story 44 = .ok (.iload_n 1, 1) := by decide +kernel
theorem dX12_story_45 : decode cX12_story 45 = .ok (.imul, 1) := by decide +kernel
theorem dX12_story_46 : decode cX12_story 46 = .ok (.iload_n 2, 1) := by decide +kernel
theorem dX12_story_47 : decode cX12_story 47 = .ok (.iadd, 1) := by decide +kernel
theorem dX12_story_48 : decode cX12_story 48 = .ok (.iload_n 3, 1) := by decide +kernel
theorem dX12_story_49 : decode cX12_story 49 = .ok (.iastore, 1) := by decide +kernel
theorem dX12_story_50 : decode cX12_story 50 = .ok (.aload_n 0, 1) := by decide +kernel
theorem dX12_story_51 : decode cX12_story 51 = .ok (.getfield 144, 3) := by decide +kernel
theorem dX12_story_54 : decode cX12_story 54 = .ok (.iload_n 1, 1) := by decide +kernel
theorem dX12_story_55 : decode cX12_story 55 = .ok (.iconst 1, 1) := by decide +kernel
theorem dX12_story_56 : decode cX12_story 56 = .ok (.bastore, 1) := by decide +kernel
theorem dX12_story_57 : decode cX12_story 57 = .ok (.iconst 1, 1) := by decide +kernel
theorem dX12_story_58 : decode cX12_story 58 = .ok (.ireturn, 1) := by decide +kernel
theorem dX12_sign_0 : decode cX12_sign 0 = .ok (.iload_n 1, 1) := by decide +kernel
theorem dX12_sign_1 : decode cX12_sign 1 = .ok (.i2l, 1) := by decide +kernel
theorem dX12_sign_2 : decode cX12_sign 2 = .ok (.lconst 0, 1) := by decide +kernel
theorem dX12_sign_3 : decode cX12_sign 3 = .ok (.ldc2_w 542, 3) := by decide +kernel
theorem dX12_sign_6 : decode cX12_sign 6 = .ok (.invokestatic 155, 3) := by decide +kernel
theorem dX12_sign_9 : decode cX12_sign 9 = .ok (.ifCond .eq 15, 3) := by decide +kernel
theorem dX12_sign_12 : decode cX12_sign 12 = .ok (.iload_n 2, 1) := by decide +kernel
theorem dX12_sign_13 : decode cX12_sign 13 = .ok (.i2l, 1) := by decide +kernel
theorem dX12_sign_14 : decode cX12_sign 14 = .ok (.ldc2_w 492, 3) := by decide +kernel
theorem dX12_sign_17 : decode cX12_sign 17 = .ok (.lconst 1, 1) := by decide +kernel
theorem dX12_sign_18 : decode cX12_sign 18 = .ok (.invokestatic 155, 3) := by decide +kernel
theorem dX12_sign_21 : decode cX12_sign 21 = .ok (.ifCond .ne 5, 3) := by decide +kernel
theorem dX12_sign_24 : decode cX12_sign 24 = .ok (.iconst 0, 1) := by decide +kernel
theorem dX12_sign_25 : decode cX12_sign 25 = .ok (.ireturn, 1) := by decide +kernel
theorem dX12_sign_26 : decode cX12_sign 26 = .ok (.aload_n 0, 1) := by decide +kernel
theorem dX12_sign_27 : decode cX12_sign 27 = .ok (.getfield 147, 3) := by decide +kernel
theorem dX12_sign_30 : decode cX12_sign 30 = .ok (.iload_n 1, 1) := by decide +kernel
theorem dX12_sign_31 : decode cX12_sign 31 = .ok (.iload_n 2, 1) := by decide +kernel
theorem dX12_sign_32 : decode cX12_sign 32 = .ok (.iastore, 1) := by decide +kernel
theorem dX12_sign_33 : decode cX12_sign 33 = .ok (.iconst 1, 1) := by decide +kernel
theorem dX12_sign_34 : decode cX12_sign 34 = .ok (.ireturn, 1) := by decide +kernel
theorem dX12_oddsOf_0 : decode cX12_oddsOf 0 = .ok (.lconst 1, 1) := by decide +kernel
theorem dX12_oddsOf_1 : decode cX12_oddsOf 1 = .ok (.lstore_n 2, 1) := by decide +kernel
theorem dX12_oddsOf_2 : decode cX12_oddsOf 2 = .ok (.iconst 0, 1) := by decide +kernel
theorem dX12_oddsOf_3 : decode cX12_oddsOf 3 = .ok (.istore 4, 2) := by decide +kernel
theorem dX12_oddsOf_5 : decode cX12_oddsOf 5 = .ok (.iload 4, 2) := by decide +kernel
theorem dX12_oddsOf_7 : decode cX12_oddsOf 7 = .ok (.bipush 6, 2) := by decide +kernel
theorem dX12_oddsOf_9 : decode cX12_oddsOf 9 = .ok (.if_icmp .ge 67, 3) := by decide +kernel
theorem dX12_oddsOf_12 : decode cX12_oddsOf 12 = .ok (.aload_n 0, 1) := by decide +kernel
theorem dX12_oddsOf_13 : decode cX12_oddsOf 13 = .ok (.getfield 147, 3) := by decide +kernel
theorem dX12_oddsOf_16 : decode cX12_oddsOf 16 = .ok (.iload 4, 2) := by decide +kernel
theorem dX12_oddsOf_18 : decode cX12_oddsOf 18 = .ok (.iaload, 1) := by decide +kernel
theorem dX12_oddsOf_19 : decode cX12_oddsOf 19 = .ok (.iconst (-1), 1) := by decide +kernel
theorem dX12_oddsOf_20 : decode cX12_oddsOf 20 = .ok (.if_icmp .eq 50, 3) := by decide +kernel
theorem dX12_oddsOf_23 : decode cX12_oddsOf 23 = .ok (.lload_n 2, 1) := by decide +kernel
theorem dX12_oddsOf_24 : decode cX12_oddsOf 24 = .ok (.aload_n 0, 1) := by decide +kernel
theorem dX12_oddsOf_25 : decode cX12_oddsOf 25 = .ok (.getfield 147, 3) := by decide +kernel
theorem dX12_oddsOf_28 : decode cX12_oddsOf 28 = .ok (.iload 4, 2) := by decide +kernel
theorem dX12_oddsOf_30 : decode cX12_oddsOf 30 = .ok (.iaload, 1) := by decide +kernel
theorem dX12_oddsOf_31 : decode cX12_oddsOf 31 = .ok (.iconst 1, 1) := by decide +kernel
theorem dX12_oddsOf_32 : decode cX12_oddsOf 32 = .ok (.if_icmp .ne 19, 3) := by decide +kernel
theorem dX12_oddsOf_35 : decode cX12_oddsOf 35 = .ok (.aload_n 0, 1) := by decide +kernel
theorem dX12_oddsOf_36 : decode cX12_oddsOf 36 = .ok (.getfield 141, 3) := by decide +kernel
theorem dX12_oddsOf_39 : decode cX12_oddsOf 39 = .ok (.bipush 6, 2) := by decide +kernel
theorem dX12_oddsOf_41 : decode cX12_oddsOf 41 = .ok (.iload_n 1, 1) := by decide +kernel
theorem dX12_oddsOf_42 : decode cX12_oddsOf 42 = .ok (.imul, 1) := by decide +kernel
theorem dX12_oddsOf_43 : decode cX12_oddsOf 43 = .ok (.iload 4, 2) := by decide +kernel
theorem dX12_oddsOf_45 : decode cX12_oddsOf 45 = .ok (.iadd, 1) := by decide +kernel
theorem dX12_oddsOf_46 : decode cX12_oddsOf 46 = .ok (.iaload, 1) := by decide +kernel
theorem dX12_oddsOf_47 : decode cX12_oddsOf 47 = .ok (.i2l, 1) := by decide +kernel
theorem dX12_oddsOf_48 : decode cX12_oddsOf 48 = .ok (.goto 20, 3) := by decide +kernel
theorem dX12_oddsOf_51 : decode cX12_oddsOf 51 = .ok (.sipush 1000, 3) := by decide +kernel
theorem dX12_oddsOf_54 : decode cX12_oddsOf 54 = .ok (.aload_n 0, 1) := by decide +kernel
theorem dX12_oddsOf_55 : decode cX12_oddsOf 55 = .ok (.getfield 141, 3) := by decide +kernel
theorem dX12_oddsOf_58 : decode cX12_oddsOf 58 = .ok (.bipush 6, 2) := by decide +kernel
theorem dX12_oddsOf_60 : decode cX12_oddsOf 60 = .ok (.iload_n 1, 1) := by decide +kernel
theorem dX12_oddsOf_61 : decode cX12_oddsOf 61 = .ok (.imul, 1) := by decide +kernel
theorem dX12_oddsOf_62 : decode cX12_oddsOf 62 = .ok (.iload 4, 2) := by decide +kernel
theorem dX12_oddsOf_64 : decode cX12_oddsOf 64 = .ok (.iadd, 1) := by decide +kernel
theorem dX12_oddsOf_65 : decode cX12_oddsOf 65 = .ok (.iaload, 1) := by decide +kernel
theorem dX12_oddsOf_66 : decode cX12_oddsOf 66 = .ok (.isub, 1) := by decide +kernel
theorem dX12_oddsOf_67 : decode cX12_oddsOf 67 = .ok (.i2l, 1) := by decide +kernel
theorem dX12_oddsOf_68 : decode cX12_oddsOf 68 = .ok (.lmul, 1) := by decide +kernel
theorem dX12_oddsOf_69 : decode cX12_oddsOf 69 = .ok (.lstore_n 2, 1) := by decide +kernel
theorem dX12_oddsOf_70 : decode cX12_oddsOf 70 = .ok (.iinc 4 1, 3) := by decide +kernel
theorem dX12_oddsOf_73 : decode cX12_oddsOf 73 = .ok (.goto (-68), 3) := by decide +kernel
theorem dX12_oddsOf_76 : decode cX12_oddsOf 76 = .ok (.lload_n 2, 1) := by decide +kernel
theorem dX12_oddsOf_77 : decode cX12_oddsOf 77 = .ok (.lreturn, 1) := by decide +kernel
theorem dX12_storiesTold_0 : decode cX12_storiesTold 0 = .ok (.iconst 0, 1) := by decide +kernel
theorem dX12_storiesTold_1 : decode cX12_storiesTold 1 = .ok (.istore_n 1, 1) := by decide +kernel
theorem dX12_storiesTold_2 : decode cX12_storiesTold 2 = .ok (.iconst 0, 1) := by decide +kernel
theorem dX12_storiesTold_3 : decode cX12_storiesTold 3 = .ok (.istore_n 2, 1) := by decide +kernel
theorem dX12_storiesTold_4 : decode cX12_storiesTold 4 = .ok (.iload_n 2, 1) := by decide +kernel
theorem dX12_storiesTold_5 : decode cX12_storiesTold 5 = .ok (.bipush 6, 2) := by decide +kernel
theorem dX12_storiesTold_7 : decode cX12_storiesTold 7 = .ok (.if_icmp .ge 26, 3) := by decide +kernel
theorem dX12_storiesTold_10 : decode cX12_storiesTold 10 = .ok (.iload_n 1, 1) := by decide +kernel
theorem dX12_storiesTold_11 : decode cX12_storiesTold 11 = .ok (.aload_n 0, 1) := by decide +kernel
theorem dX12_storiesTold_12 : decode cX12_storiesTold 12 = .ok (.getfield 144, 3) := by decide +kernel
theorem dX12_storiesTold_15 : decode cX12_storiesTold 15 = .ok (.iload_n 2, 1) := by decide +kernel
theorem dX12_storiesTold_16 : decode cX12_storiesTold 16 = .ok (.baload, 1) := by decide +kernel
theorem dX12_storiesTold_17 : decode cX12_storiesTold 17 = .ok (.ifCond .eq 7, 3) := by decide +kernel
theorem dX12_storiesTold_20 : decode cX12_storiesTold 20 = .ok (.iconst 1, 1) := by decide +kernel
theorem dX12_storiesTold_21 : decode cX12_storiesTold 21 = .ok (.goto 4, 3) := by decide +kernel
theorem dX12_storiesTold_24 : decode cX12_storiesTold 24 = .ok (.iconst 0, 1) := by decide +kernel
theorem dX12_storiesTold_25 : decode cX12_storiesTold 25 = .ok (.iadd, 1) := by decide +kernel
theorem dX12_storiesTold_26 : decode cX12_storiesTold 26 = .ok (.istore_n 1, 1) := by decide +kernel
theorem dX12_storiesTold_27 : decode cX12_storiesTold 27 = .ok (.iinc 2 1, 3) := by decide +kernel
theorem dX12_storiesTold_30 : decode cX12_storiesTold 30 = .ok (.goto (-26), 3) := by decide +kernel
theorem dX12_storiesTold_33 : decode cX12_storiesTold 33 = .ok (.iload_n 1, 1) := by decide +kernel
theorem dX12_storiesTold_34 : decode cX12_storiesTold 34 = .ok (.ireturn, 1) := by decide +kernel
theorem dX12_odds_0 : decode cX12_odds 0 = .ok (.iload_n 1, 1) := by decide +kernel
theorem dX12_odds_1 : decode cX12_odds 1 = .ok (.iconst (-1), 1) := by decide +kernel
theorem dX12_odds_2 : decode cX12_odds 2 = .ok (.if_icmp .eq 36, 3) := by decide +kernel
theorem dX12_odds_5 : decode cX12_odds 5 = .ok (.iload_n 1, 1) := by decide +kernel
theorem dX12_odds_6 : decode cX12_odds 6 = .ok (.i2l, 1) := by decide +kernel
theorem dX12_odds_7 : decode cX12_odds 7 = .ok (.lconst 0, 1) := by decide +kernel
theorem dX12_odds_8 : decode cX12_odds 8 = .ok (.ldc2_w 542, 3) := by decide +kernel
theorem dX12_odds_11 : decode cX12_odds 11 = .ok (.invokestatic 155, 3) := by decide +kernel
theorem dX12_odds_14 : decode cX12_odds 14 = .ok (.ifCond .eq 20, 3) := by decide +kernel
theorem dX12_odds_17 : decode cX12_odds 17 = .ok (.aload_n 0, 1) := by decide +kernel
theorem dX12_odds_18 : decode cX12_odds 18 = .ok (.getfield 144, 3) := by decide +kernel
theorem dX12_odds_21 : decode cX12_odds 21 = .ok (.iload_n 1, 1) := by decide +kernel
theorem dX12_odds_22 : decode cX12_odds 22 = .ok (.baload, 1) := by decide +kernel
theorem dX12_odds_23 : decode cX12_odds 23 = .ok (.ifCond .eq 11, 3) := by decide +kernel
theorem dX12_odds_26 : decode cX12_odds 26 = .ok (.aload_n 0, 1) := by decide +kernel
theorem dX12_odds_27 : decode cX12_odds 27 = .ok (.iload_n 1, 1) := by decide +kernel
theorem dX12_odds_28 : decode cX12_odds 28 = .ok (.invokevirtual 553, 3) := by decide +kernel
theorem dX12_odds_31 : decode cX12_odds 31 = .ok (.goto 6, 3) := by decide +kernel
theorem dX12_odds_34 : decode cX12_odds 34 = .ok (.ldc2_w 492, 3) := by decide +kernel
theorem dX12_odds_37 : decode cX12_odds 37 = .ok (.lreturn, 1) := by decide +kernel
theorem dX12_odds_38 : decode cX12_odds 38 = .ok (.lconst 0, 1) := by decide +kernel
theorem dX12_odds_39 : decode cX12_odds 39 = .ok (.lstore_n 2, 1) := by decide +kernel
theorem dX12_odds_40 : decode cX12_odds 40 = .ok (.iconst 0, 1) := by decide +kernel
theorem dX12_odds_41 : decode cX12_odds 41 = .ok (.istore 4, 2) := by decide +kernel
theorem dX12_odds_43 : decode cX12_odds 43 = .ok (.iload 4, 2) := by decide +kernel
theorem dX12_odds_45 : decode cX12_odds 45 = .ok (.bipush 6, 2) := by decide +kernel
theorem dX12_odds_47 : decode cX12_odds 47 = .ok (.if_icmp .ge 32, 3) := by decide +kernel
theorem dX12_odds_50 : decode cX12_odds 50 = .ok (.lload_n 2, 1) := by decide +kernel
theorem dX12_odds_51 : decode cX12_odds 51 = .ok (.aload_n 0, 1) := by decide +kernel
theorem dX12_odds_52 : decode cX12_odds 52 = .ok (.getfield 144, 3) := by decide +kernel
theorem dX12_odds_55 : decode cX12_odds 55 = .ok (.iload 4, 2) := by decide +kernel
theorem dX12_odds_57 : decode cX12_odds 57 = .ok (.baload, 1) := by decide +kernel
theorem dX12_odds_58 : decode cX12_odds 58 = .ok (.ifCond .eq 12, 3) := by decide +kernel
theorem dX12_odds_61 : decode cX12_odds 61 = .ok (.aload_n 0, 1) := by decide +kernel
theorem dX12_odds_62 : decode cX12_odds 62 = .ok (.iload 4, 2) := by decide +kernel
theorem dX12_odds_64 : decode cX12_odds 64 = .ok (.invokevirtual 553, 3) := by decide +kernel
theorem dX12_odds_67 : decode cX12_odds 67 = .ok (.goto 4, 3) := by decide +kernel
theorem dX12_odds_70 : decode cX12_odds 70 = .ok (.lconst 0, 1) := by decide +kernel
theorem dX12_odds_71 : decode cX12_odds 71 = .ok (.ladd, 1) := by decide +kernel
theorem dX12_odds_72 : decode cX12_odds 72 = .ok (.lstore_n 2, 1) := by decide +kernel
theorem dX12_odds_73 : decode cX12_odds 73 = .ok (.iinc 4 1, 3) := by decide +kernel
theorem dX12_odds_76 : decode cX12_odds 76 = .ok (.goto (-33), 3) := by decide +kernel
theorem dX12_odds_79 : decode cX12_odds 79 = .ok (.lload_n 2, 1) := by decide +kernel
theorem dX12_odds_80 : decode cX12_odds 80 = .ok (.lreturn, 1) := by decide +kernel
theorem dX12_canBe_0 : decode cX12_canBe 0 = .ok (.aload_n 0, 1) := by decide +kernel
theorem dX12_canBe_1 : decode cX12_canBe 1 = .ok (.getfield 144, 3) := by decide +kernel
theorem dX12_canBe_4 : decode cX12_canBe 4 = .ok (.iload_n 1, 1) := by decide +kernel
theorem dX12_canBe_5 : decode cX12_canBe 5 = .ok (.baload, 1) := by decide +kernel
theorem dX12_canBe_6 : decode cX12_canBe 6 = .ok (.ifCond .eq 17, 3) := by decide +kernel
theorem dX12_canBe_9 : decode cX12_canBe 9 = .ok (.aload_n 0, 1) := by decide +kernel
theorem dX12_canBe_10 : decode cX12_canBe 10 = .ok (.iload_n 1, 1) := by decide +kernel
theorem dX12_canBe_11 : decode cX12_canBe 11 = .ok (.invokevirtual 553, 3) := by decide +kernel
theorem dX12_canBe_14 : decode cX12_canBe 14 = .ok (.lconst 0, 1) := by decide +kernel
theorem dX12_canBe_15 : decode cX12_canBe 15 = .ok (.lcmp, 1) := by decide +kernel
theorem dX12_canBe_16 : decode cX12_canBe 16 = .ok (.ifCond .eq 7, 3) := by decide +kernel
theorem dX12_canBe_19 : decode cX12_canBe 19 = .ok (.iconst 1, 1) := by decide +kernel
theorem dX12_canBe_20 : decode cX12_canBe 20 = .ok (.goto 4, 3) := by decide +kernel
theorem dX12_canBe_23 : decode cX12_canBe 23 = .ok (.iconst 0, 1) := by decide +kernel
theorem dX12_canBe_24 : decode cX12_canBe 24 = .ok (.ireturn, 1) := by decide +kernel
theorem dX12_next_0 : decode cX12_next 0 = .ok (.iload_n 1, 1) := by decide +kernel
theorem dX12_next_1 : decode cX12_next 1 = .ok (.i2l, 1) := by decide +kernel
theorem dX12_next_2 : decode cX12_next 2 = .ok (.lconst 0, 1) := by decide +kernel
theorem dX12_next_3 : decode cX12_next 3 = .ok (.lconst 1, 1) := by decide +kernel
theorem dX12_next_4 : decode cX12_next 4 = .ok (.invokestatic 155, 3) := by decide +kernel
theorem dX12_next_7 : decode cX12_next 7 = .ok (.ifCond .eq 10, 3) := by decide +kernel
theorem dX12_next_10 : decode cX12_next 10 = .ok (.aload_n 0, 1) := by decide +kernel
theorem dX12_next_11 : decode cX12_next 11 = .ok (.invokevirtual 557, 3) := by decide +kernel
theorem dX12_next_14 : decode cX12_next 14 = .ok (.ifCond .ne 5, 3) := by decide +kernel
theorem dX12_next_17 : decode cX12_next 17 = .ok (.iconst (-1), 1) := by decide +kernel
theorem dX12_next_18 : decode cX12_next 18 = .ok (.ireturn, 1) := by decide +kernel
theorem dX12_next_19 : decode cX12_next 19 = .ok (.iconst (-1), 1) := by decide +kernel
theorem dX12_next_20 : decode cX12_next 20 = .ok (.istore_n 2, 1) := by decide +kernel
theorem dX12_next_21 : decode cX12_next 21 = .ok (.iconst 0, 1) := by decide +kernel
theorem dX12_next_22 : decode cX12_next 22 = .ok (.istore_n 3, 1) := by decide +kernel
theorem dX12_next_23 : decode cX12_next 23 = .ok (.iconst 0, 1) := by decide +kernel
theorem dX12_next_24 : decode cX12_next 24 = .ok (.istore 4, 2) := by decide +kernel
theorem dX12_next_26 : decode cX12_next 26 = .ok (.iload 4, 2) := by decide +kernel
theorem dX12_next_28 : decode cX12_next 28 = .ok (.bipush 6, 2) := by decide +kernel
theorem dX12_next_30 : decode cX12_next 30 = .ok (.if_icmp .ge 135, 3) := by decide +kernel
theorem dX12_next_33 : decode cX12_next 33 = .ok (.aload_n 0, 1) := by decide +kernel
theorem dX12_next_34 : decode cX12_next 34 = .ok (.getfield 147, 3) := by decide +kernel
theorem dX12_next_37 : decode cX12_next 37 = .ok (.iload 4, 2) := by decide +kernel
theorem dX12_next_39 : decode cX12_next 39 = .ok (.iaload, 1) := by decide +kernel
theorem dX12_next_40 : decode cX12_next 40 = .ok (.iconst (-1), 1) := by decide +kernel
theorem dX12_next_41 : decode cX12_next 41 = .ok (.if_icmp .eq 6, 3) := by decide +kernel
theorem dX12_next_44 : decode cX12_next 44 = .ok (.goto 115, 3) := by decide +kernel
theorem dX12_next_47 : decode cX12_next 47 = .ok (.iconst 0, 1) := by decide +kernel
theorem dX12_next_48 : decode cX12_next 48 = .ok (.istore 5, 2) := by decide +kernel
theorem dX12_next_50 : decode cX12_next 50 = .ok (.iconst 0, 1) := by decide +kernel
theorem dX12_next_51 : decode cX12_next 51 = .ok (.istore 6, 2) := by decide +kernel
theorem dX12_next_53 : decode cX12_next 53 = .ok (.iload 6, 2) := by decide +kernel
theorem dX12_next_55 : decode cX12_next 55 = .ok (.bipush 6, 2) := by decide +kernel
theorem dX12_next_57 : decode cX12_next 57 = .ok (.if_icmp .ge 82, 3) := by decide +kernel
theorem dX12_next_60 : decode cX12_next 60 = .ok (.iconst 0, 1) := by decide +kernel
theorem dX12_next_61 : decode cX12_next 61 = .ok (.istore 7, 2) := by decide +kernel
theorem dX12_next_63 : decode cX12_next 63 = .ok (.iload 7, 2) := by decide +kernel
theorem dX12_next_65 : decode cX12_next 65 = .ok (.iload 6, 2) := by decide +kernel
theorem dX12_next_67 : decode cX12_next 67 = .ok (.if_icmp .ge 66, 3) := by decide +kernel
theorem dX12_next_70 : decode cX12_next 70 = .ok (.iload 5, 2) := by decide +kernel
theorem dX12_next_72 : decode cX12_next 72 = .ok (.aload_n 0, 1) := by decide +kernel
theorem dX12_next_73 : decode cX12_next 73 = .ok (.iload 6, 2) := by decide +kernel
theorem dX12_next_75 : decode cX12_next 75 = .ok (.invokevirtual 560, 3) := by decide +kernel
theorem dX12_next_78 : decode cX12_next 78 = .ok (.ifCond .eq 45, 3) := by decide +kernel
theorem dX12_next_81 : decode cX12_next 81 = .ok (.aload_n 0, 1) := by decide +kernel
theorem dX12_next_82 : decode cX12_next 82 = .ok (.iload 7, 2) := by decide +kernel
theorem dX12_next_84 : decode cX12_next 84 = .ok (.invokevirtual 560, 3) := by decide +kernel
theorem dX12_next_87 : decode cX12_next 87 = .ok (.ifCond .eq 36, 3) := by decide +kernel
theorem dX12_next_90 : decode cX12_next 90 = .ok (.aload_n 0, 1) := by decide +kernel
theorem dX12_next_91 : decode cX12_next 91 = .ok (.getfield 141, 3) := by decide +kernel
theorem dX12_next_94 : decode cX12_next 94 = .ok (.bipush 6, 2) := by decide +kernel
theorem dX12_next_96 : decode cX12_next 96 = .ok (.iload 6, 2) := by decide +kernel
theorem dX12_next_98 : decode cX12_next 98 = .ok (.imul, 1) := by decide +kernel
theorem dX12_next_99 : decode cX12_next 99 = .ok (.iload 4, 2) := by decide +kernel
theorem dX12_next_101 : decode cX12_next 101 = .ok (.iadd, 1) := by decide +kernel
theorem dX12_next_102 : decode cX12_next 102 = .ok (.iaload, 1) := by decide +kernel
theorem dX12_next_103 : decode cX12_next 103 = .ok (.aload_n 0, 1) := by decide +kernel
theorem dX12_next_104 : decode cX12_next 104 = .ok (.getfield 141, 3) := by decide +kernel
theorem dX12_next_107 : decode cX12_next 107 = .ok (.bipush 6, 2) := by decide +kernel
theorem dX12_next_109 : decode cX12_next 109 = .ok (.iload 7, 2) := by decide +kernel
theorem dX12_next_111 : decode cX12_next 111 = .ok (.imul, 1) := by decide +kernel
theorem dX12_next_112 : decode cX12_next 112 = .ok (.iload 4, 2) := by decide +kernel
theorem dX12_next_114 : decode cX12_next 114 = .ok (.iadd, 1) := by decide +kernel
theorem dX12_next_115 : decode cX12_next 115 = .ok (.iaload, 1) := by decide +kernel
theorem dX12_next_116 : decode cX12_next 116 = .ok (.isub, 1) := by decide +kernel
theorem dX12_next_117 : decode cX12_next 117 = .ok (.invokestatic 443, 3) := by decide +kernel
theorem dX12_next_120 : decode cX12_next 120 = .ok (.goto 4, 3) := by decide +kernel
theorem dX12_next_123 : decode cX12_next 123 = .ok (.iconst 0, 1) := by decide +kernel
theorem dX12_next_124 : decode cX12_next 124 = .ok (.iadd, 1) := by decide +kernel
theorem dX12_next_125 : decode cX12_next 125 = .ok (.istore 5, 2) := by decide +kernel
theorem dX12_next_127 : decode cX12_next 127 = .ok (.iinc 7 1, 3) := by decide +kernel
theorem dX12_next_130 : decode cX12_next 130 = .ok (.goto (-67), 3) := by decide +kernel
theorem dX12_next_133 : decode cX12_next 133 = .ok (.iinc 6 1, 3) := by decide +kernel
theorem dX12_next_136 : decode cX12_next 136 = .ok (.goto (-83), 3) := by decide +kernel
theorem dX12_next_139 : decode cX12_next 139 = .ok (.iload_n 2, 1) := by decide +kernel
theorem dX12_next_140 : decode cX12_next 140 = .ok (.iconst (-1), 1) := by decide +kernel
theorem dX12_next_141 : decode cX12_next 141 = .ok (.if_icmp .eq 12, 3) := by decide +kernel
theorem dX12_next_144 : decode cX12_next 144 = .ok (.iload 5, 2) := by decide +kernel
theorem dX12_next_146 : decode cX12_next 146 = .ok (.iload_n 3, 1) := by decide +kernel
theorem dX12_next_147 : decode cX12_next 147 = .ok (.if_icmp .gt 6, 3) := by decide +kernel
theorem dX12_next_150 : decode cX12_next 150 = .ok (.goto 9, 3) := by decide +kernel
theorem dX12_next_153 : decode cX12_next 153 = .ok (.iload 4, 2) := by decide +kernel
theorem dX12_next_155 : decode cX12_next 155 = .ok (.istore_n 2, 1) := by decide +kernel
theorem dX12_next_156 : decode cX12_next 156 = .ok (.iload 5, 2) := by decide +kernel
theorem dX12_next_158 : decode cX12_next 158 = .ok (.istore_n 3, 1) := by decide +kernel
theorem dX12_next_159 : decode cX12_next 159 = .ok (.iinc 4 1, 3) := by decide +kernel
theorem dX12_next_162 : decode cX12_next 162 = .ok (.goto (-136), 3) := by decide +kernel
theorem dX12_next_165 : decode cX12_next 165 = .ok (.iload_n 2, 1) := by decide +kernel
theorem dX12_next_166 : decode cX12_next 166 = .ok (.iconst (-1), 1) := by decide +kernel
theorem dX12_next_167 : decode cX12_next 167 = .ok (.if_icmp .eq 7, 3) := by decide +kernel
theorem dX12_next_170 : decode cX12_next 170 = .ok (.iload_n 1, 1) := by decide +kernel
theorem dX12_next_171 : decode cX12_next 171 = .ok (.ifCond .ne 7, 3) := by decide +kernel
theorem dX12_next_174 : decode cX12_next 174 = .ok (.iload_n 2, 1) := by decide +kernel
theorem dX12_next_175 : decode cX12_next 175 = .ok (.goto 4, 3) := by decide +kernel
theorem dX12_next_178 : decode cX12_next 178 = .ok (.iload_n 3, 1) := by decide +kernel
theorem dX12_next_179 : decode cX12_next 179 = .ok (.ireturn, 1) := by decide +kernel
theorem dX12_areBent_0 : decode cX12_areBent 0 = .ok (.aload_n 0, 1) := by decide +kernel
theorem dX12_areBent_1 : decode cX12_areBent 1 = .ok (.getfield 341, 3) := by decide +kernel
theorem dX12_areBent_4 : decode cX12_areBent 4 = .ok (.ifCond .le 7, 3) := by decide +kernel
theorem dX12_areBent_7 : decode cX12_areBent 7 = .ok (.iconst 1, 1) := by decide +kernel
theorem dX12_areBent_8 : decode cX12_areBent 8 = .ok (.goto 4, 3) := by decide +kernel
theorem dX12_areBent_11 : decode cX12_areBent 11 = .ok (.iconst 0, 1) := by decide +kernel
theorem dX12_areBent_12 : decode cX12_areBent 12 = .ok (.istore_n 2, 1) := by decide +kernel
theorem dX12_areBent_13 : decode cX12_areBent 13 = .ok (.iconst 0, 1) := by decide +kernel
theorem dX12_areBent_14 : decode cX12_areBent 14 = .ok (.istore_n 3, 1) := by decide +kernel
theorem dX12_areBent_15 : decode cX12_areBent 15 = .ok (.iload_n 3, 1) := by decide +kernel
theorem dX12_areBent_16 : decode cX12_areBent 16 = .ok (.aload_n 0, 1) := by decide +kernel
theorem dX12_areBent_17 : decode cX12_areBent 17 = .ok (.getfield 341, 3) := by decide +kernel
theorem dX12_areBent_20 : decode cX12_areBent 20 = .ok (.if_icmp .ge 28, 3) := by decide +kernel
theorem dX12_areBent_23 : decode cX12_areBent 23 = .ok (.aload_n 0, 1) := by decide +kernel
theorem dX12_areBent_24 : decode cX12_areBent 24 = .ok (.iload_n 3, 1) := by decide +kernel
theorem dX12_areBent_25 : decode cX12_areBent 25 = .ok (.iload_n 1, 1) := by decide +kernel
theorem dX12_areBent_26 : decode cX12_areBent 26 = .ok (.invokevirtual 511, 3) := by decide +kernel
theorem dX12_areBent_29 : decode cX12_areBent 29 = .ok (.ifCond .eq 11, 3) := by decide +kernel
theorem dX12_areBent_32 : decode cX12_areBent 32 = .ok (.iload_n 2, 1) := by decide +kernel
theorem dX12_areBent_33 : decode cX12_areBent 33 = .ok (.ifCond .eq 7, 3) := by decide +kernel
theorem dX12_areBent_36 : decode cX12_areBent 36 = .ok (.iconst 1, 1) := by decide +kernel
theorem dX12_areBent_37 : decode cX12_areBent 37 = .ok (.goto 4, 3) := by decide +kernel
theorem dX12_areBent_40 : decode cX12_areBent 40 = .ok (.iconst 0, 1) := by decide +kernel
theorem dX12_areBent_41 : decode cX12_areBent 41 = .ok (.istore_n 2, 1) := by decide +kernel
theorem dX12_areBent_42 : decode cX12_areBent 42 = .ok (.iinc 3 1, 3) := by decide +kernel
theorem dX12_areBent_45 : decode cX12_areBent 45 = .ok (.goto (-30), 3) := by decide +kernel
theorem dX12_areBent_48 : decode cX12_areBent 48 = .ok (.iload_n 2, 1) := by decide +kernel
theorem dX12_areBent_49 : decode cX12_areBent 49 = .ok (.ireturn, 1) := by decide +kernel
theorem dX12_areaOf_0 : decode cX12_areaOf 0 = .ok (.lconst 0, 1) := by decide +kernel
theorem dX12_areaOf_1 : decode cX12_areaOf 1 = .ok (.lstore 4, 2) := by decide +kernel
theorem dX12_areaOf_3 : decode cX12_areaOf 3 = .ok (.iconst 0, 1) := by decide +kernel
theorem dX12_areaOf_4 : decode cX12_areaOf 4 = .ok (.istore 6, 2) := by decide +kernel
theorem dX12_areaOf_6 : decode cX12_areaOf 6 = .ok (.iload 6, 2) := by decide +kernel
theorem dX12_areaOf_8 : decode cX12_areaOf 8 = .ok (.iload_n 3, 1) := by decide +kernel
theorem dX12_areaOf_9 : decode cX12_areaOf 9 = .ok (.if_icmp .ge 58, 3) := by decide +kernel
theorem dX12_areaOf_12 : decode cX12_areaOf 12 = .ok (.aload_n 0, 1) := by decide +kernel
theorem dX12_areaOf_13 : decode cX12_areaOf 13 = .ok (.iload 6, 2) := by decide +kernel
theorem dX12_areaOf_15 : decode cX12_areaOf 15 = .ok (.iload_n 1, 1) := by decide +kernel
theorem dX12_areaOf_16 : decode cX12_areaOf 16 = .ok (.invokevirtual 516, 3) := by decide +kernel
theorem dX12_areaOf_19 : decode cX12_areaOf 19 = .ok (.istore 7, 2) := by decide +kernel
theorem dX12_areaOf_21 : decode cX12_areaOf 21 = .ok (.aload_n 0, 1) := by decide +kernel
theorem dX12_areaOf_22 : decode cX12_areaOf 22 = .ok (.iload 6, 2) := by decide +kernel
theorem dX12_areaOf_24 : decode cX12_areaOf 24 = .ok (.iconst 1, 1) := by decide +kernel
theorem dX12_areaOf_25 : decode cX12_areaOf 25 = .ok (.iadd, 1) := by decide +kernel
theorem dX12_areaOf_26 : decode cX12_areaOf 26 = .ok (.iload_n 1, 1) := by decide +kernel
theorem dX12_areaOf_27 : decode cX12_areaOf 27 = .ok (.invokevirtual 516, 3) := by decide +kernel
theorem dX12_areaOf_30 : decode cX12_areaOf 30 = .ok (.istore 8, 2) := by decide +kernel
theorem dX12_areaOf_32 : decode cX12_areaOf 32 = .ok (.lload 4, 2) := by decide +kernel
theorem dX12_areaOf_34 : decode cX12_areaOf 34 = .ok (.iload 7, 2) := by decide +kernel
theorem dX12_areaOf_36 : decode cX12_areaOf 36 = .ok (.ifCond .le 8, 3) := by decide +kernel
theorem dX12_areaOf_39 : decode cX12_areaOf 39 = .ok (.iload 7, 2) := by decide +kernel
theorem dX12_areaOf_41 : decode cX12_areaOf 41 = .ok (.goto 4, 3) := by decide +kernel
theorem dX12_areaOf_44 : decode cX12_areaOf 44 = .ok (.iconst 0, 1) := by decide +kernel
theorem dX12_areaOf_45 : decode cX12_areaOf 45 = .ok (.iload 8, 2) := by decide +kernel
theorem dX12_areaOf_47 : decode cX12_areaOf 47 = .ok (.ifCond .le 8, 3) := by decide +kernel
theorem dX12_areaOf_50 : decode cX12_areaOf 50 = .ok (.iload 8, 2) := by decide +kernel
theorem dX12_areaOf_52 : decode cX12_areaOf 52 = .ok (.goto 4, 3) := by decide +kernel
theorem dX12_areaOf_55 : decode cX12_areaOf 55 = .ok (.iconst 0, 1) := by decide +kernel
theorem dX12_areaOf_56 : decode cX12_areaOf 56 = .ok (.iadd, 1) := by decide +kernel
theorem dX12_areaOf_57 : decode cX12_areaOf 57 = .ok (.i2l, 1) := by decide +kernel
theorem dX12_areaOf_58 : decode cX12_areaOf 58 = .ok (.ladd, 1) := by decide +kernel
theorem dX12_areaOf_59 : decode cX12_areaOf 59 = .ok (.lstore 4, 2) := by decide +kernel
theorem dX12_areaOf_61 : decode cX12_areaOf 61 = .ok (.iinc 6 1, 3) := by decide +kernel
theorem dX12_areaOf_64 : decode cX12_areaOf 64 = .ok (.goto (-58), 3) := by decide +kernel
theorem dX12_areaOf_67 : decode cX12_areaOf 67 = .ok (.lload 4, 2) := by decide +kernel
theorem dX12_areaOf_69 : decode cX12_areaOf 69 = .ok (.iload_n 2, 1) := by decide +kernel
theorem dX12_areaOf_70 : decode cX12_areaOf 70 = .ok (.i2l, 1) := by decide +kernel
theorem dX12_areaOf_71 : decode cX12_areaOf 71 = .ok (.lmul, 1) := by decide +kernel
theorem dX12_areaOf_72 : decode cX12_areaOf 72 = .ok (.lreturn, 1) := by decide +kernel
theorem dX12_isHeight_0 : decode cX12_isHeight 0 = .ok (.iload_n 0, 1) := by decide +kernel
theorem dX12_isHeight_1 : decode cX12_isHeight 1 = .ok (.i2l, 1) := by decide +kernel
theorem dX12_isHeight_2 : decode cX12_isHeight 2 = .ok (.lconst 1, 1) := by decide +kernel
theorem dX12_isHeight_3 : decode cX12_isHeight 3 = .ok (.ldc2_w 276, 3) := by decide +kernel
theorem dX12_isHeight_6 : decode cX12_isHeight 6 = .ok (.invokestatic 155, 3) := by decide +kernel
theorem dX12_isHeight_9 : decode cX12_isHeight 9 = .ok (.ireturn, 1) := by decide +kernel
theorem dX12_area_0 : decode cX12_area 0 = .ok (.aload_n 0, 1) := by decide +kernel
theorem dX12_area_1 : decode cX12_area 1 = .ok (.iload_n 1, 1) := by decide +kernel
theorem dX12_area_2 : decode cX12_area 2 = .ok (.invokevirtual 344, 3) := by decide +kernel
theorem dX12_area_5 : decode cX12_area 5 = .ok (.ifCond .eq 38, 3) := by decide +kernel
theorem dX12_area_8 : decode cX12_area 8 = .ok (.iload_n 2, 1) := by decide +kernel
theorem dX12_area_9 : decode cX12_area 9 = .ok (.invokestatic 563, 3) := by decide +kernel
theorem dX12_area_12 : decode cX12_area 12 = .ok (.ifCond .eq 31, 3) := by decide +kernel
theorem dX12_area_15 : decode cX12_area 15 = .ok (.aload_n 0, 1) := by decide +kernel
theorem dX12_area_16 : decode cX12_area 16 = .ok (.iload 4, 2) := by decide +kernel
theorem dX12_area_18 : decode cX12_area 18 = .ok (.invokevirtual 347, 3) := by decide +kernel
theorem dX12_area_21 : decode cX12_area 21 = .ok (.ifCond .eq 22, 3) := by decide +kernel
theorem dX12_area_24 : decode cX12_area 24 = .ok (.aload_n 0, 1) := by decide +kernel
theorem dX12_area_25 : decode cX12_area 25 = .ok (.iload_n 3, 1) := by decide +kernel
theorem dX12_area_26 : decode cX12_area 26 = .ok (.invokevirtual 566, 3) := by decide +kernel
theorem dX12_area_29 : decode cX12_area 29 = .ok (.ifCond .eq 14, 3) := by decide +kernel
theorem dX12_area_32 : decode cX12_area 32 = .ok (.aload_n 0, 1) := by decide +kernel
theorem dX12_area_33 : decode cX12_area 33 = .ok (.iload_n 1, 1) := by decide +kernel
theorem dX12_area_34 : decode cX12_area 34 = .ok (.iload_n 2, 1) := by decide +kernel
theorem dX12_area_35 : decode cX12_area 35 = .ok (.iload 4, 2) := by decide +kernel
theorem dX12_area_37 : decode cX12_area 37 = .ok (.invokevirtual 569, 3) := by decide +kernel
theorem dX12_area_40 : decode cX12_area 40 = .ok (.goto 6, 3) := by decide +kernel
theorem dX12_area_43 : decode cX12_area 43 = .ok (.ldc2_w 492, 3) := by decide +kernel
theorem dX12_area_46 : decode cX12_area 46 = .ok (.lreturn, 1) := by decide +kernel
theorem dX12_volumeOf_0 : decode cX12_volumeOf 0 = .ok (.lconst 0, 1) := by decide +kernel
theorem dX12_volumeOf_1 : decode cX12_volumeOf 1 = .ok (.lstore_n 3, 1) := by decide +kernel
theorem dX12_volumeOf_2 : decode cX12_volumeOf 2 = .ok (.iconst 1, 1) := by decide +kernel
theorem dX12_volumeOf_3 : decode cX12_volumeOf 3 = .ok (.istore 5, 2) := by decide +kernel
theorem dX12_volumeOf_5 : decode cX12_volumeOf 5 = .ok (.iload 5, 2) := by decide +kernel
theorem dX12_volumeOf_7 : decode cX12_volumeOf 7 = .ok (.aload_n 0, 1) := by decide +kernel
theorem dX12_volumeOf_8 : decode cX12_volumeOf 8 = .ok (.getfield 338, 3) := by decide +kernel
theorem dX12_volumeOf_11 : decode cX12_volumeOf 11 = .ok (.if_icmp .ge 31, 3) := by decide +kernel
theorem dX12_volumeOf_14 : decode cX12_volumeOf 14 = .ok (.lload_n 3, 1) := by decide +kernel
theorem dX12_volumeOf_15 : decode cX12_volumeOf 15 = .ok (.aload_n 0, 1) := by decide +kernel
theorem dX12_volumeOf_16 : decode cX12_volumeOf 16 = .ok (.iload 5, 2) := by decide +kernel
theorem dX12_volumeOf_18 : decode cX12_volumeOf 18 = .ok (.iconst 1, 1) := by decide +kernel
theorem dX12_volumeOf_19 : decode cX12_volumeOf 19 = .ok (.isub, 1) := by decide +kernel
theorem dX12_volumeOf_20 : decode cX12_volumeOf 20 = .ok (.iload_n 1, 1) := by decide +kernel
theorem dX12_volumeOf_21 : decode cX12_volumeOf 21 = .ok (.iload_n 2, 1) := by decide +kernel
theorem dX12_volumeOf_22 : decode cX12_volumeOf 22 = .ok (.invokevirtual 569, 3) := by decide +kernel
theorem dX12_volumeOf_25 : decode cX12_volumeOf 25 = .ok (.aload_n 0, 1) := by decide +kernel
theorem dX12_volumeOf_26 : decode cX12_volumeOf 26 = .ok (.iload 5, 2) := by decide +kernel
theorem dX12_volumeOf_28 : decode cX12_volumeOf 28 = .ok (.iload_n 1, 1) := by decide +kernel
theorem dX12_volumeOf_29 : decode cX12_volumeOf 29 = .ok (.iload_n 2, 1) := by decide +kernel
theorem dX12_volumeOf_30 : decode cX12_volumeOf 30 = .ok (.invokevirtual 569, 3) := by decide +kernel
theorem dX12_volumeOf_33 : decode cX12_volumeOf 33 = .ok (.ladd, 1) := by decide +kernel
theorem dX12_volumeOf_34 : decode cX12_volumeOf 34 = .ok (.ladd, 1) := by decide +kernel
theorem dX12_volumeOf_35 : decode cX12_volumeOf 35 = .ok (.lstore_n 3, 1) := by decide +kernel
theorem dX12_volumeOf_36 : decode cX12_volumeOf 36 = .ok (.iinc 5 1, 3) := by decide +kernel
theorem dX12_volumeOf_39 : decode cX12_volumeOf 39 = .ok (.goto (-34), 3) := by decide +kernel
theorem dX12_volumeOf_42 : decode cX12_volumeOf 42 = .ok (.lload_n 3, 1) := by decide +kernel
theorem dX12_volumeOf_43 : decode cX12_volumeOf 43 = .ok (.aload_n 0, 1) := by decide +kernel
theorem dX12_volumeOf_44 : decode cX12_volumeOf 44 = .ok (.getfield 13, 3) := by decide +kernel
theorem dX12_volumeOf_47 : decode cX12_volumeOf 47 = .ok (.i2l, 1) := by decide +kernel
theorem dX12_volumeOf_48 : decode cX12_volumeOf 48 = .ok (.lmul, 1) := by decide +kernel
theorem dX12_volumeOf_49 : decode cX12_volumeOf 49 = .ok (.ldc2_w 490, 3) := by decide +kernel
theorem dX12_volumeOf_52 : decode cX12_volumeOf 52 = .ok (.ldiv, 1) := by decide +kernel
theorem dX12_volumeOf_53 : decode cX12_volumeOf 53 = .ok (.lreturn, 1) := by decide +kernel
theorem dX12_volume_0 : decode cX12_volume 0 = .ok (.iload_n 1, 1) := by decide +kernel
theorem dX12_volume_1 : decode cX12_volume 1 = .ok (.invokestatic 563, 3) := by decide +kernel
theorem dX12_volume_4 : decode cX12_volume 4 = .ok (.ifCond .eq 28, 3) := by decide +kernel
theorem dX12_volume_7 : decode cX12_volume 7 = .ok (.aload_n 0, 1) := by decide +kernel
theorem dX12_volume_8 : decode cX12_volume 8 = .ok (.iload_n 3, 1) := by decide +kernel
theorem dX12_volume_9 : decode cX12_volume 9 = .ok (.invokevirtual 347, 3) := by decide +kernel
theorem dX12_volume_12 : decode cX12_volume 12 = .ok (.ifCond .eq 20, 3) := by decide +kernel
theorem dX12_volume_15 : decode cX12_volume 15 = .ok (.aload_n 0, 1) := by decide +kernel
theorem dX12_volume_16 : decode cX12_volume 16 = .ok (.iload_n 2, 1) := by decide +kernel
theorem dX12_volume_17 : decode cX12_volume 17 = .ok (.invokevirtual 566, 3) := by decide +kernel
theorem dX12_volume_20 : decode cX12_volume 20 = .ok (.ifCond .eq 12, 3) := by decide +kernel
theorem dX12_volume_23 : decode cX12_volume 23 = .ok (.aload_n 0, 1) := by decide +kernel
theorem dX12_volume_24 : decode cX12_volume 24 = .ok (.iload_n 1, 1) := by decide +kernel
theorem dX12_volume_25 : decode cX12_volume 25 = .ok (.iload_n 3, 1) := by decide +kernel
theorem dX12_volume_26 : decode cX12_volume 26 = .ok (.invokevirtual 572, 3) := by decide +kernel
theorem dX12_volume_29 : decode cX12_volume 29 = .ok (.goto 6, 3) := by decide +kernel
theorem dX12_volume_32 : decode cX12_volume 32 = .ok (.ldc2_w 492, 3) := by decide +kernel
theorem dX12_volume_35 : decode cX12_volume 35 = .ok (.lreturn, 1) := by decide +kernel
theorem dX12_depth_0 : decode cX12_depth 0 = .ok (.iload_n 1, 1) := by decide +kernel
theorem dX12_depth_1 : decode cX12_depth 1 = .ok (.invokestatic 563, 3) := by decide +kernel
theorem dX12_depth_4 : decode cX12_depth 4 = .ok (.ifCond .eq 23, 3) := by decide +kernel
theorem dX12_depth_7 : decode cX12_depth 7 = .ok (.iload_n 3, 1) := by decide +kernel
theorem dX12_depth_8 : decode cX12_depth 8 = .ok (.i2l, 1) := by decide +kernel
theorem dX12_depth_9 : decode cX12_depth 9 = .ok (.lconst 0, 1) := by decide +kernel
theorem dX12_depth_10 : decode cX12_depth 10 = .ok (.ldc2_w 575, 3) := by decide +kernel
theorem dX12_depth_13 : decode cX12_depth 13 = .ok (.invokestatic 155, 3) := by decide +kernel
theorem dX12_depth_16 : decode cX12_depth 16 = .ok (.ifCond .eq 11, 3) := by decide +kernel
theorem dX12_depth_19 : decode cX12_depth 19 = .ok (.aload_n 0, 1) := by decide +kernel
theorem dX12_depth_20 : decode cX12_depth 20 = .ok (.iload_n 2, 1) := by decide +kernel
theorem dX12_depth_21 : decode cX12_depth 21 = .ok (.invokevirtual 566, 3) := by decide +kernel
theorem dX12_depth_24 : decode cX12_depth 24 = .ok (.ifCond .ne 5, 3) := by decide +kernel
theorem dX12_depth_27 : decode cX12_depth 27 = .ok (.iconst (-1), 1) := by decide +kernel
theorem dX12_depth_28 : decode cX12_depth 28 = .ok (.ireturn, 1) := by decide +kernel
theorem dX12_depth_29 : decode cX12_depth 29 = .ok (.iconst 0, 1) := by decide +kernel
theorem dX12_depth_30 : decode cX12_depth 30 = .ok (.istore 4, 2) := by decide +kernel
theorem dX12_depth_32 : decode cX12_depth 32 = .ok (.iload 4, 2) := by decide +kernel
theorem dX12_depth_34 : decode cX12_depth 34 = .ok (.aload_n 0, 1) := by decide +kernel
theorem dX12_depth_35 : decode cX12_depth 35 = .ok (.getfield 341, 3) := by decide +kernel
theorem dX12_depth_38 : decode cX12_depth 38 = .ok (.if_icmp .ge 25, 3) := by decide +kernel
theorem dX12_depth_41 : decode cX12_depth 41 = .ok (.aload_n 0, 1) := by decide +kernel
theorem dX12_depth_42 : decode cX12_depth 42 = .ok (.iload_n 1, 1) := by decide +kernel
theorem dX12_depth_43 : decode cX12_depth 43 = .ok (.iload 4, 2) := by decide +kernel
theorem dX12_depth_45 : decode cX12_depth 45 = .ok (.invokevirtual 572, 3) := by decide +kernel
theorem dX12_depth_48 : decode cX12_depth 48 = .ok (.iload_n 3, 1) := by decide +kernel
theorem dX12_depth_49 : decode cX12_depth 49 = .ok (.i2l, 1) := by decide +kernel
theorem dX12_depth_50 : decode cX12_depth 50 = .ok (.lcmp, 1) := by decide +kernel
theorem dX12_depth_51 : decode cX12_depth 51 = .ok (.ifCond .lt 6, 3) := by decide +kernel
theorem dX12_depth_54 : decode cX12_depth 54 = .ok (.iload 4, 2) := by decide +kernel
theorem dX12_depth_56 : decode cX12_depth 56 = .ok (.ireturn, 1) := by decide +kernel
theorem dX12_depth_57 : decode cX12_depth 57 = .ok (.iinc 4 1, 3) := by decide +kernel
theorem dX12_depth_60 : decode cX12_depth 60 = .ok (.goto (-28), 3) := by decide +kernel
theorem dX12_depth_63 : decode cX12_depth 63 = .ok (.bipush (-2), 2) := by decide +kernel
theorem dX12_depth_65 : decode cX12_depth 65 = .ok (.ireturn, 1) := by decide +kernel
theorem dX12_rootOf_0 : decode cX12_rootOf 0 = .ok (.lconst 0, 1) := by decide +kernel
theorem dX12_rootOf_1 : decode cX12_rootOf 1 = .ok (.lstore_n 2, 1) := by decide +kernel
theorem dX12_rootOf_2 : decode cX12_rootOf 2 = .ok (.ldc2_w 577, 3) := by decide +kernel
theorem dX12_rootOf_5 : decode cX12_rootOf 5 = .ok (.lstore 4, 2) := by decide +kernel
theorem dX12_rootOf_7 : decode cX12_rootOf 7 = .ok (.lload 4, 2) := by decide +kernel
theorem dX12_rootOf_9 : decode cX12_rootOf 9 = .ok (.lconst 0, 1) := by decide +kernel
theorem dX12_rootOf_10 : decode cX12_rootOf 10 = .ok (.lcmp, 1) := by decide +kernel
theorem dX12_rootOf_11 : decode cX12_rootOf 11 = .ok (.ifCond .le 31, 3) := by decide +kernel
theorem dX12_rootOf_14 : decode cX12_rootOf 14 = .ok (.lload_n 2, 1) := by decide +kernel
theorem dX12_rootOf_15 : decode cX12_rootOf 15 = .ok (.lload 4, 2) := by decide +kernel
theorem dX12_rootOf_17 : decode cX12_rootOf 17 = .ok (.ladd, 1) := by decide +kernel
theorem dX12_rootOf_18 : decode cX12_rootOf 18 = .ok (.lload_n 2, 1) := by decide +kernel
theorem dX12_rootOf_19 : decode cX12_rootOf 19 = .ok (.lload 4, 2) := by decide +kernel
theorem dX12_rootOf_21 : decode cX12_rootOf 21 = .ok (.ladd, 1) := by decide +kernel
theorem dX12_rootOf_22 : decode cX12_rootOf 22 = .ok (.lmul, 1) := by decide +kernel
theorem dX12_rootOf_23 : decode cX12_rootOf 23 = .ok (.lload_n 0, 1) := by decide +kernel
theorem dX12_rootOf_24 : decode cX12_rootOf 24 = .ok (.lcmp, 1) := by decide +kernel
theorem dX12_rootOf_25 : decode cX12_rootOf 25 = .ok (.ifCond .gt 8, 3) := by decide +kernel
theorem dX12_rootOf_28 : decode cX12_rootOf 28 = .ok (.lload_n 2, 1) := by decide +kernel
theorem dX12_rootOf_29 : decode cX12_rootOf 29 = .ok (.lload 4, 2) := by decide +kernel
theorem dX12_rootOf_31 : decode cX12_rootOf 31 = .ok (.ladd, 1) := by decide +kernel
theorem dX12_rootOf_32 : decode cX12_rootOf 32 = .ok (.lstore_n 2, 1) := by decide +kernel
theorem dX12_rootOf_33 : decode cX12_rootOf 33 = .ok (.lload 4, 2) := by decide +kernel
theorem dX12_rootOf_35 : decode cX12_rootOf 35 = .ok (.iconst 1, 1) := by decide +kernel
theorem dX12_rootOf_36 : decode cX12_rootOf 36 = .ok (.lshr, 1) := by decide +kernel
theorem dX12_rootOf_37 : decode cX12_rootOf 37 = .ok (.lstore 4, 2) := by decide +kernel
theorem dX12_rootOf_39 : decode cX12_rootOf 39 = .ok (.goto (-32), 3) := by decide +kernel
theorem dX12_rootOf_42 : decode cX12_rootOf 42 = .ok (.lload_n 2, 1) := by decide +kernel
theorem dX12_rootOf_43 : decode cX12_rootOf 43 = .ok (.l2i, 1) := by decide +kernel
theorem dX12_rootOf_44 : decode cX12_rootOf 44 = .ok (.ireturn, 1) := by decide +kernel
theorem dX12_pace_0 : decode cX12_pace 0 = .ok (.aload_n 0, 1) := by decide +kernel
theorem dX12_pace_1 : decode cX12_pace 1 = .ok (.getfield 338, 3) := by decide +kernel
theorem dX12_pace_4 : decode cX12_pace 4 = .ok (.ifCond .le 37, 3) := by decide +kernel
theorem dX12_pace_7 : decode cX12_pace 7 = .ok (.iload_n 1, 1) := by decide +kernel
theorem dX12_pace_8 : decode cX12_pace 8 = .ok (.i2l, 1) := by decide +kernel
theorem dX12_pace_9 : decode cX12_pace 9 = .ok (.lconst 1, 1) := by decide +kernel
theorem dX12_pace_10 : decode cX12_pace 10 = .ok (.ldc2_w 153, 3) := by decide +kernel
theorem dX12_pace_13 : decode cX12_pace 13 = .ok (.invokestatic 155, 3) := by decide +kernel
theorem dX12_pace_16 : decode cX12_pace 16 = .ok (.ifCond .eq 25, 3) := by decide +kernel
theorem dX12_pace_19 : decode cX12_pace 19 = .ok (.iload_n 1, 1) := by decide +kernel
theorem dX12_pace_20 : decode cX12_pace 20 = .ok (.i2l, 1) := by decide +kernel
theorem dX12_pace_21 : decode cX12_pace 21 = .ok (.aload_n 0, 1) := by decide +kernel
theorem dX12_pace_22 : decode cX12_pace 22 = .ok (.getfield 338, 3) := by decide +kernel
theorem dX12_pace_25 : decode cX12_pace 25 = .ok (.iconst 1, 1) := by decide +kernel
theorem dX12_pace_26 : decode cX12_pace 26 = .ok (.isub, 1) := by decide +kernel
theorem dX12_pace_27 : decode cX12_pace 27 = .ok (.i2l, 1) := by decide +kernel
theorem dX12_pace_28 : decode cX12_pace 28 = .ok (.lmul, 1) := by decide +kernel
theorem dX12_pace_29 : decode cX12_pace 29 = .ok (.aload_n 0, 1) := by decide +kernel
theorem dX12_pace_30 : decode cX12_pace 30 = .ok (.getfield 13, 3) := by decide +kernel
theorem dX12_pace_33 : decode cX12_pace 33 = .ok (.i2l, 1) := by decide +kernel
theorem dX12_pace_34 : decode cX12_pace 34 = .ok (.lmul, 1) := by decide +kernel
theorem dX12_pace_35 : decode cX12_pace 35 = .ok (.invokestatic 579, 3) := by decide +kernel
theorem dX12_pace_38 : decode cX12_pace 38 = .ok (.goto 4, 3) := by decide +kernel
theorem dX12_pace_41 : decode cX12_pace 41 = .ok (.iconst (-1), 1) := by decide +kernel
theorem dX12_pace_42 : decode cX12_pace 42 = .ok (.ireturn, 1) := by decide +kernel
theorem dX12_partOf_0 : decode cX12_partOf 0 = .ok (.aload_n 0, 1) := by decide +kernel
theorem dX12_partOf_1 : decode cX12_partOf 1 = .ok (.iload_n 1, 1) := by decide +kernel
theorem dX12_partOf_2 : decode cX12_partOf 2 = .ok (.iload_n 2, 1) := by decide +kernel
theorem dX12_partOf_3 : decode cX12_partOf 3 = .ok (.iconst 1, 1) := by decide +kernel
theorem dX12_partOf_4 : decode cX12_partOf 4 = .ok (.iadd, 1) := by decide +kernel
theorem dX12_partOf_5 : decode cX12_partOf 5 = .ok (.invokevirtual 516, 3) := by decide +kernel
theorem dX12_partOf_8 : decode cX12_partOf 8 = .ok (.aload_n 0, 1) := by decide +kernel
theorem dX12_partOf_9 : decode cX12_partOf 9 = .ok (.iload_n 1, 1) := by decide +kernel
theorem dX12_partOf_10 : decode cX12_partOf 10 = .ok (.iload_n 2, 1) := by decide +kernel
theorem dX12_partOf_11 : decode cX12_partOf 11 = .ok (.invokevirtual 516, 3) := by decide +kernel
theorem dX12_partOf_14 : decode cX12_partOf 14 = .ok (.isub, 1) := by decide +kernel
theorem dX12_partOf_15 : decode cX12_partOf 15 = .ok (.i2l, 1) := by decide +kernel
theorem dX12_partOf_16 : decode cX12_partOf 16 = .ok (.lstore_n 3, 1) := by decide +kernel
theorem dX12_partOf_17 : decode cX12_partOf 17 = .ok (.aload_n 0, 1) := by decide +kernel
theorem dX12_partOf_18 : decode cX12_partOf 18 = .ok (.getfield 13, 3) := by decide +kernel
theorem dX12_partOf_21 : decode cX12_partOf 21 = .ok (.i2l, 1) := by decide +kernel
theorem dX12_partOf_22 : decode cX12_partOf 22 = .ok (.aload_n 0, 1) := by decide +kernel
theorem dX12_partOf_23 : decode cX12_partOf 23 = .ok (.getfield 13, 3) := by decide +kernel
theorem dX12_partOf_26 : decode cX12_partOf 26 = .ok (.i2l, 1) := by decide +kernel
theorem dX12_partOf_27 : decode cX12_partOf 27 = .ok (.lmul, 1) := by decide +kernel
theorem dX12_partOf_28 : decode cX12_partOf 28 = .ok (.lload_n 3, 1) := by decide +kernel
theorem dX12_partOf_29 : decode cX12_partOf 29 = .ok (.lload_n 3, 1) := by decide +kernel
theorem dX12_partOf_30 : decode cX12_partOf 30 = .ok (.lmul, 1) := by decide +kernel
theorem dX12_partOf_31 : decode cX12_partOf 31 = .ok (.ladd, 1) := by decide +kernel
theorem dX12_partOf_32 : decode cX12_partOf 32 = .ok (.invokestatic 579, 3) := by decide +kernel
theorem dX12_partOf_35 : decode cX12_partOf 35 = .ok (.ireturn, 1) := by decide +kernel
theorem dX12_lengthOf_0 : decode cX12_lengthOf 0 = .ok (.iconst 0, 1) := by decide +kernel
theorem dX12_lengthOf_1 : decode cX12_lengthOf 1 = .ok (.istore 4, 2) := by decide +kernel
theorem dX12_lengthOf_3 : decode cX12_lengthOf 3 = .ok (.iload_n 2, 1) := by decide +kernel
theorem dX12_lengthOf_4 : decode cX12_lengthOf 4 = .ok (.istore 5, 2) := by decide +kernel
theorem dX12_lengthOf_6 : decode cX12_lengthOf 6 = .ok (.iload 5, 2) := by decide +kernel
theorem dX12_lengthOf_8 : decode cX12_lengthOf 8 = .ok (.iload_n 3, 1) := by decide +kernel
theorem dX12_lengthOf_9 : decode cX12_lengthOf 9 = .ok (.if_icmp .ge 21, 3) := by decide +kernel
theorem dX12_lengthOf_12 : decode cX12_lengthOf 12 = .ok (.iload 4, 2) := by decide +kernel
theorem dX12_lengthOf_14 : decode cX12_lengthOf 14 = .ok (.aload_n 0, 1) := by decide +kernel
theorem dX12_lengthOf_15 : decode cX12_lengthOf 15 = .ok (.iload_n 1, 1) := by decide +kernel
theorem dX12_lengthOf_16 : decode cX12_lengthOf 16 = .ok (.iload 5, 2) := by decide +kernel
theorem dX12_lengthOf_18 : decode cX12_lengthOf 18 = .ok (.invokevirtual 583, 3) := by decide +kernel
theorem dX12_lengthOf_21 : decode cX12_lengthOf 21 = .ok (.iadd, 1) := by decide +kernel
theorem dX12_lengthOf_22 : decode cX12_lengthOf 22 = .ok (.istore 4, 2) := by decide +kernel
theorem dX12_lengthOf_24 : decode cX12_lengthOf 24 = .ok (.iinc 5 1, 3) := by decide +kernel
theorem dX12_lengthOf_27 : decode cX12_lengthOf 27 = .ok (.goto (-21), 3) := by decide +kernel
theorem dX12_lengthOf_30 : decode cX12_lengthOf 30 = .ok (.iload 4, 2) := by decide +kernel
theorem dX12_lengthOf_32 : decode cX12_lengthOf 32 = .ok (.ireturn, 1) := by decide +kernel
theorem dX12_length_0 : decode cX12_length 0 = .ok (.aload_n 0, 1) := by decide +kernel
theorem dX12_length_1 : decode cX12_length 1 = .ok (.iload_n 1, 1) := by decide +kernel
theorem dX12_length_2 : decode cX12_length 2 = .ok (.iload_n 2, 1) := by decide +kernel
theorem dX12_length_3 : decode cX12_length 3 = .ok (.invokevirtual 511, 3) := by decide +kernel
theorem dX12_length_6 : decode cX12_length 6 = .ok (.ifCond .eq 18, 3) := by decide +kernel
theorem dX12_length_9 : decode cX12_length 9 = .ok (.aload_n 0, 1) := by decide +kernel
theorem dX12_length_10 : decode cX12_length 10 = .ok (.iload_n 1, 1) := by decide +kernel
theorem dX12_length_11 : decode cX12_length 11 = .ok (.iconst 0, 1) := by decide +kernel
theorem dX12_length_12 : decode cX12_length 12 = .ok (.aload_n 0, 1) := by decide +kernel
theorem dX12_length_13 : decode cX12_length 13 = .ok (.getfield 338, 3) := by decide +kernel
theorem dX12_length_16 : decode cX12_length 16 = .ok (.iconst 1, 1) := by decide +kernel
theorem dX12_length_17 : decode cX12_length 17 = .ok (.isub, 1) := by decide +kernel
theorem dX12_length_18 : decode cX12_length 18 = .ok (.invokevirtual 586, 3) := by decide +kernel
theorem dX12_length_21 : decode cX12_length 21 = .ok (.goto 4, 3) := by decide +kernel
theorem dX12_length_24 : decode cX12_length 24 = .ok (.iconst (-1), 1) := by decide +kernel
theorem dX12_length_25 : decode cX12_length 25 = .ok (.ireturn, 1) := by decide +kernel
theorem dX12_mayJoin_0 : decode cX12_mayJoin 0 = .ok (.iload_n 1, 1) := by decide +kernel
theorem dX12_mayJoin_1 : decode cX12_mayJoin 1 = .ok (.ifCond .le 57, 3) := by decide +kernel
theorem dX12_mayJoin_4 : decode cX12_mayJoin 4 = .ok (.iload_n 1, 1) := by decide +kernel
theorem dX12_mayJoin_5 : decode cX12_mayJoin 5 = .ok (.aload_n 0, 1) := by decide +kernel
theorem dX12_mayJoin_6 : decode cX12_mayJoin 6 = .ok (.getfield 338, 3) := by decide +kernel
theorem dX12_mayJoin_9 : decode cX12_mayJoin 9 = .ok (.iconst 1, 1) := by decide +kernel
theorem dX12_mayJoin_10 : decode cX12_mayJoin 10 = .ok (.isub, 1) := by decide +kernel
theorem dX12_mayJoin_11 : decode cX12_mayJoin 11 = .ok (.if_icmp .ge 47, 3) := by decide +kernel
theorem dX12_mayJoin_14 : decode cX12_mayJoin 14 = .ok (.aload_n 0, 1) := by decide +kernel
theorem dX12_mayJoin_15 : decode cX12_mayJoin 15 = .ok (.getfield 589, 3) := by decide +kernel
theorem dX12_mayJoin_18 : decode cX12_mayJoin 18 = .ok (.i2l, 1) := by decide +kernel
theorem dX12_mayJoin_19 : decode cX12_mayJoin 19 = .ok (.iload_n 1, 1) := by decide +kernel
theorem dX12_mayJoin_20 : decode cX12_mayJoin 20 = .ok (.iconst 1, 1) := by decide +kernel
theorem dX12_mayJoin_21 : decode cX12_mayJoin 21 = .ok (.isub, 1) := by decide +kernel
theorem dX12_mayJoin_22 : decode cX12_mayJoin 22 = .ok (.invokestatic 356, 3) := by decide +kernel
theorem dX12_mayJoin_25 : decode cX12_mayJoin 25 = .ok (.ifCond .ne 33, 3) := by decide +kernel
theorem dX12_mayJoin_28 : decode cX12_mayJoin 28 = .ok (.aload_n 0, 1) := by decide +kernel
theorem dX12_mayJoin_29 : decode cX12_mayJoin 29 = .ok (.getfield 589, 3) := by decide +kernel
theorem dX12_mayJoin_32 : decode cX12_mayJoin 32 = .ok (.i2l, 1) := by decide +kernel
theorem dX12_mayJoin_33 : decode cX12_mayJoin 33 = .ok (.iload_n 1, 1) := by decide +kernel
theorem dX12_mayJoin_34 : decode cX12_mayJoin 34 = .ok (.invokestatic 356, 3) := by decide +kernel
theorem dX12_mayJoin_37 : decode cX12_mayJoin 37 = .ok (.ifCond .ne 21, 3) := by decide +kernel
theorem dX12_mayJoin_40 : decode cX12_mayJoin 40 = .ok (.aload_n 0, 1) := by decide +kernel
theorem dX12_mayJoin_41 : decode cX12_mayJoin 41 = .ok (.getfield 589, 3) := by decide +kernel
theorem dX12_mayJoin_44 : decode cX12_mayJoin 44 = .ok (.i2l, 1) := by decide +kernel
theorem dX12_mayJoin_45 : decode cX12_mayJoin 45 = .ok (.iload_n 1, 1) := by decide +kernel
theorem dX12_mayJoin_46 : decode cX12_mayJoin 46 = .ok (.iconst 1, 1) := by decide +kernel
theorem dX12_mayJoin_47 : decode cX12_mayJoin 47 = .ok (.iadd, 1) := by decide +kernel
theorem dX12_mayJoin_48 : decode cX12_mayJoin 48 = .ok (.invokestatic 356, 3) := by decide +kernel
theorem dX12_mayJoin_51 : decode cX12_mayJoin 51 = .ok (.ifCond .ne 7, 3) := by decide +kernel
theorem dX12_mayJoin_54 : decode cX12_mayJoin 54 = .ok (.iconst 1, 1) := by decide +kernel
theorem dX12_mayJoin_55 : decode cX12_mayJoin 55 = .ok (.goto 4, 3) := by decide +kernel
theorem dX12_mayJoin_58 : decode cX12_mayJoin 58 = .ok (.iconst 0, 1) := by decide +kernel
theorem dX12_mayJoin_59 : decode cX12_mayJoin 59 = .ok (.ireturn, 1) := by decide +kernel
theorem dX12_laysPlanks_0 : decode cX12_laysPlanks 0 = .ok (.aload_n 0, 1) := by decide +kernel
theorem dX12_laysPlanks_1 : decode cX12_laysPlanks 1 = .ok (.getfield 338, 3) := by decide +kernel
theorem dX12_laysPlanks_4 : decode cX12_laysPlanks 4 = .ok (.iconst 1, 1) := by decide +kernel
theorem dX12_laysPlanks_5 : decode cX12_laysPlanks 5 = .ok (.isub, 1) := by decide +kernel
theorem dX12_laysPlanks_6 : decode cX12_laysPlanks 6 = .ok (.istore_n 3, 1) := by decide +kernel
theorem dX12_laysPlanks_7 : decode cX12_laysPlanks 7 = .ok (.aload_n 0, 1) := by decide +kernel
theorem dX12_laysPlanks_8 : decode cX12_laysPlanks 8 = .ok (.getfield 150, 3) := by decide +kernel
theorem dX12_laysPlanks_11 : decode cX12_laysPlanks 11 = .ok (.iload_n 3, 1) := by decide +kernel
theorem dX12_laysPlanks_12 : decode cX12_laysPlanks 12 = .ok (.iconst 0, 1) := by decide +kernel
theorem dX12_laysPlanks_13 : decode cX12_laysPlanks 13 = .ok (.iastore, 1) := by decide +kernel
theorem dX12_laysPlanks_14 : decode cX12_laysPlanks 14 = .ok (.iload_n 3, 1) := by decide +kernel
theorem dX12_laysPlanks_15 : decode cX12_laysPlanks 15 = .ok (.iconst 1, 1) := by decide +kernel
theorem dX12_laysPlanks_16 : decode cX12_laysPlanks 16 = .ok (.isub, 1) := by decide +kernel
theorem dX12_laysPlanks_17 : decode cX12_laysPlanks 17 = .ok (.istore 4, 2) := by decide +kernel
theorem dX12_laysPlanks_19 : decode cX12_laysPlanks 19 = .ok (.iload 4, 2) := by decide +kernel
theorem dX12_laysPlanks_21 : decode cX12_laysPlanks 21 = .ok (.ifCond .lt 138, 3) := by decide +kernel
theorem dX12_laysPlanks_24 : decode cX12_laysPlanks 24 = .ok (.aload_n 0, 1) := by decide +kernel
theorem dX12_laysPlanks_25 : decode cX12_laysPlanks 25 = .ok (.getfield 150, 3) := by decide +kernel
theorem dX12_laysPlanks_28 : decode cX12_laysPlanks 28 = .ok (.iload 4, 2) := by decide +kernel
theorem dX12_laysPlanks_30 : decode cX12_laysPlanks 30 = .ok (.iconst (-1), 1) := by decide +kernel
theorem dX12_laysPlanks_31 : decode cX12_laysPlanks 31 = .ok (.iastore, 1) := by decide +kernel
theorem dX12_laysPlanks_32 : decode cX12_laysPlanks 32 = .ok (.iload 4, 2) := by decide +kernel
theorem dX12_laysPlanks_34 : decode cX12_laysPlanks 34 = .ok (.iconst 1, 1) := by decide +kernel
theorem dX12_laysPlanks_35 : decode cX12_laysPlanks 35 = .ok (.iadd, 1) := by decide +kernel
theorem dX12_laysPlanks_36 : decode cX12_laysPlanks 36 = .ok (.istore 5, 2) := by decide +kernel
theorem dX12_laysPlanks_38 : decode cX12_laysPlanks 38 = .ok (.iload 5, 2) := by decide +kernel
theorem dX12_laysPlanks_40 : decode cX12_laysPlanks 40 = .ok (.iload_n 3, 1) := by decide +kernel
theorem dX12_laysPlanks_41 : decode cX12_laysPlanks 41 = .ok (.if_icmp .gt 112, 3) := by decide +kernel
theorem dX12_laysPlanks_44 : decode cX12_laysPlanks 44 = .ok (.iload 5, 2) := by decide +kernel
theorem dX12_laysPlanks_46 : decode cX12_laysPlanks 46 = .ok (.iload_n 3, 1) := by decide +kernel
theorem dX12_laysPlanks_47 : decode cX12_laysPlanks 47 = .ok (.if_icmp .ge 12, 3) := by decide +kernel
theorem dX12_laysPlanks_50 : decode cX12_laysPlanks 50 = .ok (.aload_n 0, 1) := by decide +kernel
theorem dX12_laysPlanks_51 : decode cX12_laysPlanks 51 = .ok (.iload 5, 2) := by decide +kernel
theorem dX12_laysPlanks_53 : decode cX12_laysPlanks 53 = .ok (.invokevirtual 592, 3) := by decide +kernel
theorem dX12_laysPlanks_56 : decode cX12_laysPlanks 56 = .ok (.ifCond .eq 91, 3) := by decide +kernel
theorem dX12_laysPlanks_59 : decode cX12_laysPlanks 59 = .ok (.aload_n 0, 1) := by decide +kernel
theorem dX12_laysPlanks_60 : decode cX12_laysPlanks 60 = .ok (.getfield 150, 3) := by decide +kernel
theorem dX12_laysPlanks_63 : decode cX12_laysPlanks 63 = .ok (.iload 5, 2) := by decide +kernel
theorem dX12_laysPlanks_65 : decode cX12_laysPlanks 65 = .ok (.iaload, 1) := by decide +kernel
theorem dX12_laysPlanks_66 : decode cX12_laysPlanks 66 = .ok (.ifCond .lt 81, 3) := by decide +kernel
theorem dX12_laysPlanks_69 : decode cX12_laysPlanks 69 = .ok (.aload_n 0, 1) := by decide +kernel
theorem dX12_laysPlanks_70 : decode cX12_laysPlanks 70 = .ok (.iload_n 1, 1) := by decide +kernel
theorem dX12_laysPlanks_71 : decode cX12_laysPlanks 71 = .ok (.iload 4, 2) := by decide +kernel
theorem dX12_laysPlanks_73 : decode cX12_laysPlanks 73 = .ok (.iload 5, 2) := by decide +kernel
theorem dX12_laysPlanks_75 : decode cX12_laysPlanks 75 = .ok (.invokevirtual 586, 3) := by decide +kernel
theorem dX12_laysPlanks_78 : decode cX12_laysPlanks 78 = .ok (.iload_n 2, 1) := by decide +kernel
theorem dX12_laysPlanks_79 : decode cX12_laysPlanks 79 = .ok (.if_icmp .le 6, 3) := by decide +kernel
theorem dX12_laysPlanks_82 : decode cX12_laysPlanks 82 = .ok (.goto 65, 3) := by decide +kernel
theorem dX12_laysPlanks_85 : decode cX12_laysPlanks 85 = .ok (.aload_n 0, 1) := by decide +kernel
theorem dX12_laysPlanks_86 : decode cX12_laysPlanks 86 = .ok (.getfield 150, 3) := by decide +kernel
theorem dX12_laysPlanks_89 : decode cX12_laysPlanks 89 = .ok (.iload 5, 2) := by decide +kernel
theorem dX12_laysPlanks_91 : decode cX12_laysPlanks 91 = .ok (.iaload, 1) := by decide +kernel
theorem dX12_laysPlanks_92 : decode cX12_laysPlanks 92 = .ok (.iload 5, 2) := by decide +kernel
theorem dX12_laysPlanks_94 : decode cX12_laysPlanks 94 = .ok (.iload_n 3, 1) := by decide +kernel
theorem dX12_laysPlanks_95 : decode cX12_laysPlanks 95 = .ok (.if_icmp .ge 7, 3) := by decide +kernel
theorem dX12_laysPlanks_98 : decode cX12_laysPlanks 98 = .ok (.iconst 1, 1) := by decide +kernel
theorem dX12_laysPlanks_99 : decode cX12_laysPlanks 99 = .ok (.goto 4, 3) := by decide +kernel
theorem dX12_laysPlanks_102 : decode cX12_laysPlanks 102 = .ok (.iconst 0, 1) := by decide +kernel
theorem dX12_laysPlanks_103 : decode cX12_laysPlanks 103 = .ok (.iadd, 1) := by decide +kernel
theorem dX12_laysPlanks_104 : decode cX12_laysPlanks 104 = .ok (.istore 6, 2) := by decide +kernel
theorem dX12_laysPlanks_106 : decode cX12_laysPlanks 106 = .ok (.aload_n 0, 1) := by decide +kernel
theorem dX12_laysPlanks_107 : decode cX12_laysPlanks 107 = .ok (.getfield 150, 3) := by decide +kernel
theorem dX12_laysPlanks_110 : decode cX12_laysPlanks 110 = .ok (.iload 4, 2) := by decide +kernel
theorem dX12_laysPlanks_112 : decode cX12_laysPlanks 112 = .ok (.aload_n 0, 1) := by decide +kernel
theorem dX12_laysPlanks_113 : decode cX12_laysPlanks 113 = .ok (.getfield 150, 3) := by decide +kernel
theorem dX12_laysPlanks_116 : decode cX12_laysPlanks 116 = .ok (.iload 4, 2) := by decide +kernel
theorem dX12_laysPlanks_118 : decode cX12_laysPlanks 118 = .ok (.iaload, 1) := by decide +kernel
theorem dX12_laysPlanks_119 : decode cX12_laysPlanks 119 = .ok (.ifCond .lt 15, 3) := by decide +kernel
theorem dX12_laysPlanks_122 : decode cX12_laysPlanks 122 = .ok (.iload 6, 2) := by decide +kernel
theorem dX12_laysPlanks_124 : decode cX12_laysPlanks 124 = .ok (.aload_n 0, 1) := by decide +kernel
theorem dX12_laysPlanks_125 : decode cX12_laysPlanks 125 = .ok (.getfield 150, 3) := by decide +kernel
theorem dX12_laysPlanks_128 : decode cX12_laysPlanks 128 = .ok (.iload 4, 2) := by decide +kernel
theorem dX12_laysPlanks_130 : decode cX12_laysPlanks 130 = .ok (.iaload, 1) := by decide +kernel
theorem dX12_laysPlanks_131 : decode cX12_laysPlanks 131 = .ok (.if_icmp .ge 8, 3) := by decide +kernel
theorem dX12_laysPlanks_134 : decode cX12_laysPlanks 134 = .ok (.iload 6, 2) := by decide +kernel
theorem dX12_laysPlanks_136 : decode cX12_laysPlanks 136 = .ok (.goto 10, 3) := by decide +kernel
theorem dX12_laysPlanks_139 : decode cX12_laysPlanks 139 = .ok (.aload_n 0, 1) := by decide +kernel
theorem dX12_laysPlanks_140 : decode cX12_laysPlanks 140 = .ok (.getfield 150, 3) := by decide +kernel
theorem dX12_laysPlanks_143 : decode cX12_laysPlanks 143 = .ok (.iload 4, 2) := by decide +kernel
theorem dX12_laysPlanks_145 : decode cX12_laysPlanks 145 = .ok (.iaload, 1) := by decide +kernel
theorem dX12_laysPlanks_146 : decode cX12_laysPlanks 146 = .ok (.iastore, 1) := by decide +kernel
theorem dX12_laysPlanks_147 : decode cX12_laysPlanks 147 = .ok (.iinc 5 1, 3) := by decide +kernel
theorem dX12_laysPlanks_150 : decode cX12_laysPlanks 150 = .ok (.goto (-112), 3) := by decide +kernel
theorem dX12_laysPlanks_153 : decode cX12_laysPlanks 153 = .ok (.iinc 4 (-1), 3) := by decide +kernel
theorem dX12_laysPlanks_156 : decode cX12_laysPlanks 156 = .ok (.goto (-137), 3) := by decide +kernel
theorem dX12_laysPlanks_159 : decode cX12_laysPlanks 159 = .ok (.aload_n 0, 1) := by decide +kernel
theorem dX12_laysPlanks_160 : decode cX12_laysPlanks 160 = .ok (.iconst 0, 1) := by decide +kernel
theorem dX12_laysPlanks_161 : decode cX12_laysPlanks 161 = .ok (.putfield 595, 3) := by decide +kernel
theorem dX12_laysPlanks_164 : decode cX12_laysPlanks 164 = .ok (.aload_n 0, 1) := by decide +kernel
theorem dX12_laysPlanks_165 : decode cX12_laysPlanks 165 = .ok (.getfield 150, 3) := by decide +kernel
theorem dX12_laysPlanks_168 : decode cX12_laysPlanks 168 = .ok (.iconst 0, 1) := by decide +kernel
theorem dX12_laysPlanks_169 : decode cX12_laysPlanks 169 = .ok (.iaload, 1) := by decide +kernel
theorem dX12_laysPlanks_170 : decode cX12_laysPlanks 170 = .ok (.ifCond .ge 5, 3) := by decide +kernel
theorem dX12_laysPlanks_173 : decode cX12_laysPlanks 173 = .ok (.iconst 0, 1) := by decide +kernel
theorem dX12_laysPlanks_174 : decode cX12_laysPlanks 174 = .ok (.ireturn, 1) := by decide +kernel
theorem dX12_laysPlanks_175 : decode cX12_laysPlanks 175 = .ok (.iconst 0, 1) := by decide +kernel
theorem dX12_laysPlanks_176 : decode cX12_laysPlanks 176 = .ok (.istore 4, 2) := by decide +kernel
theorem dX12_laysPlanks_178 : decode cX12_laysPlanks 178 = .ok (.aload_n 0, 1) := by decide +kernel
theorem dX12_laysPlanks_179 : decode cX12_laysPlanks 179 = .ok (.getfield 150, 3) := by decide +kernel
theorem dX12_laysPlanks_182 : decode cX12_laysPlanks 182 = .ok (.iload 4, 2) := by decide +kernel
theorem dX12_laysPlanks_184 : decode cX12_laysPlanks 184 = .ok (.iaload, 1) := by decide +kernel
theorem dX12_laysPlanks_185 : decode cX12_laysPlanks 185 = .ok (.ifCond .le 76, 3) := by decide +kernel
theorem dX12_laysPlanks_188 : decode cX12_laysPlanks 188 = .ok (.iload 4, 2) := by decide +kernel
theorem dX12_laysPlanks_190 : decode cX12_laysPlanks 190 = .ok (.iconst 1, 1) := by decide +kernel
theorem dX12_laysPlanks_191 : decode cX12_laysPlanks 191 = .ok (.iadd, 1) := by decide +kernel
theorem dX12_laysPlanks_192 : decode cX12_laysPlanks 192 = .ok (.istore 5, 2) := by decide +kernel
theorem dX12_laysPlanks_194 : decode cX12_laysPlanks 194 = .ok (.aload_n 0, 1) := by decide +kernel
theorem dX12_laysPlanks_195 : decode cX12_laysPlanks 195 = .ok (.iload 5, 2) := by decide +kernel
theorem dX12_laysPlanks_197 : decode cX12_laysPlanks 197 = .ok (.invokevirtual 592, 3) := by decide +kernel
theorem dX12_laysPlanks_200 : decode cX12_laysPlanks 200 = .ok (.ifCond .eq 35, 3) := by decide +kernel
theorem dX12_laysPlanks_203 : decode cX12_laysPlanks 203 = .ok (.aload_n 0, 1) := by decide +kernel
theorem dX12_laysPlanks_204 : decode cX12_laysPlanks 204 = .ok (.getfield 150, 3) := by decide +kernel
theorem dX12_laysPlanks_207 : decode cX12_laysPlanks 207 = .ok (.iload 5, 2) := by decide +kernel
theorem dX12_laysPlanks_209 : decode cX12_laysPlanks 209 = .ok (.iaload, 1) := by decide +kernel
theorem dX12_laysPlanks_210 : decode cX12_laysPlanks 210 = .ok (.aload_n 0, 1) := by decide +kernel
theorem dX12_laysPlanks_211 : decode cX12_laysPlanks 211 = .ok (.getfield 150, 3) := by decide +kernel
theorem dX12_laysPlanks_214 : decode cX12_laysPlanks 214 = .ok (.iload 4, 2) := by decide +kernel
theorem dX12_laysPlanks_216 : decode cX12_laysPlanks 216 = .ok (.iaload, 1) := by decide +kernel
theorem dX12_laysPlanks_217 : decode cX12_laysPlanks 217 = .ok (.iconst 1, 1) := by decide +kernel
theorem dX12_laysPlanks_218 : decode cX12_laysPlanks 218 = .ok (.isub, 1) := by decide +kernel
theorem dX12_laysPlanks_219 : decode cX12_laysPlanks 219 = .ok (.if_icmp .ne 16, 3) := by decide +kernel
theorem dX12_laysPlanks_222 : decode cX12_laysPlanks 222 = .ok (.aload_n 0, 1) := by decide +kernel
theorem dX12_laysPlanks_223 : decode cX12_laysPlanks 223 = .ok (.iload_n 1, 1) := by decide +kernel
theorem dX12_laysPlanks_224 : decode cX12_laysPlanks 224 = .ok (.iload 4, 2) := by decide +kernel
theorem dX12_laysPlanks_226 : decode cX12_laysPlanks 226 = .ok (.iload 5, 2) := by decide +kernel
theorem dX12_laysPlanks_228 : decode cX12_laysPlanks 228 = .ok (.invokevirtual 586, 3) := by decide +kernel
theorem dX12_laysPlanks_231 : decode cX12_laysPlanks 231 = .ok (.iload_n 2, 1) := by decide +kernel
theorem dX12_laysPlanks_232 : decode cX12_laysPlanks 232 = .ok (.if_icmp .le 9, 3) := by decide +kernel
theorem dX12_laysPlanks_235 : decode cX12_laysPlanks 235 = .ok (.iinc 5 1, 3) := by decide +kernel
theorem dX12_laysPlanks_238 : decode cX12_laysPlanks 238 = .ok (.goto (-44), 3) := by decide +kernel
theorem dX12_laysPlanks_241 : decode cX12_laysPlanks 241 = .ok (.aload_n 0, 1) := by decide +kernel
theorem dX12_laysPlanks_242 : decode cX12_laysPlanks 242 = .ok (.dup, 1) := by decide +kernel
theorem dX12_laysPlanks_243 : decode cX12_laysPlanks 243 = .ok (.getfield 595, 3) := by decide +kernel
theorem dX12_laysPlanks_246 : decode cX12_laysPlanks 246 = .ok (.iconst 1, 1) := by decide +kernel
theorem dX12_laysPlanks_247 : decode cX12_laysPlanks 247 = .ok (.iload 5, 2) := by decide +kernel
theorem dX12_laysPlanks_249 : decode cX12_laysPlanks 249 = .ok (.ishl, 1) := by decide +kernel
theorem dX12_laysPlanks_250 : decode cX12_laysPlanks 250 = .ok (.ior, 1) := by decide +kernel
theorem dX12_laysPlanks_251 : decode cX12_laysPlanks 251 = .ok (.putfield 595, 3) := by decide +kernel
theorem dX12_laysPlanks_254 : decode cX12_laysPlanks 254 = .ok (.iload 5, 2) := by decide +kernel
theorem dX12_laysPlanks_256 : decode cX12_laysPlanks 256 = .ok (.istore 4, 2) := by decide +kernel
theorem dX12_laysPlanks_258 : decode cX12_laysPlanks 258 = .ok (.goto (-80), 3) := by decide +kernel
theorem dX12_laysPlanks_261 : decode cX12_laysPlanks 261 = .ok (.iconst 1, 1) := by decide +kernel
theorem dX12_laysPlanks_262 : decode cX12_laysPlanks 262 = .ok (.ireturn, 1) := by decide +kernel
theorem dX12_joints_0 : decode cX12_joints 0 = .ok (.aload_n 0, 1) := by decide +kernel
theorem dX12_joints_1 : decode cX12_joints 1 = .ok (.iload_n 1, 1) := by decide +kernel
theorem dX12_joints_2 : decode cX12_joints 2 = .ok (.invokevirtual 347, 3) := by decide +kernel
theorem dX12_joints_5 : decode cX12_joints 5 = .ok (.ifCond .eq 28, 3) := by decide +kernel
theorem dX12_joints_8 : decode cX12_joints 8 = .ok (.iload_n 2, 1) := by decide +kernel
theorem dX12_joints_9 : decode cX12_joints 9 = .ok (.invokestatic 484, 3) := by decide +kernel
theorem dX12_joints_12 : decode cX12_joints 12 = .ok (.ifCond .eq 21, 3) := by decide +kernel
theorem dX12_joints_15 : decode cX12_joints 15 = .ok (.iload_n 3, 1) := by decide +kernel
theorem dX12_joints_16 : decode cX12_joints 16 = .ok (.i2l, 1) := by decide +kernel
theorem dX12_joints_17 : decode cX12_joints 17 = .ok (.lconst 1, 1) := by decide +kernel
theorem dX12_joints_18 : decode cX12_joints 18 = .ok (.ldc2_w 598, 3) := by decide +kernel
theorem dX12_joints_21 : decode cX12_joints 21 = .ok (.invokestatic 155, 3) := by decide +kernel
theorem dX12_joints_24 : decode cX12_joints 24 = .ok (.ifCond .eq 9, 3) := by decide +kernel
theorem dX12_joints_27 : decode cX12_joints 27 = .ok (.iload 4, 2) := by decide +kernel
theorem dX12_joints_29 : decode cX12_joints 29 = .ok (.iconst (-1), 1) := by decide +kernel
theorem dX12_joints_30 : decode cX12_joints 30 = .ok (.if_icmp .ge 6, 3) := by decide +kernel
theorem dX12_joints_33 : decode cX12_joints 33 = .ok (.bipush (-3), 2) := by decide +kernel
theorem dX12_joints_35 : decode cX12_joints 35 = .ok (.ireturn, 1) := by decide +kernel
theorem dX12_joints_36 : decode cX12_joints 36 = .ok (.iconst 0, 1) := by decide +kernel
theorem dX12_joints_37 : decode cX12_joints 37 = .ok (.istore 5, 2) := by decide +kernel
theorem dX12_joints_39 : decode cX12_joints 39 = .ok (.iload 5, 2) := by decide +kernel
theorem dX12_joints_41 : decode cX12_joints 41 = .ok (.iload_n 1, 1) := by decide +kernel
theorem dX12_joints_42 : decode cX12_joints 42 = .ok (.if_icmp .gt 22, 3) := by decide +kernel
theorem dX12_joints_45 : decode cX12_joints 45 = .ok (.aload_n 0, 1) := by decide +kernel
theorem dX12_joints_46 : decode cX12_joints 46 = .ok (.iload 5, 2) := by decide +kernel
theorem dX12_joints_48 : decode cX12_joints 48 = .ok (.iload_n 2, 1) := by decide +kernel
theorem dX12_joints_49 : decode cX12_joints 49 = .ok (.invokevirtual 511, 3) := by decide +kernel
theorem dX12_joints_52 : decode cX12_joints 52 = .ok (.ifCond .ne 6, 3) := by decide +kernel
theorem dX12_joints_55 : decode cX12_joints 55 = .ok (.bipush (-3), 2) := by decide +kernel
theorem dX12_joints_57 : decode cX12_joints 57 = .ok (.ireturn, 1) := by decide +kernel
theorem dX12_joints_58 : decode cX12_joints 58 = .ok (.iinc 5 1, 3) := by decide +kernel
theorem dX12_joints_61 : decode cX12_joints 61 = .ok (.goto (-22), 3) := by decide +kernel
theorem dX12_joints_64 : decode cX12_joints 64 = .ok (.aload_n 0, 1) := by decide +kernel
theorem dX12_joints_65 : decode cX12_joints 65 = .ok (.iconst 0, 1) := by decide +kernel
theorem dX12_joints_66 : decode cX12_joints 66 = .ok (.putfield 595, 3) := by decide +kernel
theorem dX12_joints_69 : decode cX12_joints 69 = .ok (.iconst 0, 1) := by decide +kernel
theorem dX12_joints_70 : decode cX12_joints 70 = .ok (.istore 5, 2) := by decide +kernel
theorem dX12_joints_72 : decode cX12_joints 72 = .ok (.iload 5, 2) := by decide +kernel
theorem dX12_joints_74 : decode cX12_joints 74 = .ok (.iload_n 1, 1) := by decide +kernel
theorem dX12_joints_75 : decode cX12_joints 75 = .ok (.if_icmp .gt 30, 3) := by decide +kernel
theorem dX12_joints_78 : decode cX12_joints 78 = .ok (.aload_n 0, 1) := by decide +kernel
theorem dX12_joints_79 : decode cX12_joints 79 = .ok (.aload_n 0, 1) := by decide +kernel
theorem dX12_joints_80 : decode cX12_joints 80 = .ok (.getfield 595, 3) := by decide +kernel
theorem dX12_joints_83 : decode cX12_joints 83 = .ok (.putfield 589, 3) := by decide +kernel
theorem dX12_joints_86 : decode cX12_joints 86 = .ok (.aload_n 0, 1) := by decide +kernel
theorem dX12_joints_87 : decode cX12_joints 87 = .ok (.iload 5, 2) := by decide +kernel
theorem dX12_joints_89 : decode cX12_joints 89 = .ok (.iload_n 3, 1) := by decide +kernel
theorem dX12_joints_90 : decode cX12_joints 90 = .ok (.invokevirtual 600, 3) := by decide +kernel
theorem dX12_joints_93 : decode cX12_joints 93 = .ok (.ifCond .ne 6, 3) := by decide +kernel
theorem dX12_joints_96 : decode cX12_joints 96 = .ok (.bipush (-2), 2) := by decide +kernel
theorem dX12_joints_98 : decode cX12_joints 98 = .ok (.ireturn, 1) := by decide +kernel
theorem dX12_joints_99 : decode cX12_joints 99 = .ok (.iinc 5 1, 3) := by decide +kernel
theorem dX12_joints_102 : decode cX12_joints 102 = .ok (.goto (-30), 3) := by decide +kernel
theorem dX12_joints_105 : decode cX12_joints 105 = .ok (.iconst 0, 1) := by decide +kernel
theorem dX12_joints_106 : decode cX12_joints 106 = .ok (.istore 5, 2) := by decide +kernel
theorem dX12_joints_108 : decode cX12_joints 108 = .ok (.iconst 0, 1) := by decide +kernel
theorem dX12_joints_109 : decode cX12_joints 109 = .ok (.istore 6, 2) := by decide +kernel
theorem dX12_joints_111 : decode cX12_joints 111 = .ok (.iload 6, 2) := by decide +kernel
theorem dX12_joints_113 : decode cX12_joints 113 = .ok (.aload_n 0, 1) := by decide +kernel
theorem dX12_joints_114 : decode cX12_joints 114 = .ok (.getfield 338, 3) := by decide +kernel
theorem dX12_joints_117 : decode cX12_joints 117 = .ok (.if_icmp .ge 38, 3) := by decide +kernel
theorem dX12_joints_120 : decode cX12_joints 120 = .ok (.aload_n 0, 1) := by decide +kernel
theorem dX12_joints_121 : decode cX12_joints 121 = .ok (.getfield 595, 3) := by decide +kernel
theorem dX12_joints_124 : decode cX12_joints 124 = .ok (.i2l, 1) := by decide +kernel
theorem dX12_joints_125 : decode cX12_joints 125 = .ok (.iload 6, 2) := by decide +kernel
theorem dX12_joints_127 : decode cX12_joints 127 = .ok (.invokestatic 356, 3) := by decide +kernel
theorem dX12_joints_130 : decode cX12_joints 130 = .ok (.ifCond .ne 6, 3) := by decide +kernel
theorem dX12_joints_133 : decode cX12_joints 133 = .ok (.goto 16, 3) := by decide +kernel
theorem dX12_joints_136 : decode cX12_joints 136 = .ok (.iload 5, 2) := by decide +kernel
theorem dX12_joints_138 : decode cX12_joints 138 = .ok (.iload 4, 2) := by decide +kernel
theorem dX12_joints_140 : decode cX12_joints 140 = .ok (.if_icmp .ne 6, 3) := by decide +kernel
theorem dX12_joints_143 : decode cX12_joints 143 = .ok (.iload 6, 2) := by decide +kernel
theorem dX12_joints_145 : decode cX12_joints 145 = .ok (.ireturn, 1) := by decide +kernel
theorem dX12_joints_146 : decode cX12_joints 146 = .ok (.iinc 5 1, 3) := by decide +kernel
theorem dX12_joints_149 : decode cX12_joints 149 = .ok (.iinc 6 1, 3) := by decide +kernel
theorem dX12_joints_152 : decode cX12_joints 152 = .ok (.goto (-41), 3) := by decide +kernel
theorem dX12_joints_155 : decode cX12_joints 155 = .ok (.iload 4, 2) := by decide +kernel
theorem dX12_joints_157 : decode cX12_joints 157 = .ok (.iconst (-1), 1) := by decide +kernel
theorem dX12_joints_158 : decode cX12_joints 158 = .ok (.if_icmp .ne 8, 3) := by decide +kernel
theorem dX12_joints_161 : decode cX12_joints 161 = .ok (.iload 5, 2) := by decide +kernel
theorem dX12_joints_163 : decode cX12_joints 163 = .ok (.goto 5, 3) := by decide +kernel
theorem dX12_joints_166 : decode cX12_joints 166 = .ok (.bipush (-3), 2) := by decide +kernel
theorem dX12_joints_168 : decode cX12_joints 168 = .ok (.ireturn, 1) := by decide +kernel
theorem dX12_lasts_0 : decode cX12_lasts 0 = .ok (.iload_n 1, 1) := by decide +kernel
theorem dX12_lasts_1 : decode cX12_lasts 1 = .ok (.i2l, 1) := by decide +kernel
theorem dX12_lasts_2 : decode cX12_lasts 2 = .ok (.lconst 1, 1) := by decide +kernel
theorem dX12_lasts_3 : decode cX12_lasts 3 = .ok (.ldc2_w 603, 3) := by decide +kernel
theorem dX12_lasts_6 : decode cX12_lasts 6 = .ok (.invokestatic 155, 3) := by decide +kernel
theorem dX12_lasts_9 : decode cX12_lasts 9 = .ok (.ifCond .eq 15, 3) := by decide +kernel
theorem dX12_lasts_12 : decode cX12_lasts 12 = .ok (.iload_n 2, 1) := by decide +kernel
theorem dX12_lasts_13 : decode cX12_lasts 13 = .ok (.i2l, 1) := by decide +kernel
theorem dX12_lasts_14 : decode cX12_lasts 14 = .ok (.lconst 0, 1) := by decide +kernel
theorem dX12_lasts_15 : decode cX12_lasts 15 = .ok (.ldc2_w 605, 3) := by decide +kernel
theorem dX12_lasts_18 : decode cX12_lasts 18 = .ok (.invokestatic 155, 3) := by decide +kernel
theorem dX12_lasts_21 : decode cX12_lasts 21 = .ok (.ifCond .ne 5, 3) := by decide +kernel
theorem dX12_lasts_24 : decode cX12_lasts 24 = .ok (.iconst (-1), 1) := by decide +kernel
theorem dX12_lasts_25 : decode cX12_lasts 25 = .ok (.ireturn, 1) := by decide +kernel
theorem dX12_lasts_26 : decode cX12_lasts 26 = .ok (.iload_n 1, 1) := by decide +kernel
theorem dX12_lasts_27 : decode cX12_lasts 27 = .ok (.istore_n 3, 1) := by decide +kernel
theorem dX12_lasts_28 : decode cX12_lasts 28 = .ok (.iconst 0, 1) := by decide +kernel
theorem dX12_lasts_29 : decode cX12_lasts 29 = .ok (.istore 4, 2) := by decide +kernel
theorem dX12_lasts_31 : decode cX12_lasts 31 = .ok (.iload 4, 2) := by decide +kernel
theorem dX12_lasts_33 : decode cX12_lasts 33 = .ok (.sipush 2000, 3) := by decide +kernel
theorem dX12_lasts_36 : decode cX12_lasts 36 = .ok (.if_icmp .ge 52, 3) := by decide +kernel
theorem dX12_lasts_39 : decode cX12_lasts 39 = .ok (.aload_n 0, 1) := by decide +kernel
theorem dX12_lasts_40 : decode cX12_lasts 40 = .ok (.invokevirtual 360, 3) := by decide +kernel
theorem dX12_lasts_43 : decode cX12_lasts 43 = .ok (.aload_n 0, 1) := by decide +kernel
theorem dX12_lasts_44 : decode cX12_lasts 44 = .ok (.iload 4, 2) := by decide +kernel
theorem dX12_lasts_46 : decode cX12_lasts 46 = .ok (.putfield 315, 3) := by decide +kernel
theorem dX12_lasts_49 : decode cX12_lasts 49 = .ok (.aload_n 0, 1) := by decide +kernel
theorem dX12_lasts_50 : decode cX12_lasts 50 = .ok (.iload_n 3, 1) := by decide +kernel
theorem dX12_lasts_51 : decode cX12_lasts 51 = .ok (.putfield 318, 3) := by decide +kernel
theorem dX12_lasts_54 : decode cX12_lasts 54 = .ok (.aload_n 0, 1) := by decide +kernel
theorem dX12_lasts_55 : decode cX12_lasts 55 = .ok (.iload_n 2, 1) := by decide +kernel
theorem dX12_lasts_56 : decode cX12_lasts 56 = .ok (.putfield 321, 3) := by decide +kernel
theorem dX12_lasts_59 : decode cX12_lasts 59 = .ok (.iload_n 3, 1) := by decide +kernel
theorem dX12_lasts_60 : decode cX12_lasts 60 = .ok (.aload_n 0, 1) := by decide +kernel
theorem dX12_lasts_61 : decode cX12_lasts 61 = .ok (.iconst 2, 1) := by decide +kernel
theorem dX12_lasts_62 : decode cX12_lasts 62 = .ok (.bipush 101, 2) := by decide +kernel
theorem dX12_lasts_64 : decode cX12_lasts 64 = .ok (.iconst 0, 1) := by decide +kernel
theorem dX12_lasts_65 : decode cX12_lasts 65 = .ok (.sipush 1000, 3) := by decide +kernel
theorem dX12_lasts_68 : decode cX12_lasts 68 = .ok (.invokevirtual 379, 3) := by decide +kernel
theorem dX12_lasts_71 : decode cX12_lasts 71 = .ok (.isub, 1) := by decide +kernel
theorem dX12_lasts_72 : decode cX12_lasts 72 = .ok (.istore_n 3, 1) := by decide +kernel
theorem dX12_lasts_73 : decode cX12_lasts 73 = .ok (.iload_n 3, 1) := by decide +kernel
theorem dX12_lasts_74 : decode cX12_lasts 74 = .ok (.ifCond .gt 8, 3) := by decide +kernel
theorem dX12_lasts_77 : decode cX12_lasts 77 = .ok (.iload 4, 2) := by decide +kernel
theorem dX12_lasts_79 : decode cX12_lasts 79 = .ok (.iconst 1, 1) := by decide +kernel
theorem dX12_lasts_80 : decode cX12_lasts 80 = .ok (.iadd, 1) := by decide +kernel
theorem dX12_lasts_81 : decode cX12_lasts 81 = .ok (.ireturn, 1) := by decide +kernel
theorem dX12_lasts_82 : decode cX12_lasts 82 = .ok (.iinc 4 1, 3) := by decide +kernel
theorem dX12_lasts_85 : decode cX12_lasts 85 = .ok (.goto (-54), 3) := by decide +kernel
theorem dX12_lasts_88 : decode cX12_lasts 88 = .ok (.bipush (-2), 2) := by decide +kernel
theorem dX12_lasts_90 : decode cX12_lasts 90 = .ok (.ireturn, 1) := by decide +kernel
theorem dX12_numberAt_0 : decode cX12_numberAt 0 = .ok (.iconst 0, 1) := by decide +kernel
theorem dX12_numberAt_1 : decode cX12_numberAt 1 = .ok (.istore_n 2, 1) := by decide +kernel
theorem dX12_numberAt_2 : decode cX12_numberAt 2 = .ok (.iconst 0, 1) := by decide +kernel
theorem dX12_numberAt_3 : decode cX12_numberAt 3 = .ok (.istore_n 3, 1) := by decide +kernel
theorem dX12_numberAt_4 : decode cX12_numberAt 4 = .ok (.iload_n 3, 1) := by decide +kernel
theorem dX12_numberAt_5 : decode cX12_numberAt 5 = .ok (.iconst 4, 1) := by decide +kernel
theorem dX12_numberAt_6 : decode cX12_numberAt 6 = .ok (.if_icmp .ge 29, 3) := by decide +kernel
theorem dX12_numberAt_9 : decode cX12_numberAt 9 = .ok (.iload_n 2, 1) := by decide +kernel
theorem dX12_numberAt_10 : decode cX12_numberAt 10 = .ok (.bipush 8, 2) := by decide +kernel
theorem dX12_numberAt_12 : decode cX12_numberAt 12 = .ok (.ishl, 1) := by decide +kernel
theorem dX12_numberAt_13 : decode cX12_numberAt 13 = .ok (.aload_n 0, 1) := by decide +kernel
theorem dX12_numberAt_14 : decode cX12_numberAt 14 = .ok (.getfield 7, 3) := by decide +kernel
theorem dX12_numberAt_17 : decode cX12_numberAt 17 = .ok (.iconst 4, 1) := by decide +kernel
theorem dX12_numberAt_18 : decode cX12_numberAt 18 = .ok (.iload_n 1, 1) := by decide +kernel
theorem dX12_numberAt_19 : decode cX12_numberAt 19 = .ok (.imul, 1) := by decide +kernel
theorem dX12_numberAt_20 : decode cX12_numberAt 20 = .ok (.iload_n 3, 1) := by decide +kernel
theorem dX12_numberAt_21 : decode cX12_numberAt 21 = .ok (.iadd, 1) := by decide +kernel
theorem dX12_numberAt_22 : decode cX12_numberAt 22 = .ok (.baload, 1) := by decide +kernel
theorem dX12_numberAt_23 : decode cX12_numberAt 23 = .ok (.sipush 255, 3) := by decide +kernel
theorem dX12_numberAt_26 : decode cX12_numberAt 26 = .ok (.iand, 1) := by decide +kernel
theorem dX12_numberAt_27 : decode cX12_numberAt 27 = .ok (.ior, 1) := by decide +kernel
theorem dX12_numberAt_28 : decode cX12_numberAt 28 = .ok (.istore_n 2, 1) := by decide +kernel
theorem dX12_numberAt_29 : decode cX12_numberAt 29 = .ok (.iinc 3 1, 3) := by decide +kernel
theorem dX12_numberAt_32 : decode cX12_numberAt 32 = .ok (.goto (-28), 3) := by decide +kernel
theorem dX12_numberAt_35 : decode cX12_numberAt 35 = .ok (.iload_n 2, 1) := by decide +kernel
theorem dX12_numberAt_36 : decode cX12_numberAt 36 = .ok (.ireturn, 1) := by decide +kernel
theorem dX12_check_0 : decode cX12_check 0 = .ok (.aload_n 0, 1) := by decide +kernel
theorem dX12_check_1 : decode cX12_check 1 = .ok (.iload_n 1, 1) := by decide +kernel
theorem dX12_check_2 : decode cX12_check 2 = .ok (.iload_n 2, 1) := by decide +kernel
theorem dX12_check_3 : decode cX12_check 3 = .ok (.invokevirtual 511, 3) := by decide +kernel
theorem dX12_check_6 : decode cX12_check 6 = .ok (.ifCond .eq 17, 3) := by decide +kernel
theorem dX12_check_9 : decode cX12_check 9 = .ok (.iload_n 3, 1) := by decide +kernel
theorem dX12_check_10 : decode cX12_check 10 = .ok (.ifCond .lt 13, 3) := by decide +kernel
theorem dX12_check_13 : decode cX12_check 13 = .ok (.iload_n 3, 1) := by decide +kernel
theorem dX12_check_14 : decode cX12_check 14 = .ok (.aload_n 0, 1) := by decide +kernel
theorem dX12_check_15 : decode cX12_check 15 = .ok (.getfield 162, 3) := by decide +kernel
theorem dX12_check_18 : decode cX12_check 18 = .ok (.iconst 4, 1) := by decide +kernel
theorem dX12_check_19 : decode cX12_check 19 = .ok (.idiv, 1) := by decide +kernel
theorem dX12_check_20 : decode cX12_check 20 = .ok (.if_icmp .le 6, 3) := by decide +kernel
theorem dX12_check_23 : decode cX12_check 23 = .ok (.bipush (-2), 2) := by decide +kernel
theorem dX12_check_25 : decode cX12_check 25 = .ok (.ireturn, 1) := by decide +kernel
theorem dX12_check_26 : decode cX12_check 26 = .ok (.aload_n 0, 1) := by decide +kernel
theorem dX12_check_27 : decode cX12_check 27 = .ok (.iconst 0, 1) := by decide +kernel
theorem dX12_check_28 : decode cX12_check 28 = .ok (.putfield 162, 3) := by decide +kernel
theorem dX12_check_31 : decode cX12_check 31 = .ok (.iconst 0, 1) := by decide +kernel
theorem dX12_check_32 : decode cX12_check 32 = .ok (.istore 4, 2) := by decide +kernel
theorem dX12_check_34 : decode cX12_check 34 = .ok (.iload 4, 2) := by decide +kernel
theorem dX12_check_36 : decode cX12_check 36 = .ok (.aload_n 0, 1) := by decide +kernel
theorem dX12_check_37 : decode cX12_check 37 = .ok (.getfield 338, 3) := by decide +kernel
theorem dX12_check_40 : decode cX12_check 40 = .ok (.if_icmp .ge 36, 3) := by decide +kernel
theorem dX12_check_43 : decode cX12_check 43 = .ok (.iload 4, 2) := by decide +kernel
theorem dX12_check_45 : decode cX12_check 45 = .ok (.iload_n 3, 1) := by decide +kernel
theorem dX12_check_46 : decode cX12_check 46 = .ok (.if_icmp .ne 5, 3) := by decide +kernel
theorem dX12_check_49 : decode cX12_check 49 = .ok (.iload_n 3, 1) := by decide +kernel
theorem dX12_check_50 : decode cX12_check 50 = .ok (.ireturn, 1) := by decide +kernel
theorem dX12_check_51 : decode cX12_check 51 = .ok (.aload_n 0, 1) := by decide +kernel
theorem dX12_check_52 : decode cX12_check 52 = .ok (.iload 4, 2) := by decide +kernel
theorem dX12_check_54 : decode cX12_check 54 = .ok (.invokevirtual 607, 3) := by decide +kernel
theorem dX12_check_57 : decode cX12_check 57 = .ok (.aload_n 0, 1) := by decide +kernel
theorem dX12_check_58 : decode cX12_check 58 = .ok (.iload_n 1, 1) := by decide +kernel
theorem dX12_check_59 : decode cX12_check 59 = .ok (.iload 4, 2) := by decide +kernel
theorem dX12_check_61 : decode cX12_check 61 = .ok (.invokevirtual 516, 3) := by decide +kernel
theorem dX12_check_64 : decode cX12_check 64 = .ok (.if_icmp .eq 6, 3) := by decide +kernel
theorem dX12_check_67 : decode cX12_check 67 = .ok (.iload 4, 2) := by decide +kernel
theorem dX12_check_69 : decode cX12_check 69 = .ok (.ireturn, 1) := by decide +kernel
theorem dX12_check_70 : decode cX12_check 70 = .ok (.iinc 4 1, 3) := by decide +kernel
theorem dX12_check_73 : decode cX12_check 73 = .ok (.goto (-39), 3) := by decide +kernel
theorem dX12_check_76 : decode cX12_check 76 = .ok (.iload_n 3, 1) := by decide +kernel
theorem dX12_check_77 : decode cX12_check 77 = .ok (.aload_n 0, 1) := by decide +kernel
theorem dX12_check_78 : decode cX12_check 78 = .ok (.getfield 338, 3) := by decide +kernel
theorem dX12_check_81 : decode cX12_check 81 = .ok (.if_icmp .ne 7, 3) := by decide +kernel
theorem dX12_check_84 : decode cX12_check 84 = .ok (.iconst (-1), 1) := by decide +kernel
theorem dX12_check_85 : decode cX12_check 85 = .ok (.goto 7, 3) := by decide +kernel
theorem dX12_check_88 : decode cX12_check 88 = .ok (.aload_n 0, 1) := by decide +kernel
theorem dX12_check_89 : decode cX12_check 89 = .ok (.getfield 338, 3) := by decide +kernel
theorem dX12_check_92 : decode cX12_check 92 = .ok (.ireturn, 1) := by decide +kernel
theorem dX12_marksOf_0 : decode cX12_marksOf 0 = .ok (.iconst 0, 1) := by decide +kernel
theorem dX12_marksOf_1 : decode cX12_marksOf 1 = .ok (.istore_n 2, 1) := by decide +kernel
theorem dX12_marksOf_2 : decode cX12_marksOf 2 = .ok (.iconst 0, 1) := by decide +kernel
theorem dX12_marksOf_3 : decode cX12_marksOf 3 = .ok (.istore_n 3, 1) := by decide +kernel
theorem dX12_marksOf_4 : decode cX12_marksOf 4 = .ok (.iload_n 3, 1) := by decide +kernel
theorem dX12_marksOf_5 : decode cX12_marksOf 5 = .ok (.sipush 384, 3) := by decide +kernel
theorem dX12_marksOf_8 : decode cX12_marksOf 8 = .ok (.if_icmp .ge 32, 3) := by decide +kernel
theorem dX12_marksOf_11 : decode cX12_marksOf 11 = .ok (.iload_n 2, 1) := by decide +kernel
theorem dX12_marksOf_12 : decode cX12_marksOf 12 = .ok (.aload_n 0, 1) := by decide +kernel
theorem dX12_marksOf_13 : decode cX12_marksOf 13 = .ok (.getfield 85, 3) := by decide +kernel
theorem dX12_marksOf_16 : decode cX12_marksOf 16 = .ok (.sipush 384, 3) := by decide +kernel
theorem dX12_marksOf_19 : decode cX12_marksOf 19 = .ok (.iload_n 1, 1) := by decide +kernel
theorem dX12_marksOf_20 : decode cX12_marksOf 20 = .ok (.imul, 1) := by decide +kernel
theorem dX12_marksOf_21 : decode cX12_marksOf 21 = .ok (.iload_n 3, 1) := by decide +kernel
theorem dX12_marksOf_22 : decode cX12_marksOf 22 = .ok (.iadd, 1) := by decide +kernel
theorem dX12_marksOf_23 : decode cX12_marksOf 23 = .ok (.baload, 1) := by decide +kernel
theorem dX12_marksOf_24 : decode cX12_marksOf 24 = .ok (.ifCond .eq 7, 3) := by decide +kernel
theorem dX12_marksOf_27 : decode cX12_marksOf 27 = .ok (.iconst 1, 1) := by decide +kernel
theorem dX12_marksOf_28 : decode cX12_marksOf 28 = .ok (.goto 4, 3) := by decide +kernel
theorem dX12_marksOf_31 : decode cX12_marksOf 31 = .ok (.iconst 0, 1) := by decide +kernel
theorem dX12_marksOf_32 : decode cX12_marksOf 32 = .ok (.iadd, 1) := by decide +kernel
theorem dX12_marksOf_33 : decode cX12_marksOf 33 = .ok (.istore_n 2, 1) := by decide +kernel
theorem dX12_marksOf_34 : decode cX12_marksOf 34 = .ok (.iinc 3 1, 3) := by decide +kernel
theorem dX12_marksOf_37 : decode cX12_marksOf 37 = .ok (.goto (-33), 3) := by decide +kernel
theorem dX12_marksOf_40 : decode cX12_marksOf 40 = .ok (.iload_n 2, 1) := by decide +kernel
theorem dX12_marksOf_41 : decode cX12_marksOf 41 = .ok (.ireturn, 1) := by decide +kernel
theorem dX12_count_0 : decode cX12_count 0 = .ok (.aload_n 0, 1) := by decide +kernel
theorem dX12_count_1 : decode cX12_count 1 = .ok (.iload_n 1, 1) := by decide +kernel
theorem dX12_count_2 : decode cX12_count 2 = .ok (.bipush 10, 2) := by decide +kernel
theorem dX12_count_4 : decode cX12_count 4 = .ok (.isub, 1) := by decide +kernel
theorem dX12_count_5 : decode cX12_count 5 = .ok (.invokevirtual 415, 3) := by decide +kernel
theorem dX12_count_8 : decode cX12_count 8 = .ok (.ifCond .eq 12, 3) := by decide +kernel
theorem dX12_count_11 : decode cX12_count 11 = .ok (.aload_n 0, 1) := by decide +kernel
theorem dX12_count_12 : decode cX12_count 12 = .ok (.iload_n 1, 1) := by decide +kernel
theorem dX12_count_13 : decode cX12_count 13 = .ok (.bipush 10, 2) := by decide +kernel
theorem dX12_count_15 : decode cX12_count 15 = .ok (.isub, 1) := by decide +kernel
theorem dX12_count_16 : decode cX12_count 16 = .ok (.invokevirtual 430, 3) := by decide +kernel
theorem dX12_count_19 : decode cX12_count 19 = .ok (.ireturn, 1) := by decide +kernel
theorem dX12_count_20 : decode cX12_count 20 = .ok (.iload_n 1, 1) := by decide +kernel
theorem dX12_count_21 : decode cX12_count 21 = .ok (.tableswitch 111 0 9 #[55, 60, 65, 70, 75, 80, 87, 94, 101, 106], 55) := by decide +kernel
theorem dX12_count_76 : decode cX12_count 76 = .ok (.aload_n 0, 1) := by decide +kernel
theorem dX12_count_77 : decode cX12_count 77 = .ok (.getfield 338, 3) := by decide +kernel
theorem dX12_count_80 : decode cX12_count 80 = .ok (.ireturn, 1) := by decide +kernel
theorem dX12_count_81 : decode cX12_count 81 = .ok (.aload_n 0, 1) := by decide +kernel
theorem dX12_count_82 : decode cX12_count 82 = .ok (.getfield 341, 3) := by decide +kernel
theorem dX12_count_85 : decode cX12_count 85 = .ok (.ireturn, 1) := by decide +kernel
theorem dX12_count_86 : decode cX12_count 86 = .ok (.aload_n 0, 1) := by decide +kernel
theorem dX12_count_87 : decode cX12_count 87 = .ok (.invokevirtual 399, 3) := by decide +kernel
theorem dX12_count_90 : decode cX12_count 90 = .ok (.ireturn, 1) := by decide +kernel
theorem dX12_count_91 : decode cX12_count 91 = .ok (.aload_n 0, 1) := by decide +kernel
theorem dX12_count_92 : decode cX12_count 92 = .ok (.getfield 17, 3) := by decide +kernel
theorem dX12_count_95 : decode cX12_count 95 = .ok (.ireturn, 1) := by decide +kernel
theorem dX12_count_96 : decode cX12_count 96 = .ok (.aload_n 0, 1) := by decide +kernel
theorem dX12_count_97 : decode cX12_count 97 = .ok (.getfield 162, 3) := by decide +kernel
theorem dX12_count_100 : decode cX12_count 100 = .ok (.ireturn, 1) := by decide +kernel
theorem dX12_count_101 : decode cX12_count 101 = .ok (.aload_n 0, 1) := by decide +kernel
theorem dX12_count_102 : decode cX12_count 102 = .ok (.getfield 20, 3) := by decide +kernel
theorem dX12_count_105 : decode cX12_count 105 = .ok (.iconst 0, 1) := by decide +kernel
theorem dX12_count_106 : decode cX12_count 106 = .ok (.iaload, 1) := by decide +kernel
theorem dX12_count_107 : decode cX12_count 107 = .ok (.ireturn, 1) := by decide +kernel
theorem dX12_count_108 : decode cX12_count 108 = .ok (.aload_n 0, 1) := by decide +kernel
theorem dX12_count_109 : decode cX12_count 109 = .ok (.getfield 20, 3) := by decide +kernel
theorem dX12_count_112 : decode cX12_count 112 = .ok (.iconst 1, 1) := by decide +kernel
theorem dX12_count_113 : decode cX12_count 113 = .ok (.iaload, 1) := by decide +kernel
theorem dX12_count_114 : decode cX12_count 114 = .ok (.ireturn, 1) := by decide +kernel
theorem dX12_count_115 : decode cX12_count 115 = .ok (.aload_n 0, 1) := by decide +kernel
theorem dX12_count_116 : decode cX12_count 116 = .ok (.getfield 20, 3) := by decide +kernel
theorem dX12_count_119 : decode cX12_count 119 = .ok (.iconst 2, 1) := by decide +kernel
theorem dX12_count_120 : decode cX12_count 120 = .ok (.iaload, 1) := by decide +kernel
theorem dX12_count_121 : decode cX12_count 121 = .ok (.ireturn, 1) := by decide +kernel
theorem dX12_count_122 : decode cX12_count 122 = .ok (.aload_n 0, 1) := by decide +kernel
theorem dX12_count_123 : decode cX12_count 123 = .ok (.getfield 369, 3) := by decide +kernel
theorem dX12_count_126 : decode cX12_count 126 = .ok (.ireturn, 1) := by decide +kernel
theorem dX12_count_127 : decode cX12_count 127 = .ok (.aload_n 0, 1) := by decide +kernel
theorem dX12_count_128 : decode cX12_count 128 = .ok (.invokevirtual 557, 3) := by decide +kernel
theorem dX12_count_131 : decode cX12_count 131 = .ok (.ireturn, 1) := by decide +kernel
theorem dX12_count_132 : decode cX12_count 132 = .ok (.iconst (-1), 1) := by decide +kernel
theorem dX12_count_133 : decode cX12_count 133 = .ok (.ireturn, 1) := by decide +kernel
theorem dJ11_isValidCodePoint_9a6ad_0 : decode cJ11_isValidCodePoint_9a6ad 0 = .ok (.iload_n 0, 1) := by decide +kernel
theorem dJ11_isValidCodePoint_9a6ad_1 : decode cJ11_isValidCodePoint_9a6ad 1 = .ok (.bipush 16, 2) := by decide +kernel
theorem dJ11_isValidCodePoint_9a6ad_3 : decode cJ11_isValidCodePoint_9a6ad 3 = .ok (.iushr, 1) := by decide +kernel
theorem dJ11_isValidCodePoint_9a6ad_4 : decode cJ11_isValidCodePoint_9a6ad 4 = .ok (.istore_n 1, 1) := by decide +kernel
theorem dJ11_isValidCodePoint_9a6ad_5 : decode cJ11_isValidCodePoint_9a6ad 5 = .ok (.iload_n 1, 1) := by decide +kernel
theorem dJ11_isValidCodePoint_9a6ad_6 : decode cJ11_isValidCodePoint_9a6ad 6 = .ok (.bipush 17, 2) := by decide +kernel
theorem dJ11_isValidCodePoint_9a6ad_8 : decode cJ11_isValidCodePoint_9a6ad 8 = .ok (.if_icmp .ge 7, 3) := by decide +kernel
theorem dJ11_isValidCodePoint_9a6ad_11 : decode cJ11_isValidCodePoint_9a6ad 11 = .ok (.iconst 1, 1) := by decide +kernel
theorem dJ11_isValidCodePoint_9a6ad_12 : decode cJ11_isValidCodePoint_9a6ad 12 = .ok (.goto 4, 3) := by decide +kernel
theorem dJ11_isValidCodePoint_9a6ad_15 : decode cJ11_isValidCodePoint_9a6ad 15 = .ok (.iconst 0, 1) := by decide +kernel
theorem dJ11_isValidCodePoint_9a6ad_16 : decode cJ11_isValidCodePoint_9a6ad 16 = .ok (.ireturn, 1) := by decide +kernel
theorem dJ11_highSurrogate_5068e_0 : decode cJ11_highSurrogate_5068e 0 = .ok (.iload_n 0, 1) := by decide +kernel
theorem dJ11_highSurrogate_5068e_1 : decode cJ11_highSurrogate_5068e 1 = .ok (.bipush 10, 2) := by decide +kernel
theorem dJ11_highSurrogate_5068e_3 : decode cJ11_highSurrogate_5068e 3 = .ok (.iushr, 1) := by decide +kernel
theorem dJ11_highSurrogate_5068e_4 : decode cJ11_highSurrogate_5068e 4 = .ok (.ldc 110, 2) := by decide +kernel
theorem dJ11_highSurrogate_5068e_6 : decode cJ11_highSurrogate_5068e 6 = .ok (.iadd, 1) := by decide +kernel
theorem dJ11_highSurrogate_5068e_7 : decode cJ11_highSurrogate_5068e 7 = .ok (.i2c, 1) := by decide +kernel
theorem dJ11_highSurrogate_5068e_8 : decode cJ11_highSurrogate_5068e 8 = .ok (.ireturn, 1) := by decide +kernel
theorem dJ11_lowSurrogate_5068e_0 : decode cJ11_lowSurrogate_5068e 0 = .ok (.iload_n 0, 1) := by decide +kernel
theorem dJ11_lowSurrogate_5068e_1 : decode cJ11_lowSurrogate_5068e 1 = .ok (.sipush 1023, 3) := by decide +kernel
theorem dJ11_lowSurrogate_5068e_4 : decode cJ11_lowSurrogate_5068e 4 = .ok (.iand, 1) := by decide +kernel
theorem dJ11_lowSurrogate_5068e_5 : decode cJ11_lowSurrogate_5068e 5 = .ok (.ldc 76, 2) := by decide +kernel
theorem dJ11_lowSurrogate_5068e_7 : decode cJ11_lowSurrogate_5068e 7 = .ok (.iadd, 1) := by decide +kernel
theorem dJ11_lowSurrogate_5068e_8 : decode cJ11_lowSurrogate_5068e 8 = .ok (.i2c, 1) := by decide +kernel
theorem dJ11_lowSurrogate_5068e_9 : decode cJ11_lowSurrogate_5068e 9 = .ok (.ireturn, 1) := by decide +kernel
theorem dJ9_floorDiv_7cf53_0 : decode cJ9_floorDiv_7cf53 0 = .ok (.iload_n 0, 1) := by decide +kernel
theorem dJ9_floorDiv_7cf53_1 : decode cJ9_floorDiv_7cf53 1 = .ok (.iload_n 1, 1) := by decide +kernel
theorem dJ9_floorDiv_7cf53_2 : decode cJ9_floorDiv_7cf53 2 = .ok (.idiv, 1) := by decide +kernel
theorem dJ9_floorDiv_7cf53_3 : decode cJ9_floorDiv_7cf53 3 = .ok (.istore_n 2, 1) := by decide +kernel
theorem dJ9_floorDiv_7cf53_4 : decode cJ9_floorDiv_7cf53 4 = .ok (.iload_n 0, 1) := by decide +kernel
theorem dJ9_floorDiv_7cf53_5 : decode cJ9_floorDiv_7cf53 5 = .ok (.iload_n 1, 1) := by decide +kernel
theorem dJ9_floorDiv_7cf53_6 : decode cJ9_floorDiv_7cf53 6 = .ok (.ixor, 1) := by decide +kernel
theorem dJ9_floorDiv_7cf53_7 : decode cJ9_floorDiv_7cf53 7 = .ok (.ifCond .ge 14, 3) := by decide +kernel
theorem dJ9_floorDiv_7cf53_10 : decode cJ9_floorDiv_7cf53 10 = .ok (.iload_n 2, 1) := by decide +kernel
theorem dJ9_floorDiv_7cf53_11 : decode cJ9_floorDiv_7cf53 11 = .ok (.iload_n 1, 1) := by decide +kernel
theorem dJ9_floorDiv_7cf53_12 : decode cJ9_floorDiv_7cf53 12 = .ok (.imul, 1) := by decide +kernel
theorem dJ9_floorDiv_7cf53_13 : decode cJ9_floorDiv_7cf53 13 = .ok (.iload_n 0, 1) := by decide +kernel
theorem dJ9_floorDiv_7cf53_14 : decode cJ9_floorDiv_7cf53 14 = .ok (.if_icmp .eq 7, 3) := by decide +kernel
theorem dJ9_floorDiv_7cf53_17 : decode cJ9_floorDiv_7cf53 17 = .ok (.iload_n 2, 1) := by decide +kernel
theorem dJ9_floorDiv_7cf53_18 : decode cJ9_floorDiv_7cf53 18 = .ok (.iconst 1, 1) := by decide +kernel
theorem dJ9_floorDiv_7cf53_19 : decode cJ9_floorDiv_7cf53 19 = .ok (.isub, 1) := by decide +kernel
theorem dJ9_floorDiv_7cf53_20 : decode cJ9_floorDiv_7cf53 20 = .ok (.ireturn, 1) := by decide +kernel
theorem dJ9_floorDiv_7cf53_21 : decode cJ9_floorDiv_7cf53 21 = .ok (.iload_n 2, 1) := by decide +kernel
theorem dJ9_floorDiv_7cf53_22 : decode cJ9_floorDiv_7cf53 22 = .ok (.ireturn, 1) := by decide +kernel
theorem dJ0_length_8abf5_0 : decode cJ0_length_8abf5 0 = .ok (.aload_n 0, 1) := by decide +kernel
theorem dJ0_length_8abf5_1 : decode cJ0_length_8abf5 1 = .ok (.getfield 9, 3) := by decide +kernel
theorem dJ0_length_8abf5_4 : decode cJ0_length_8abf5 4 = .ok (.arraylength, 1) := by decide +kernel
theorem dJ0_length_8abf5_5 : decode cJ0_length_8abf5 5 = .ok (.aload_n 0, 1) := by decide +kernel
theorem dJ0_length_8abf5_6 : decode cJ0_length_8abf5 6 = .ok (.invokevirtual 335, 3) := by decide +kernel
theorem dJ0_length_8abf5_9 : decode cJ0_length_8abf5 9 = .ok (.ishr, 1) := by decide +kernel
theorem dJ0_length_8abf5_10 : decode cJ0_length_8abf5 10 = .ok (.ireturn, 1) := by decide +kernel
theorem dJ0_indexOf_0f7a4_0 : decode cJ0_indexOf_0f7a4 0 = .ok (.aload_n 0, 1) := by decide +kernel
theorem dJ0_indexOf_0f7a4_1 : decode cJ0_indexOf_0f7a4 1 = .ok (.iload_n 1, 1) := by decide +kernel
theorem dJ0_indexOf_0f7a4_2 : decode cJ0_indexOf_0f7a4 2 = .ok (.iconst 0, 1) := by decide +kernel
theorem dJ0_indexOf_0f7a4_3 : decode cJ0_indexOf_0f7a4 3 = .ok (.invokevirtual 633, 3) := by decide +kernel
theorem dJ0_indexOf_0f7a4_6 : decode cJ0_indexOf_0f7a4 6 = .ok (.ireturn, 1) := by decide +kernel
theorem dJ0_indexOf_7cf53_0 : decode cJ0_indexOf_7cf53 0 = .ok (.aload_n 0, 1) := by decide +kernel
theorem dJ0_indexOf_7cf53_1 : decode cJ0_indexOf_7cf53 1 = .ok (.invokevirtual 492, 3) := by decide +kernel
theorem dJ0_indexOf_7cf53_4 : decode cJ0_indexOf_7cf53 4 = .ok (.ifCond .eq 19, 3) := by decide +kernel
theorem dJ0_indexOf_7cf53_7 : decode cJ0_indexOf_7cf53 7 = .ok (.aload_n 0, 1) := by decide +kernel
theorem dJ0_indexOf_7cf53_8 : decode cJ0_indexOf_7cf53 8 = .ok (.getfield 9, 3) := by decide +kernel
theorem dJ0_indexOf_7cf53_11 : decode cJ0_indexOf_7cf53 11 = .ok (.iload_n 1, 1) := by decide +kernel
theorem dJ0_indexOf_7cf53_12 : decode cJ0_indexOf_7cf53 12 = .ok (.iload_n 2, 1) := by decide +kernel
theorem dJ0_indexOf_7cf53_13 : decode cJ0_indexOf_7cf53 13 = .ok (.aload_n 0, 1) := by decide +kernel
theorem dJ0_indexOf_7cf53_14 : decode cJ0_indexOf_7cf53 14 = .ok (.invokevirtual 505, 3) := by decide +kernel
theorem dJ0_indexOf_7cf53_17 : decode cJ0_indexOf_7cf53 17 = .ok (.invokestatic 637, 3) := by decide +kernel
theorem dJ0_indexOf_7cf53_20 : decode cJ0_indexOf_7cf53 20 = .ok (.goto 16, 3) := by decide +kernel
theorem dJ0_indexOf_7cf53_23 : decode cJ0_indexOf_7cf53 23 = .ok (.aload_n 0, 1) := by decide +kernel
theorem dJ0_indexOf_7cf53_24 : decode cJ0_indexOf_7cf53 24 = .ok (.getfield 9, 3) := by decide +kernel
theorem dJ0_indexOf_7cf53_27 : decode cJ0_indexOf_7cf53 27 = .ok (.iload_n 1, 1) := by decide +kernel
theorem dJ0_indexOf_7cf53_28 : decode cJ0_indexOf_7cf53 28 = .ok (.iload_n 2, 1) := by decide +kernel
theorem dJ0_indexOf_7cf53_29 : decode cJ0_indexOf_7cf53 29 = .ok (.aload_n 0, 1) := by decide +kernel
theorem dJ0_indexOf_7cf53_30 : decode cJ0_indexOf_7cf53 30 = .ok (.invokevirtual 505, 3) := by decide +kernel
theorem dJ0_indexOf_7cf53_33 : decode cJ0_indexOf_7cf53 33 = .ok (.invokestatic 640, 3) := by decide +kernel
theorem dJ0_indexOf_7cf53_36 : decode cJ0_indexOf_7cf53 36 = .ok (.ireturn, 1) := by decide +kernel
theorem dJ0_coder_7d493_0 : decode cJ0_coder_7d493 0 = .ok (.getstatic 38, 3) := by decide +kernel
theorem dJ0_coder_7d493_3 : decode cJ0_coder_7d493 3 = .ok (.ifCond .eq 10, 3) := by decide +kernel
theorem dJ0_coder_7d493_6 : decode cJ0_coder_7d493 6 = .ok (.aload_n 0, 1) := by decide +kernel
theorem dJ0_coder_7d493_7 : decode cJ0_coder_7d493 7 = .ok (.getfield 15, 3) := by decide +kernel
theorem dJ0_coder_7d493_10 : decode cJ0_coder_7d493 10 = .ok (.goto 4, 3) := by decide +kernel
theorem dJ0_coder_7d493_13 : decode cJ0_coder_7d493 13 = .ok (.iconst 1, 1) := by decide +kernel
theorem dJ0_coder_7d493_14 : decode cJ0_coder_7d493 14 = .ok (.ireturn, 1) := by decide +kernel
theorem dJ0_isLatin1_aae02_0 : decode cJ0_isLatin1_aae02 0 = .ok (.getstatic 38, 3) := by decide +kernel
theorem dJ0_isLatin1_aae02_3 : decode cJ0_isLatin1_aae02 3 = .ok (.ifCond .eq 14, 3) := by decide +kernel
theorem dJ0_isLatin1_aae02_6 : decode cJ0_isLatin1_aae02 6 = .ok (.aload_n 0, 1) := by decide +kernel
theorem dJ0_isLatin1_aae02_7 : decode cJ0_isLatin1_aae02 7 = .ok (.getfield 15, 3) := by decide +kernel
theorem dJ0_isLatin1_aae02_10 : decode cJ0_isLatin1_aae02 10 = .ok (.ifCond .ne 7, 3) := by decide +kernel
theorem dJ0_isLatin1_aae02_13 : decode cJ0_isLatin1_aae02 13 = .ok (.iconst 1, 1) := by decide +kernel
theorem dJ0_isLatin1_aae02_14 : decode cJ0_isLatin1_aae02 14 = .ok (.goto 4, 3) := by decide +kernel
theorem dJ0_isLatin1_aae02_17 : decode cJ0_isLatin1_aae02 17 = .ok (.iconst 0, 1) := by decide +kernel
theorem dJ0_isLatin1_aae02_18 : decode cJ0_isLatin1_aae02 18 = .ok (.ireturn, 1) := by decide +kernel
theorem dJ0_checkBoundsBeginEnd_23922_0 : decode cJ0_checkBoundsBeginEnd_23922 0 = .ok (.iload_n 0, 1) := by decide +kernel
theorem dJ0_checkBoundsBeginEnd_23922_1 : decode cJ0_checkBoundsBeginEnd_23922 1 = .ok (.iload_n 1, 1) := by decide +kernel
theorem dJ0_checkBoundsBeginEnd_23922_2 : decode cJ0_checkBoundsBeginEnd_23922 2 = .ok (.iload_n 2, 1) := by decide +kernel
theorem dJ0_checkBoundsBeginEnd_23922_3 : decode cJ0_checkBoundsBeginEnd_23922 3 = .ok (.getstatic 1053, 3) := by decide +kernel
theorem dJ0_checkBoundsBeginEnd_23922_6 : decode cJ0_checkBoundsBeginEnd_23922 6 = .ok (.invokestatic 1062, 3) := by decide +kernel
theorem dJ0_checkBoundsBeginEnd_23922_9 : decode cJ0_checkBoundsBeginEnd_23922 9 = .ok (.pop, 1) := by decide +kernel
theorem dJ0_checkBoundsBeginEnd_23922_10 : decode cJ0_checkBoundsBeginEnd_23922 10 = .ok (.return_, 1) := by decide +kernel
theorem dJ1_canEncode_9a6ad_0 : decode cJ1_canEncode_9a6ad 0 = .ok (.iload_n 0, 1) := by decide +kernel
theorem dJ1_canEncode_9a6ad_1 : decode cJ1_canEncode_9a6ad 1 = .ok (.ifCond .lt 14, 3) := by decide +kernel
theorem dJ1_canEncode_9a6ad_4 : decode cJ1_canEncode_9a6ad 4 = .ok (.iload_n 0, 1) := by decide +kernel
theorem dJ1_canEncode_9a6ad_5 : decode cJ1_canEncode_9a6ad 5 = .ok (.sipush 255, 3) := by decide +kernel
theorem dJ1_canEncode_9a6ad_8 : decode cJ1_canEncode_9a6ad 8 = .ok (.if_icmp .gt 7, 3) := by decide +kernel
theorem dJ1_canEncode_9a6ad_11 : decode cJ1_canEncode_9a6ad 11 = .ok (.iconst 1, 1) := by decide +kernel
theorem dJ1_canEncode_9a6ad_12 : decode cJ1_canEncode_9a6ad 12 = .ok (.goto 4, 3) := by decide +kernel
theorem dJ1_canEncode_9a6ad_15 : decode cJ1_canEncode_9a6ad 15 = .ok (.iconst 0, 1) := by decide +kernel
theorem dJ1_canEncode_9a6ad_16 : decode cJ1_canEncode_9a6ad 16 = .ok (.ireturn, 1) := by decide +kernel
theorem dJ1_indexOf_4cfef_0 : decode cJ1_indexOf_4cfef 0 = .ok (.iload_n 1, 1) := by decide +kernel
theorem dJ1_indexOf_4cfef_1 : decode cJ1_indexOf_4cfef 1 = .ok (.invokestatic 88, 3) := by decide +kernel
theorem dJ1_indexOf_4cfef_4 : decode cJ1_indexOf_4cfef 4 = .ok (.ifCond .ne 5, 3) := by decide +kernel
theorem dJ1_indexOf_4cfef_7 : decode cJ1_indexOf_4cfef 7 = .ok (.iconst (-1), 1) := by decide +kernel
theorem dJ1_indexOf_4cfef_8 : decode cJ1_indexOf_4cfef 8 = .ok (.ireturn, 1) := by decide +kernel
theorem dJ1_indexOf_4cfef_9 : decode cJ1_indexOf_4cfef 9 = .ok (.iload_n 2, 1) := by decide +kernel
theorem dJ1_indexOf_4cfef_10 : decode cJ1_indexOf_4cfef 10 = .ok (.iconst 0, 1) := by decide +kernel
theorem dJ1_indexOf_4cfef_11 : decode cJ1_indexOf_4cfef 11 = .ok (.invokestatic 92, 3) := by decide +kernel
theorem dJ1_indexOf_4cfef_14 : decode cJ1_indexOf_4cfef 14 = .ok (.istore_n 2, 1) := by decide +kernel
theorem dJ1_indexOf_4cfef_15 : decode cJ1_indexOf_4cfef 15 = .ok (.iload_n 3, 1) := by decide +kernel
theorem dJ1_indexOf_4cfef_16 : decode cJ1_indexOf_4cfef 16 = .ok (.aload_n 0, 1) := by decide +kernel
theorem dJ1_indexOf_4cfef_17 : decode cJ1_indexOf_4cfef 17 = .ok (.arraylength, 1) := by decide +kernel
theorem dJ1_indexOf_4cfef_18 : decode cJ1_indexOf_4cfef 18 = .ok (.invokestatic 38, 3) := by decide +kernel
theorem dJ1_indexOf_4cfef_21 : decode cJ1_indexOf_4cfef 21 = .ok (.istore_n 3, 1) := by decide +kernel
theorem dJ1_indexOf_4cfef_22 : decode cJ1_indexOf_4cfef 22 = .ok (.iload_n 2, 1) := by decide +kernel
theorem dJ1_indexOf_4cfef_23 : decode cJ1_indexOf_4cfef 23 = .ok (.iload_n 3, 1) := by decide +kernel
theorem dJ1_indexOf_4cfef_24 : decode cJ1_indexOf_4cfef 24 = .ok (.if_icmp .lt 5, 3) := by decide +kernel
theorem dJ1_indexOf_4cfef_27 : decode cJ1_indexOf_4cfef 27 = .ok (.iconst (-1), 1) := by decide +kernel
theorem dJ1_indexOf_4cfef_28 : decode cJ1_indexOf_4cfef 28 = .ok (.ireturn, 1) := by decide +kernel
theorem dJ1_indexOf_4cfef_29 : decode cJ1_indexOf_4cfef 29 = .ok (.aload_n 0, 1) := by decide +kernel
theorem dJ1_indexOf_4cfef_30 : decode cJ1_indexOf_4cfef 30 = .ok (.iload_n 1, 1) := by decide +kernel
theorem dJ1_indexOf_4cfef_31 : decode cJ1_indexOf_4cfef 31 = .ok (.iload_n 2, 1) := by decide +kernel
theorem dJ1_indexOf_4cfef_32 : decode cJ1_indexOf_4cfef 32 = .ok (.iload_n 3, 1) := by decide +kernel
theorem dJ1_indexOf_4cfef_33 : decode cJ1_indexOf_4cfef 33 = .ok (.invokestatic 95, 3) := by decide +kernel
theorem dJ1_indexOf_4cfef_36 : decode cJ1_indexOf_4cfef 36 = .ok (.ireturn, 1) := by decide +kernel
theorem dJ1_indexOfChar_4cfef_0 : decode cJ1_indexOfChar_4cfef 0 = .ok (.iload_n 1, 1) := by decide +kernel
theorem dJ1_indexOfChar_4cfef_1 : decode cJ1_indexOfChar_4cfef 1 = .ok (.i2b, 1) := by decide +kernel
theorem dJ1_indexOfChar_4cfef_2 : decode cJ1_indexOfChar_4cfef 2 = .ok (.istore 4, 2) := by decide +kernel
theorem dJ1_indexOfChar_4cfef_4 : decode cJ1_indexOfChar_4cfef 4 = .ok (.iload_n 2, 1) := by decide +kernel
theorem dJ1_indexOfChar_4cfef_5 : decode cJ1_indexOfChar_4cfef 5 = .ok (.istore 5, 2) := by decide +kernel
theorem dJ1_indexOfChar_4cfef_7 : decode cJ1_indexOfChar_4cfef 7 = .ok (.iload 5, 2) := by decide +kernel
theorem dJ1_indexOfChar_4cfef_9 : decode cJ1_indexOfChar_4cfef 9 = .ok (.iload_n 3, 1) := by decide +kernel
theorem dJ1_indexOfChar_4cfef_10 : decode cJ1_indexOfChar_4cfef 10 = .ok (.if_icmp .ge 21, 3) := by decide +kernel
theorem dJ1_indexOfChar_4cfef_13 : decode cJ1_indexOfChar_4cfef 13 = .ok (.aload_n 0, 1) := by decide +kernel
theorem dJ1_indexOfChar_4cfef_14 : decode cJ1_indexOfChar_4cfef 14 = .ok (.iload 5, 2) := by decide +kernel
theorem dJ1_indexOfChar_4cfef_16 : decode cJ1_indexOfChar_4cfef 16 = .ok (.baload, 1) := by decide +kernel
theorem dJ1_indexOfChar_4cfef_17 : decode cJ1_indexOfChar_4cfef 17 = .ok (.iload 4, 2) := by decide +kernel
theorem dJ1_indexOfChar_4cfef_19 : decode cJ1_indexOfChar_4cfef 19 = .ok (.if_icmp .ne 6, 3) := by decide +kernel
theorem dJ1_indexOfChar_4cfef_22 : decode cJ1_indexOfChar_4cfef 22 = .ok (.iload 5, 2) := by decide +kernel
theorem dJ1_indexOfChar_4cfef_24 : decode cJ1_indexOfChar_4cfef 24 = .ok (.ireturn, 1) := by decide +kernel
theorem dJ1_indexOfChar_4cfef_25 : decode cJ1_indexOfChar_4cfef 25 = .ok (.iinc 5 1, 3) := by decide +kernel
theorem dJ1_indexOfChar_4cfef_28 : decode cJ1_indexOfChar_4cfef 28 = .ok (.goto (-21), 3) := by decide +kernel
theorem dJ1_indexOfChar_4cfef_31 : decode cJ1_indexOfChar_4cfef 31 = .ok (.iconst (-1), 1) := by decide +kernel
theorem dJ1_indexOfChar_4cfef_32 : decode cJ1_indexOfChar_4cfef 32 = .ok (.ireturn, 1) := by decide +kernel
theorem dJ2_getChar_3b067_0 : decode cJ2_getChar_3b067 0 = .ok (.getstatic 44, 3) := by decide +kernel
theorem dJ2_getChar_3b067_3 : decode cJ2_getChar_3b067 3 = .ok (.ifCond .ne 25, 3) := by decide +kernel
theorem dJ2_getChar_3b067_6 : decode cJ2_getChar_3b067 6 = .ok (.iload_n 1, 1) := by decide +kernel
theorem dJ2_getChar_3b067_7 : decode cJ2_getChar_3b067 7 = .ok (.ifCond .lt 11, 3) := by decide +kernel
theorem dJ2_getChar_3b067_10 : decode cJ2_getChar_3b067 10 = .ok (.iload_n 1, 1) := by decide +kernel
theorem dJ2_getChar_3b067_11 : decode cJ2_getChar_3b067 11 = .ok (.aload_n 0, 1) := by decide +kernel
theorem dJ2_getChar_3b067_12 : decode cJ2_getChar_3b067 12 = .ok (.invokestatic 48, 3) := by decide +kernel
theorem dJ2_getChar_3b067_15 : decode cJ2_getChar_3b067 15 = .ok (.if_icmp .lt 13, 3) := by decide +kernel
theorem dJ2_getChar_3b067_18 : decode cJ2_getChar_3b067 18 = .ok (.new 52, 3) := by decide +kernel
theorem dJ2_getChar_3b067_21 : decode cJ2_getChar_3b067 21 = .ok (.dup, 1) := by decide +kernel
theorem dJ2_getChar_3b067_22 : decode cJ2_getChar_3b067 22 = .ok (.ldc 54, 2) := by decide +kernel
theorem dJ2_getChar_3b067_24 : decode cJ2_getChar_3b067 24 = .ok (.invokespecial 56, 3) := by decide +kernel
theorem dJ2_getChar_3b067_27 : decode cJ2_getChar_3b067 27 = .ok (.athrow, 1) := by decide +kernel
theorem dJ2_getChar_3b067_28 : decode cJ2_getChar_3b067 28 = .ok (.iload_n 1, 1) := by decide +kernel
theorem dJ2_getChar_3b067_29 : decode cJ2_getChar_3b067 29 = .ok (.iconst 1, 1) := by decide +kernel
theorem dJ2_getChar_3b067_30 : decode cJ2_getChar_3b067 30 = .ok (.ishl, 1) := by decide +kernel
theorem dJ2_getChar_3b067_31 : decode cJ2_getChar_3b067 31 = .ok (.istore_n 1, 1) := by decide +kernel
theorem dJ2_getChar_3b067_32 : decode cJ2_getChar_3b067 32 = .ok (.aload_n 0, 1) := by decide +kernel
theorem dJ2_getChar_3b067_33 : decode cJ2_getChar_3b067 33 = .ok (.iload_n 1, 1) := by decide +kernel
theorem dJ2_getChar_3b067_34 : decode cJ2_getChar_3b067 34 = .ok (.iinc 1 1, 3) := by decide +kernel
theorem dJ2_getChar_3b067_37 : decode cJ2_getChar_3b067 37 = .ok (.baload, 1) := by decide +kernel
theorem dJ2_getChar_3b067_38 : decode cJ2_getChar_3b067 38 = .ok (.sipush 255, 3) := by decide +kernel
theorem dJ2_getChar_3b067_41 : decode cJ2_getChar_3b067 41 = .ok (.iand, 1) := by decide +kernel
theorem dJ2_getChar_3b067_42 : decode cJ2_getChar_3b067 42 = .ok (.getstatic 59, 3) := by decide +kernel
theorem dJ2_getChar_3b067_45 : decode cJ2_getChar_3b067 45 = .ok (.ishl, 1) := by decide +kernel
theorem dJ2_getChar_3b067_46 : decode cJ2_getChar_3b067 46 = .ok (.aload_n 0, 1) := by decide +kernel
theorem dJ2_getChar_3b067_47 : decode cJ2_getChar_3b067 47 = .ok (.iload_n 1, 1) := by decide +kernel
theorem dJ2_getChar_3b067_48 : decode cJ2_getChar_3b067 48 = .ok (.baload, 1) := by decide +kernel
theorem dJ2_getChar_3b067_49 : decode cJ2_getChar_3b067 49 = .ok (.sipush 255, 3) := by decide +kernel
theorem dJ2_getChar_3b067_52 : decode cJ2_getChar_3b067 52 = .ok (.iand, 1) := by decide +kernel
theorem dJ2_getChar_3b067_53 : decode cJ2_getChar_3b067 53 = .ok (.getstatic 63, 3) := by decide +kernel
theorem dJ2_getChar_3b067_56 : decode cJ2_getChar_3b067 56 = .ok (.ishl, 1) := by decide +kernel
theorem dJ2_getChar_3b067_57 : decode cJ2_getChar_3b067 57 = .ok (.ior, 1) := by decide +kernel
theorem dJ2_getChar_3b067_58 : decode cJ2_getChar_3b067 58 = .ok (.i2c, 1) := by decide +kernel
theorem dJ2_getChar_3b067_59 : decode cJ2_getChar_3b067 59 = .ok (.ireturn, 1) := by decide +kernel
theorem dJ2_length_9d52b_0 : decode cJ2_length_9d52b 0 = .ok (.aload_n 0, 1) := by decide +kernel
theorem dJ2_length_9d52b_1 : decode cJ2_length_9d52b 1 = .ok (.arraylength, 1) := by decide +kernel
theorem dJ2_length_9d52b_2 : decode cJ2_length_9d52b 2 = .ok (.iconst 1, 1) := by decide +kernel
theorem dJ2_length_9d52b_3 : decode cJ2_length_9d52b 3 = .ok (.ishr, 1) := by decide +kernel
theorem dJ2_length_9d52b_4 : decode cJ2_length_9d52b 4 = .ok (.ireturn, 1) := by decide +kernel
theorem dJ2_indexOf_4cfef_0 : decode cJ2_indexOf_4cfef 0 = .ok (.iload_n 2, 1) := by decide +kernel
theorem dJ2_indexOf_4cfef_1 : decode cJ2_indexOf_4cfef 1 = .ok (.iconst 0, 1) := by decide +kernel
theorem dJ2_indexOf_4cfef_2 : decode cJ2_indexOf_4cfef 2 = .ok (.invokestatic 224, 3) := by decide +kernel
theorem dJ2_indexOf_4cfef_5 : decode cJ2_indexOf_4cfef 5 = .ok (.istore_n 2, 1) := by decide +kernel
theorem dJ2_indexOf_4cfef_6 : decode cJ2_indexOf_4cfef 6 = .ok (.iload_n 3, 1) := by decide +kernel
theorem dJ2_indexOf_4cfef_7 : decode cJ2_indexOf_4cfef 7 = .ok (.aload_n 0, 1) := by decide +kernel
theorem dJ2_indexOf_4cfef_8 : decode cJ2_indexOf_4cfef 8 = .ok (.arraylength, 1) := by decide +kernel
theorem dJ2_indexOf_4cfef_9 : decode cJ2_indexOf_4cfef 9 = .ok (.iconst 1, 1) := by decide +kernel
theorem dJ2_indexOf_4cfef_10 : decode cJ2_indexOf_4cfef 10 = .ok (.ishr, 1) := by decide +kernel
theorem dJ2_indexOf_4cfef_11 : decode cJ2_indexOf_4cfef 11 = .ok (.invokestatic 183, 3) := by decide +kernel
theorem dJ2_indexOf_4cfef_14 : decode cJ2_indexOf_4cfef 14 = .ok (.istore_n 3, 1) := by decide +kernel
theorem dJ2_indexOf_4cfef_15 : decode cJ2_indexOf_4cfef 15 = .ok (.iload_n 2, 1) := by decide +kernel
theorem dJ2_indexOf_4cfef_16 : decode cJ2_indexOf_4cfef 16 = .ok (.iload_n 3, 1) := by decide +kernel
theorem dJ2_indexOf_4cfef_17 : decode cJ2_indexOf_4cfef 17 = .ok (.if_icmp .lt 5, 3) := by decide +kernel
theorem dJ2_indexOf_4cfef_20 : decode cJ2_indexOf_4cfef 20 = .ok (.iconst (-1), 1) := by decide +kernel
theorem dJ2_indexOf_4cfef_21 : decode cJ2_indexOf_4cfef 21 = .ok (.ireturn, 1) := by decide +kernel
theorem dJ2_indexOf_4cfef_22 : decode cJ2_indexOf_4cfef 22 = .ok (.iload_n 1, 1) := by decide +kernel
theorem dJ2_indexOf_4cfef_23 : decode cJ2_indexOf_4cfef 23 = .ok (.ldc 227, 2) := by decide +kernel
theorem dJ2_indexOf_4cfef_25 : decode cJ2_indexOf_4cfef 25 = .ok (.if_icmp .ge 11, 3) := by decide +kernel
theorem dJ2_indexOf_4cfef_28 : decode cJ2_indexOf_4cfef 28 = .ok (.aload_n 0, 1) := by decide +kernel
theorem dJ2_indexOf_4cfef_29 : decode cJ2_indexOf_4cfef 29 = .ok (.iload_n 1, 1) := by decide +kernel
theorem dJ2_indexOf_4cfef_30 : decode cJ2_indexOf_4cfef 30 = .ok (.iload_n 2, 1) := by decide +kernel
theorem dJ2_indexOf_4cfef_31 : decode cJ2_indexOf_4cfef 31 = .ok (.iload_n 3, 1) := by decide +kernel
theorem dJ2_indexOf_4cfef_32 : decode cJ2_indexOf_4cfef 32 = .ok (.invokestatic 228, 3) := by decide +kernel
theorem dJ2_indexOf_4cfef_35 : decode cJ2_indexOf_4cfef 35 = .ok (.ireturn, 1) := by decide +kernel
theorem dJ2_indexOf_4cfef_36 : decode cJ2_indexOf_4cfef 36 = .ok (.aload_n 0, 1) := by decide +kernel
theorem dJ2_indexOf_4cfef_37 : decode cJ2_indexOf_4cfef 37 = .ok (.iload_n 1, 1) := by decide +kernel
theorem dJ2_indexOf_4cfef_38 : decode cJ2_indexOf_4cfef 38 = .ok (.iload_n 2, 1) := by decide +kernel
theorem dJ2_indexOf_4cfef_39 : decode cJ2_indexOf_4cfef 39 = .ok (.iload_n 3, 1) := by decide +kernel
theorem dJ2_indexOf_4cfef_40 : decode cJ2_indexOf_4cfef 40 = .ok (.invokestatic 232, 3) := by decide +kernel
theorem dJ2_indexOf_4cfef_43 : decode cJ2_indexOf_4cfef 43 = .ok (.ireturn, 1) := by decide +kernel
theorem dJ2_indexOfChar_4cfef_0 : decode cJ2_indexOfChar_4cfef 0 = .ok (.iload_n 2, 1) := by decide +kernel
theorem dJ2_indexOfChar_4cfef_1 : decode cJ2_indexOfChar_4cfef 1 = .ok (.iload_n 3, 1) := by decide +kernel
theorem dJ2_indexOfChar_4cfef_2 : decode cJ2_indexOfChar_4cfef 2 = .ok (.aload_n 0, 1) := by decide +kernel
theorem dJ2_indexOfChar_4cfef_3 : decode cJ2_indexOfChar_4cfef 3 = .ok (.invokestatic 96, 3) := by decide +kernel
theorem dJ2_indexOfChar_4cfef_6 : decode cJ2_indexOfChar_4cfef 6 = .ok (.aload_n 0, 1) := by decide +kernel
theorem dJ2_indexOfChar_4cfef_7 : decode cJ2_indexOfChar_4cfef 7 = .ok (.iload_n 1, 1) := by decide +kernel
theorem dJ2_indexOfChar_4cfef_8 : decode cJ2_indexOfChar_4cfef 8 = .ok (.iload_n 2, 1) := by decide +kernel
theorem dJ2_indexOfChar_4cfef_9 : decode cJ2_indexOfChar_4cfef 9 = .ok (.iload_n 3, 1) := by decide +kernel
theorem dJ2_indexOfChar_4cfef_10 : decode cJ2_indexOfChar_4cfef 10 = .ok (.invokestatic 244, 3) := by decide +kernel
theorem dJ2_indexOfChar_4cfef_13 : decode cJ2_indexOfChar_4cfef 13 = .ok (.ireturn, 1) := by decide +kernel
theorem dJ2_indexOfCharUnsafe_4cfef_0 : decode cJ2_indexOfCharUnsafe_4cfef 0 = .ok (.iload_n 2, 1) := by decide +kernel
theorem dJ2_indexOfCharUnsafe_4cfef_1 : decode cJ2_indexOfCharUnsafe_4cfef 1 = .ok (.istore 4, 2) := by decide +kernel
theorem dJ2_indexOfCharUnsafe_4cfef_3 : decode cJ2_indexOfCharUnsafe_4cfef 3 = .ok (.iload 4, 2) := by decide +kernel
theorem dJ2_indexOfCharUnsafe_4cfef_5 : decode cJ2_indexOfCharUnsafe_4cfef 5 = .ok (.iload_n 3, 1) := by decide +kernel
theorem dJ2_indexOfCharUnsafe_4cfef_6 : decode cJ2_indexOfCharUnsafe_4cfef 6 = .ok (.if_icmp .ge 22, 3) := by decide +kernel
theorem dJ2_indexOfCharUnsafe_4cfef_9 : decode cJ2_indexOfCharUnsafe_4cfef 9 = .ok (.aload_n 0, 1) := by decide +kernel
theorem dJ2_indexOfCharUnsafe_4cfef_10 : decode cJ2_indexOfCharUnsafe_4cfef 10 = .ok (.iload 4, 2) := by decide +kernel
theorem dJ2_indexOfCharUnsafe_4cfef_12 : decode cJ2_indexOfCharUnsafe_4cfef 12 = .ok (.invokestatic 71, 3) := by decide +kernel
theorem dJ2_indexOfCharUnsafe_4cfef_15 : decode cJ2_indexOfCharUnsafe_4cfef 15 = .ok (.iload_n 1, 1) := by decide +kernel
theorem dJ2_indexOfCharUnsafe_4cfef_16 : decode cJ2_indexOfCharUnsafe_4cfef 16 = .ok (.if_icmp .ne 6, 3) := by decide +kernel
theorem dJ2_indexOfCharUnsafe_4cfef_19 : decode cJ2_indexOfCharUnsafe_4cfef 19 = .ok (.iload 4, 2) := by decide +kernel
theorem dJ2_indexOfCharUnsafe_4cfef_21 : decode cJ2_indexOfCharUnsafe_4cfef 21 = .ok (.ireturn, 1) := by decide +kernel
theorem dJ2_indexOfCharUnsafe_4cfef_22 : decode cJ2_indexOfCharUnsafe_4cfef 22 = .ok (.iinc 4 1, 3) := by decide +kernel
theorem dJ2_indexOfCharUnsafe_4cfef_25 : decode cJ2_indexOfCharUnsafe_4cfef 25 = .ok (.goto (-22), 3) := by decide +kernel
theorem dJ2_indexOfCharUnsafe_4cfef_28 : decode cJ2_indexOfCharUnsafe_4cfef 28 = .ok (.iconst (-1), 1) := by decide +kernel
theorem dJ2_indexOfCharUnsafe_4cfef_29 : decode cJ2_indexOfCharUnsafe_4cfef 29 = .ok (.ireturn, 1) := by decide +kernel
theorem dJ2_indexOfSupplementary_4cfef_0 : decode cJ2_indexOfSupplementary_4cfef 0 = .ok (.iload_n 1, 1) := by decide +kernel
theorem dJ2_indexOfSupplementary_4cfef_1 : decode cJ2_indexOfSupplementary_4cfef 1 = .ok (.invokestatic 164, 3) := by decide +kernel
theorem dJ2_indexOfSupplementary_4cfef_4 : decode cJ2_indexOfSupplementary_4cfef 4 = .ok (.ifCond .eq 65, 3) := by decide +kernel
theorem dJ2_indexOfSupplementary_4cfef_7 : decode cJ2_indexOfSupplementary_4cfef 7 = .ok (.iload_n 1, 1) := by decide +kernel
theorem dJ2_indexOfSupplementary_4cfef_8 : decode cJ2_indexOfSupplementary_4cfef 8 = .ok (.invokestatic 157, 3) := by decide +kernel
theorem dJ2_indexOfSupplementary_4cfef_11 : decode cJ2_indexOfSupplementary_4cfef 11 = .ok (.istore 4, 2) := by decide +kernel
theorem dJ2_indexOfSupplementary_4cfef_13 : decode cJ2_indexOfSupplementary_4cfef 13 = .ok (.iload_n 1, 1) := by decide +kernel
theorem dJ2_indexOfSupplementary_4cfef_14 : decode cJ2_indexOfSupplementary_4cfef 14 = .ok (.invokestatic 161, 3) := by decide +kernel
theorem dJ2_indexOfSupplementary_4cfef_17 : decode cJ2_indexOfSupplementary_4cfef 17 = .ok (.istore 5, 2) := by decide +kernel
theorem dJ2_indexOfSupplementary_4cfef_19 : decode cJ2_indexOfSupplementary_4cfef 19 = .ok (.iload_n 2, 1) := by decide +kernel
theorem dJ2_indexOfSupplementary_4cfef_20 : decode cJ2_indexOfSupplementary_4cfef 20 = .ok (.iload_n 3, 1) := by decide +kernel
theorem dJ2_indexOfSupplementary_4cfef_21 : decode cJ2_indexOfSupplementary_4cfef 21 = .ok (.aload_n 0, 1) := by decide +kernel
theorem dJ2_indexOfSupplementary_4cfef_22 : decode cJ2_indexOfSupplementary_4cfef 22 = .ok (.invokestatic 96, 3) := by decide +kernel
theorem dJ2_indexOfSupplementary_4cfef_25 : decode cJ2_indexOfSupplementary_4cfef 25 = .ok (.iload_n 2, 1) := by decide +kernel
theorem dJ2_indexOfSupplementary_4cfef_26 : decode cJ2_indexOfSupplementary_4cfef 26 = .ok (.istore 6, 2) := by decide +kernel
theorem dJ2_indexOfSupplementary_4cfef_28 : decode cJ2_indexOfSupplementary_4cfef 28 = .ok (.iload 6, 2) := by decide +kernel
theorem dJ2_indexOfSupplementary_4cfef_30 : decode cJ2_indexOfSupplementary_4cfef 30 = .ok (.iload_n 3, 1) := by decide +kernel
theorem dJ2_indexOfSupplementary_4cfef_31 : decode cJ2_indexOfSupplementary_4cfef 31 = .ok (.iconst 1, 1) := by decide +kernel
theorem dJ2_indexOfSupplementary_4cfef_32 : decode cJ2_indexOfSupplementary_4cfef 32 = .ok (.isub, 1) := by decide +kernel
theorem dJ2_indexOfSupplementary_4cfef_33 : decode cJ2_indexOfSupplementary_4cfef 33 = .ok (.if_icmp .ge 36, 3) := by decide +kernel
theorem dJ2_indexOfSupplementary_4cfef_36 : decode cJ2_indexOfSupplementary_4cfef 36 = .ok (.aload_n 0, 1) := by decide +kernel
theorem dJ2_indexOfSupplementary_4cfef_37 : decode cJ2_indexOfSupplementary_4cfef 37 = .ok (.iload 6, 2) := by decide +kernel
theorem dJ2_indexOfSupplementary_4cfef_39 : decode cJ2_indexOfSupplementary_4cfef 39 = .ok (.invokestatic 71, 3) := by decide +kernel
theorem dJ2_indexOfSupplementary_4cfef_42 : decode cJ2_indexOfSupplementary_4cfef 42 = .ok (.iload 4, 2) := by decide +kernel
theorem dJ2_indexOfSupplementary_4cfef_44 : decode cJ2_indexOfSupplementary_4cfef 44 = .ok (.if_icmp .ne 19, 3) := by decide +kernel
theorem dJ2_indexOfSupplementary_4cfef_47 : decode cJ2_indexOfSupplementary_4cfef 47 = .ok (.aload_n 0, 1) := by decide +kernel
theorem dJ2_indexOfSupplementary_4cfef_48 : decode cJ2_indexOfSupplementary_4cfef 48 = .ok (.iload 6, 2) := by decide +kernel
theorem dJ2_indexOfSupplementary_4cfef_50 : decode cJ2_indexOfSupplementary_4cfef 50 = .ok (.iconst 1, 1) := by decide +kernel
theorem dJ2_indexOfSupplementary_4cfef_51 : decode cJ2_indexOfSupplementary_4cfef 51 = .ok (.iadd, 1) := by decide +kernel
theorem dJ2_indexOfSupplementary_4cfef_52 : decode cJ2_indexOfSupplementary_4cfef 52 = .ok (.invokestatic 71, 3) := by decide +kernel
theorem dJ2_indexOfSupplementary_4cfef_55 : decode cJ2_indexOfSupplementary_4cfef 55 = .ok (.iload 5, 2) := by decide +kernel
theorem dJ2_indexOfSupplementary_4cfef_57 : decode cJ2_indexOfSupplementary_4cfef 57 = .ok (.if_icmp .ne 6, 3) := by decide +kernel
theorem dJ2_indexOfSupplementary_4cfef_60 : decode cJ2_indexOfSupplementary_4cfef 60 = .ok (.iload 6, 2) := by decide +kernel
theorem dJ2_indexOfSupplementary_4cfef_62 : decode cJ2_indexOfSupplementary_4cfef 62 = .ok (.ireturn, 1) := by decide +kernel
theorem dJ2_indexOfSupplementary_4cfef_63 : decode cJ2_indexOfSupplementary_4cfef 63 = .ok (.iinc 6 1, 3) := by decide +kernel
theorem dJ2_indexOfSupplementary_4cfef_66 : decode cJ2_indexOfSupplementary_4cfef 66 = .ok (.goto (-38), 3) := by decide +kernel
theorem dJ2_indexOfSupplementary_4cfef_69 : decode cJ2_indexOfSupplementary_4cfef 69 = .ok (.iconst (-1), 1) := by decide +kernel
theorem dJ2_indexOfSupplementary_4cfef_70 : decode cJ2_indexOfSupplementary_4cfef 70 = .ok (.ireturn, 1) := by decide +kernel
theorem dJ2_checkBoundsBeginEnd_d044e_0 : decode cJ2_checkBoundsBeginEnd_d044e 0 = .ok (.iload_n 0, 1) := by decide +kernel
theorem dJ2_checkBoundsBeginEnd_d044e_1 : decode cJ2_checkBoundsBeginEnd_d044e 1 = .ok (.iload_n 1, 1) := by decide +kernel
theorem dJ2_checkBoundsBeginEnd_d044e_2 : decode cJ2_checkBoundsBeginEnd_d044e 2 = .ok (.aload_n 2, 1) := by decide +kernel
theorem dJ2_checkBoundsBeginEnd_d044e_3 : decode cJ2_checkBoundsBeginEnd_d044e 3 = .ok (.invokestatic 48, 3) := by decide +kernel
theorem dJ2_checkBoundsBeginEnd_d044e_6 : decode cJ2_checkBoundsBeginEnd_d044e 6 = .ok (.invokestatic 241, 3) := by decide +kernel
theorem dJ2_checkBoundsBeginEnd_d044e_9 : decode cJ2_checkBoundsBeginEnd_d044e 9 = .ok (.return_, 1) := by decide +kernel
theorem dJ7_fill_d0a16_0 : decode cJ7_fill_d0a16 0 = .ok (.iconst 0, 1) := by decide +kernel
theorem dJ7_fill_d0a16_1 : decode cJ7_fill_d0a16 1 = .ok (.istore_n 3, 1) := by decide +kernel
theorem dJ7_fill_d0a16_2 : decode cJ7_fill_d0a16 2 = .ok (.aload_n 0, 1) := by decide +kernel
theorem dJ7_fill_d0a16_3 : decode cJ7_fill_d0a16 3 = .ok (.arraylength, 1) := by decide +kernel
theorem dJ7_fill_d0a16_4 : decode cJ7_fill_d0a16 4 = .ok (.istore 4, 2) := by decide +kernel
theorem dJ7_fill_d0a16_6 : decode cJ7_fill_d0a16 6 = .ok (.iload_n 3, 1) := by decide +kernel
theorem dJ7_fill_d0a16_7 : decode cJ7_fill_d0a16 7 = .ok (.iload 4, 2) := by decide +kernel
theorem dJ7_fill_d0a16_9 : decode cJ7_fill_d0a16 9 = .ok (.if_icmp .ge 13, 3) := by decide +kernel
theorem dJ7_fill_d0a16_12 : decode cJ7_fill_d0a16 12 = .ok (.aload_n 0, 1) := by decide +kernel
theorem dJ7_fill_d0a16_13 : decode cJ7_fill_d0a16 13 = .ok (.iload_n 3, 1) := by decide +kernel
theorem dJ7_fill_d0a16_14 : decode cJ7_fill_d0a16 14 = .ok (.lload_n 1, 1) := by decide +kernel
theorem dJ7_fill_d0a16_15 : decode cJ7_fill_d0a16 15 = .ok (.lastore, 1) := by decide +kernel
theorem dJ7_fill_d0a16_16 : decode cJ7_fill_d0a16 16 = .ok (.iinc 3 1, 3) := by decide +kernel
theorem dJ7_fill_d0a16_19 : decode cJ7_fill_d0a16 19 = .ok (.goto (-13), 3) := by decide +kernel
theorem dJ7_fill_d0a16_22 : decode cJ7_fill_d0a16 22 = .ok (.return_, 1) := by decide +kernel
theorem dJ7_fill_53178_0 : decode cJ7_fill_53178 0 = .ok (.iconst 0, 1) := by decide +kernel
theorem dJ7_fill_53178_1 : decode cJ7_fill_53178 1 = .ok (.istore_n 2, 1) := by decide +kernel
theorem dJ7_fill_53178_2 : decode cJ7_fill_53178 2 = .ok (.aload_n 0, 1) := by decide +kernel
theorem dJ7_fill_53178_3 : decode cJ7_fill_53178 3 = .ok (.arraylength, 1) := by decide +kernel
theorem dJ7_fill_53178_4 : decode cJ7_fill_53178 4 = .ok (.istore_n 3, 1) := by decide +kernel
theorem dJ7_fill_53178_5 : decode cJ7_fill_53178 5 = .ok (.iload_n 2, 1) := by decide +kernel
theorem dJ7_fill_53178_6 : decode cJ7_fill_53178 6 = .ok (.iload_n 3, 1) := by decide +kernel
theorem dJ7_fill_53178_7 : decode cJ7_fill_53178 7 = .ok (.if_icmp .ge 13, 3) := by decide +kernel
theorem dJ7_fill_53178_10 : decode cJ7_fill_53178 10 = .ok (.aload_n 0, 1) := by decide +kernel
theorem dJ7_fill_53178_11 : decode cJ7_fill_53178 11 = .ok (.iload_n 2, 1) := by decide +kernel
theorem dJ7_fill_53178_12 : decode cJ7_fill_53178 12 = .ok (.iload_n 1, 1) := by decide +kernel
theorem dJ7_fill_53178_13 : decode cJ7_fill_53178 13 = .ok (.iastore, 1) := by decide +kernel
theorem dJ7_fill_53178_14 : decode cJ7_fill_53178 14 = .ok (.iinc 2 1, 3) := by decide +kernel
theorem dJ7_fill_53178_17 : decode cJ7_fill_53178 17 = .ok (.goto (-12), 3) := by decide +kernel
theorem dJ7_fill_53178_20 : decode cJ7_fill_53178 20 = .ok (.return_, 1) := by decide +kernel
theorem dJ3_checkFromToIndex_8c36e_0 : decode cJ3_checkFromToIndex_8c36e 0 = .ok (.iload_n 0, 1) := by decide +kernel
theorem dJ3_checkFromToIndex_8c36e_1 : decode cJ3_checkFromToIndex_8c36e 1 = .ok (.ifCond .lt 13, 3) := by decide +kernel
theorem dJ3_checkFromToIndex_8c36e_4 : decode cJ3_checkFromToIndex_8c36e 4 = .ok (.iload_n 0, 1) := by decide +kernel
theorem dJ3_checkFromToIndex_8c36e_5 : decode cJ3_checkFromToIndex_8c36e 5 = .ok (.iload_n 1, 1) := by decide +kernel
theorem dJ3_checkFromToIndex_8c36e_6 : decode cJ3_checkFromToIndex_8c36e 6 = .ok (.if_icmp .gt 8, 3) := by decide +kernel
theorem dJ3_checkFromToIndex_8c36e_9 : decode cJ3_checkFromToIndex_8c36e 9 = .ok (.iload_n 1, 1) := by decide +kernel
theorem dJ3_checkFromToIndex_8c36e_10 : decode cJ3_checkFromToIndex_8c36e 10 = .ok (.iload_n 2, 1) := by decide +kernel
theorem dJ3_checkFromToIndex_8c36e_11 : decode cJ3_checkFromToIndex_8c36e 11 = .ok (.if_icmp .le 11, 3) := by decide +kernel
theorem dJ3_checkFromToIndex_8c36e_14 : decode cJ3_checkFromToIndex_8c36e 14 = .ok (.aload_n 3, 1) := by decide +kernel
theorem dJ3_checkFromToIndex_8c36e_15 : decode cJ3_checkFromToIndex_8c36e 15 = .ok (.iload_n 0, 1) := by decide +kernel
theorem dJ3_checkFromToIndex_8c36e_16 : decode cJ3_checkFromToIndex_8c36e 16 = .ok (.iload_n 1, 1) := by decide +kernel
theorem dJ3_checkFromToIndex_8c36e_17 : decode cJ3_checkFromToIndex_8c36e 17 = .ok (.iload_n 2, 1) := by decide +kernel
theorem dJ3_checkFromToIndex_8c36e_18 : decode cJ3_checkFromToIndex_8c36e 18 = .ok (.invokestatic 99, 3) := by decide +kernel
theorem dJ3_checkFromToIndex_8c36e_21 : decode cJ3_checkFromToIndex_8c36e 21 = .ok (.athrow, 1) := by decide +kernel
theorem dJ3_checkFromToIndex_8c36e_22 : decode cJ3_checkFromToIndex_8c36e 22 = .ok (.iload_n 0, 1) := by decide +kernel
theorem dJ3_checkFromToIndex_8c36e_23 : decode cJ3_checkFromToIndex_8c36e 23 = .ok (.ireturn, 1) := by decide +kernel
