theorem dX5_usual_68 : decode cX5_usual 68 = .ok (.iaload, 1) := by decide +kernel
theorem dX5_usual_69 : decode cX5_usual 69 = .ok (.if_icmp .le 5, 3) := by decide +kernel
theorem dX5_usual_72 : decode cX5_usual 72 = .ok (.iload_n 2, 1) := by decide +kernel
theorem dX5_usual_73 : decode cX5_usual 73 = .ok (.istore_n 1, 1) := by decide +kernel
theorem dX5_usual_74 : decode cX5_usual 74 = .ok (.iinc 2 1, 3) := by decide +kernel
theorem dX5_usual_77 : decode cX5_usual 77 = .ok (.goto (-26), 3) := by decide +kernel
theorem dX5_usual_80 : decode cX5_usual 80 = .ok (.iload_n 1, 1) := by decide +kernel
theorem dX5_usual_81 : decode cX5_usual 81 = .ok (.ireturn, 1) := by decide +kernel
theorem dX5_ways_0 : decode cX5_ways 0 = .ok (.aload_n 0, 1) := by decide +kernel
theorem dX5_ways_1 : decode cX5_ways 1 = .ok (.getfield 28, 3) := by decide +kernel
theorem dX5_ways_4 : decode cX5_ways 4 = .ok (.aload_n 0, 1) := by decide +kernel
theorem dX5_ways_5 : decode cX5_ways 5 = .ok (.getfield 35, 3) := by decide +kernel
theorem dX5_ways_8 : decode cX5_ways 8 = .ok (.invokestatic 70, 3) := by decide +kernel
theorem dX5_ways_11 : decode cX5_ways 11 = .ok (.lreturn, 1) := by decide +kernel
theorem dX5_waysAsOdd_0 : decode cX5_waysAsOdd 0 = .ok (.lconst 0, 1) := by decide +kernel
theorem dX5_waysAsOdd_1 : decode cX5_waysAsOdd 1 = .ok (.lstore_n 1, 1) := by decide +kernel
theorem dX5_waysAsOdd_2 : decode cX5_waysAsOdd 2 = .ok (.aload_n 0, 1) := by decide +kernel
theorem dX5_waysAsOdd_3 : decode cX5_waysAsOdd 3 = .ok (.getfield 38, 3) := by decide +kernel
theorem dX5_waysAsOdd_6 : decode cX5_waysAsOdd 6 = .ok (.istore_n 3, 1) := by decide +kernel
theorem dX5_waysAsOdd_7 : decode cX5_waysAsOdd 7 = .ok (.iload_n 3, 1) := by decide +kernel
theorem dX5_waysAsOdd_8 : decode cX5_waysAsOdd 8 = .ok (.aload_n 0, 1) := by decide +kernel
theorem dX5_waysAsOdd_9 : decode cX5_waysAsOdd 9 = .ok (.getfield 32, 3) := by decide +kernel
theorem dX5_waysAsOdd_12 : decode cX5_waysAsOdd 12 = .ok (.aload_n 0, 1) := by decide +kernel
theorem dX5_waysAsOdd_13 : decode cX5_waysAsOdd 13 = .ok (.getfield 35, 3) := by decide +kernel
theorem dX5_waysAsOdd_16 : decode cX5_waysAsOdd 16 = .ok (.invokestatic 74, 3) := by decide +kernel
theorem dX5_waysAsOdd_19 : decode cX5_waysAsOdd 19 = .ok (.if_icmp .gt 39, 3) := by decide +kernel
theorem dX5_waysAsOdd_22 : decode cX5_waysAsOdd 22 = .ok (.lload_n 1, 1) := by decide +kernel
theorem dX5_waysAsOdd_23 : decode cX5_waysAsOdd 23 = .ok (.aload_n 0, 1) := by decide +kernel
theorem dX5_waysAsOdd_24 : decode cX5_waysAsOdd 24 = .ok (.getfield 32, 3) := by decide +kernel
theorem dX5_waysAsOdd_27 : decode cX5_waysAsOdd 27 = .ok (.iload_n 3, 1) := by decide +kernel
theorem dX5_waysAsOdd_28 : decode cX5_waysAsOdd 28 = .ok (.invokestatic 70, 3) := by decide +kernel
theorem dX5_waysAsOdd_31 : decode cX5_waysAsOdd 31 = .ok (.aload_n 0, 1) := by decide +kernel
theorem dX5_waysAsOdd_32 : decode cX5_waysAsOdd 32 = .ok (.getfield 28, 3) := by decide +kernel
theorem dX5_waysAsOdd_35 : decode cX5_waysAsOdd 35 = .ok (.aload_n 0, 1) := by decide +kernel
theorem dX5_waysAsOdd_36 : decode cX5_waysAsOdd 36 = .ok (.getfield 32, 3) := by decide +kernel
theorem dX5_waysAsOdd_39 : decode cX5_waysAsOdd 39 = .ok (.isub, 1) := by decide +kernel
theorem dX5_waysAsOdd_40 : decode cX5_waysAsOdd 40 = .ok (.aload_n 0, 1) := by decide +kernel
theorem dX5_waysAsOdd_41 : decode cX5_waysAsOdd 41 = .ok (.getfield 35, 3) := by decide +kernel
theorem dX5_waysAsOdd_44 : decode cX5_waysAsOdd 44 = .ok (.iload_n 3, 1) := by decide +kernel
theorem dX5_waysAsOdd_45 : decode cX5_waysAsOdd 45 = .ok (.isub, 1) := by decide +kernel
theorem dX5_waysAsOdd_46 : decode cX5_waysAsOdd 46 = .ok (.invokestatic 70, 3) := by decide +kernel
theorem dX5_waysAsOdd_49 : decode cX5_waysAsOdd 49 = .ok (.lmul, 1) := by decide +kernel
theorem dX5_waysAsOdd_50 : decode cX5_waysAsOdd 50 = .ok (.ladd, 1) := by decide +kernel
theorem dX5_waysAsOdd_51 : decode cX5_waysAsOdd 51 = .ok (.lstore_n 1, 1) := by decide +kernel
theorem dX5_waysAsOdd_52 : decode cX5_waysAsOdd 52 = .ok (.iinc 3 1, 3) := by decide +kernel
theorem dX5_waysAsOdd_55 : decode cX5_waysAsOdd 55 = .ok (.goto (-48), 3) := by decide +kernel
theorem dX5_waysAsOdd_58 : decode cX5_waysAsOdd 58 = .ok (.lload_n 1, 1) := by decide +kernel
theorem dX5_waysAsOdd_59 : decode cX5_waysAsOdd 59 = .ok (.lreturn, 1) := by decide +kernel
theorem dX5_choices_0 : decode cX5_choices 0 = .ok (.iload_n 1, 1) := by decide +kernel
theorem dX5_choices_1 : decode cX5_choices 1 = .ok (.ifCond .lt 8, 3) := by decide +kernel
theorem dX5_choices_4 : decode cX5_choices 4 = .ok (.iload_n 1, 1) := by decide +kernel
theorem dX5_choices_5 : decode cX5_choices 5 = .ok (.iload_n 0, 1) := by decide +kernel
theorem dX5_choices_6 : decode cX5_choices 6 = .ok (.if_icmp .le 5, 3) := by decide +kernel
theorem dX5_choices_9 : decode cX5_choices 9 = .ok (.lconst 0, 1) := by decide +kernel
theorem dX5_choices_10 : decode cX5_choices 10 = .ok (.lreturn, 1) := by decide +kernel
theorem dX5_choices_11 : decode cX5_choices 11 = .ok (.iload_n 1, 1) := by decide +kernel
theorem dX5_choices_12 : decode cX5_choices 12 = .ok (.iload_n 0, 1) := by decide +kernel
theorem dX5_choices_13 : decode cX5_choices 13 = .ok (.iload_n 1, 1) := by decide +kernel
theorem dX5_choices_14 : decode cX5_choices 14 = .ok (.isub, 1) := by decide +kernel
theorem dX5_choices_15 : decode cX5_choices 15 = .ok (.invokestatic 74, 3) := by decide +kernel
theorem dX5_choices_18 : decode cX5_choices 18 = .ok (.istore_n 2, 1) := by decide +kernel
theorem dX5_choices_19 : decode cX5_choices 19 = .ok (.lconst 1, 1) := by decide +kernel
theorem dX5_choices_20 : decode cX5_choices 20 = .ok (.lstore_n 3, 1) := by decide +kernel
theorem dX5_choices_21 : decode cX5_choices 21 = .ok (.iconst 1, 1) := by decide +kernel
theorem dX5_choices_22 : decode cX5_choices 22 = .ok (.istore 5, 2) := by decide +kernel
theorem dX5_choices_24 : decode cX5_choices 24 = .ok (.iload 5, 2) := by decide +kernel
theorem dX5_choices_26 : decode cX5_choices 26 = .ok (.iload_n 2, 1) := by decide +kernel
theorem dX5_choices_27 : decode cX5_choices 27 = .ok (.if_icmp .gt 23, 3) := by decide +kernel
theorem dX5_choices_30 : decode cX5_choices 30 = .ok (.lload_n 3, 1) := by decide +kernel
theorem dX5_choices_31 : decode cX5_choices 31 = .ok (.iload_n 0, 1) := by decide +kernel
theorem dX5_choices_32 : decode cX5_choices 32 = .ok (.iload_n 2, 1) := by decide +kernel
theorem dX5_choices_33 : decode cX5_choices 33 = .ok (.isub, 1) := by decide +kernel
theorem dX5_choices_34 : decode cX5_choices 34 = .ok (.iload 5, 2) := by decide +kernel
theorem dX5_choices_36 : decode cX5_choices 36 = .ok (.iadd, 1) := by decide +kernel
theorem dX5_choices_37 : decode cX5_choices 37 = .ok (.i2l, 1) := by decide +kernel
theorem dX5_choices_38 : decode cX5_choices 38 = .ok (.lmul, 1) := by decide +kernel
theorem dX5_choices_39 : decode cX5_choices 39 = .ok (.iload 5, 2) := by decide +kernel
theorem dX5_choices_41 : decode cX5_choices 41 = .ok (.i2l, 1) := by decide +kernel
theorem dX5_choices_42 : decode cX5_choices 42 = .ok (.ldiv, 1) := by decide +kernel
theorem dX5_choices_43 : decode cX5_choices 43 = .ok (.lstore_n 3, 1) := by decide +kernel
theorem dX5_choices_44 : decode cX5_choices 44 = .ok (.iinc 5 1, 3) := by decide +kernel
theorem dX5_choices_47 : decode cX5_choices 47 = .ok (.goto (-23), 3) := by decide +kernel
theorem dX5_choices_50 : decode cX5_choices 50 = .ok (.lload_n 3, 1) := by decide +kernel
theorem dX5_choices_51 : decode cX5_choices 51 = .ok (.lreturn, 1) := by decide +kernel
theorem dX6_init_0 : decode cX6_init 0 = .ok (.aload_n 0, 1) := by decide +kernel
theorem dX6_init_1 : decode cX6_init 1 = .ok (.invokespecial 1, 3) := by decide +kernel
theorem dX6_init_4 : decode cX6_init 4 = .ok (.aload_n 0, 1) := by decide +kernel
theorem dX6_init_5 : decode cX6_init 5 = .ok (.bipush 72, 2) := by decide +kernel
theorem dX6_init_7 : decode cX6_init 7 = .ok (.newarray .int, 2) := by decide +kernel
theorem dX6_init_9 : decode cX6_init 9 = .ok (.putfield 9, 3) := by decide +kernel
theorem dX6_init_12 : decode cX6_init 12 = .ok (.return_, 1) := by decide +kernel
theorem dX6_put_0 : decode cX6_put 0 = .ok (.aload_n 0, 1) := by decide +kernel
theorem dX6_put_1 : decode cX6_put 1 = .ok (.getfield 9, 3) := by decide +kernel
theorem dX6_put_4 : decode cX6_put 4 = .ok (.iload_n 2, 1) := by decide +kernel
theorem dX6_put_5 : decode cX6_put 5 = .ok (.bipush 12, 2) := by decide +kernel
theorem dX6_put_7 : decode cX6_put 7 = .ok (.imul, 1) := by decide +kernel
theorem dX6_put_8 : decode cX6_put 8 = .ok (.iload_n 1, 1) := by decide +kernel
theorem dX6_put_9 : decode cX6_put 9 = .ok (.iadd, 1) := by decide +kernel
theorem dX6_put_10 : decode cX6_put 10 = .ok (.iload_n 3, 1) := by decide +kernel
theorem dX6_put_11 : decode cX6_put 11 = .ok (.iastore, 1) := by decide +kernel
theorem dX6_put_12 : decode cX6_put 12 = .ok (.return_, 1) := by decide +kernel
theorem dX6_seek_0 : decode cX6_seek 0 = .ok (.aload_n 0, 1) := by decide +kernel
theorem dX6_seek_1 : decode cX6_seek 1 = .ok (.iconst (-1), 1) := by decide +kernel
theorem dX6_seek_2 : decode cX6_seek 2 = .ok (.putfield 13, 3) := by decide +kernel
theorem dX6_seek_5 : decode cX6_seek 5 = .ok (.aload_n 0, 1) := by decide +kernel
theorem dX6_seek_6 : decode cX6_seek 6 = .ok (.iconst 0, 1) := by decide +kernel
theorem dX6_seek_7 : decode cX6_seek 7 = .ok (.putfield 17, 3) := by decide +kernel
theorem dX6_seek_10 : decode cX6_seek 10 = .ok (.aload_n 0, 1) := by decide +kernel
theorem dX6_seek_11 : decode cX6_seek 11 = .ok (.iconst 0, 1) := by decide +kernel
theorem dX6_seek_12 : decode cX6_seek 12 = .ok (.putfield 20, 3) := by decide +kernel
theorem dX6_seek_15 : decode cX6_seek 15 = .ok (.iconst 0, 1) := by decide +kernel
theorem dX6_seek_16 : decode cX6_seek 16 = .ok (.istore_n 3, 1) := by decide +kernel
theorem dX6_seek_17 : decode cX6_seek 17 = .ok (.iload_n 3, 1) := by decide +kernel
theorem dX6_seek_18 : decode cX6_seek 18 = .ok (.iload_n 2, 1) := by decide +kernel
theorem dX6_seek_19 : decode cX6_seek 19 = .ok (.iadd, 1) := by decide +kernel
theorem dX6_seek_20 : decode cX6_seek 20 = .ok (.bipush 6, 2) := by decide +kernel
theorem dX6_seek_22 : decode cX6_seek 22 = .ok (.if_icmp .gt 43, 3) := by decide +kernel
theorem dX6_seek_25 : decode cX6_seek 25 = .ok (.iconst 0, 1) := by decide +kernel
theorem dX6_seek_26 : decode cX6_seek 26 = .ok (.istore 4, 2) := by decide +kernel
theorem dX6_seek_28 : decode cX6_seek 28 = .ok (.iload 4, 2) := by decide +kernel
theorem dX6_seek_30 : decode cX6_seek 30 = .ok (.iload_n 1, 1) := by decide +kernel
theorem dX6_seek_31 : decode cX6_seek 31 = .ok (.iadd, 1) := by decide +kernel
theorem dX6_seek_32 : decode cX6_seek 32 = .ok (.bipush 12, 2) := by decide +kernel
theorem dX6_seek_34 : decode cX6_seek 34 = .ok (.if_icmp .gt 25, 3) := by decide +kernel
theorem dX6_seek_37 : decode cX6_seek 37 = .ok (.aload_n 0, 1) := by decide +kernel
theorem dX6_seek_38 : decode cX6_seek 38 = .ok (.iload 4, 2) := by decide +kernel
theorem dX6_seek_40 : decode cX6_seek 40 = .ok (.iload_n 3, 1) := by decide +kernel
theorem dX6_seek_41 : decode cX6_seek 41 = .ok (.aload_n 0, 1) := by decide +kernel
theorem dX6_seek_42 : decode cX6_seek 42 = .ok (.iload 4, 2) := by decide +kernel
theorem dX6_seek_44 : decode cX6_seek 44 = .ok (.iload_n 3, 1) := by decide +kernel
theorem dX6_seek_45 : decode cX6_seek 45 = .ok (.iload_n 1, 1) := by decide +kernel
theorem dX6_seek_46 : decode cX6_seek 46 = .ok (.iload_n 2, 1) := by decide +kernel
theorem dX6_seek_47 : decode cX6_seek 47 = .ok (.invokevirtual 23, 3) := by decide +kernel
theorem dX6_seek_50 : decode cX6_seek 50 = .ok (.invokevirtual 27, 3) := by decide +kernel
theorem dX6_seek_53 : decode cX6_seek 53 = .ok (.iinc 4 1, 3) := by decide +kernel
theorem dX6_seek_56 : decode cX6_seek 56 = .ok (.goto (-28), 3) := by decide +kernel
theorem dX6_seek_59 : decode cX6_seek 59 = .ok (.iinc 3 1, 3) := by decide +kernel
theorem dX6_seek_62 : decode cX6_seek 62 = .ok (.goto (-45), 3) := by decide +kernel
theorem dX6_seek_65 : decode cX6_seek 65 = .ok (.return_, 1) := by decide +kernel
theorem dX6_weigh_0 : decode cX6_weigh 0 = .ok (.aload_n 0, 1) := by decide +kernel
theorem dX6_weigh_1 : decode cX6_weigh 1 = .ok (.dup, 1) := by decide +kernel
theorem dX6_weigh_2 : decode cX6_weigh 2 = .ok (.getfield 20, 3) := by decide +kernel
theorem dX6_weigh_5 : decode cX6_weigh 5 = .ok (.iconst 1, 1) := by decide +kernel
theorem dX6_weigh_6 : decode cX6_weigh 6 = .ok (.iadd, 1) := by decide +kernel
theorem dX6_weigh_7 : decode cX6_weigh 7 = .ok (.putfield 20, 3) := by decide +kernel
theorem dX6_weigh_10 : decode cX6_weigh 10 = .ok (.iload_n 3, 1) := by decide +kernel
theorem dX6_weigh_11 : decode cX6_weigh 11 = .ok (.aload_n 0, 1) := by decide +kernel
theorem dX6_weigh_12 : decode cX6_weigh 12 = .ok (.getfield 13, 3) := by decide +kernel
theorem dX6_weigh_15 : decode cX6_weigh 15 = .ok (.if_icmp .le 23, 3) := by decide +kernel
theorem dX6_weigh_18 : decode cX6_weigh 18 = .ok (.aload_n 0, 1) := by decide +kernel
theorem dX6_weigh_19 : decode cX6_weigh 19 = .ok (.iload_n 3, 1) := by decide +kernel
theorem dX6_weigh_20 : decode cX6_weigh 20 = .ok (.putfield 13, 3) := by decide +kernel
theorem dX6_weigh_23 : decode cX6_weigh 23 = .ok (.aload_n 0, 1) := by decide +kernel
theorem dX6_weigh_24 : decode cX6_weigh 24 = .ok (.iload_n 1, 1) := by decide +kernel
theorem dX6_weigh_25 : decode cX6_weigh 25 = .ok (.putfield 31, 3) := by decide +kernel
theorem dX6_weigh_28 : decode cX6_weigh 28 = .ok (.aload_n 0, 1) := by decide +kernel
theorem dX6_weigh_29 : decode cX6_weigh 29 = .ok (.iload_n 2, 1) := by decide +kernel
theorem dX6_weigh_30 : decode cX6_weigh 30 = .ok (.putfield 34, 3) := by decide +kernel
theorem dX6_weigh_33 : decode cX6_weigh 33 = .ok (.aload_n 0, 1) := by decide +kernel
theorem dX6_weigh_34 : decode cX6_weigh 34 = .ok (.iconst 0, 1) := by decide +kernel
theorem dX6_weigh_35 : decode cX6_weigh 35 = .ok (.putfield 17, 3) := by decide +kernel
theorem dX6_weigh_38 : decode cX6_weigh 38 = .ok (.aload_n 0, 1) := by decide +kernel
theorem dX6_weigh_39 : decode cX6_weigh 39 = .ok (.dup, 1) := by decide +kernel
theorem dX6_weigh_40 : decode cX6_weigh 40 = .ok (.getfield 17, 3) := by decide +kernel
theorem dX6_weigh_43 : decode cX6_weigh 43 = .ok (.iload_n 3, 1) := by decide +kernel
theorem dX6_weigh_44 : decode cX6_weigh 44 = .ok (.aload_n 0, 1) := by decide +kernel
theorem dX6_weigh_45 : decode cX6_weigh 45 = .ok (.getfield 13, 3) := by decide +kernel
theorem dX6_weigh_48 : decode cX6_weigh 48 = .ok (.if_icmp .ne 7, 3) := by decide +kernel
theorem dX6_weigh_51 : decode cX6_weigh 51 = .ok (.iconst 1, 1) := by decide +kernel
theorem dX6_weigh_52 : decode cX6_weigh 52 = .ok (.goto 4, 3) := by decide +kernel
theorem dX6_weigh_55 : decode cX6_weigh 55 = .ok (.iconst 0, 1) := by decide +kernel
theorem dX6_weigh_56 : decode cX6_weigh 56 = .ok (.iadd, 1) := by decide +kernel
theorem dX6_weigh_57 : decode cX6_weigh 57 = .ok (.putfield 17, 3) := by decide +kernel
theorem dX6_weigh_60 : decode cX6_weigh 60 = .ok (.return_, 1) := by decide +kernel
theorem dX6_amount_0 : decode cX6_amount 0 = .ok (.iconst 0, 1) := by decide +kernel
theorem dX6_amount_1 : decode cX6_amount 1 = .ok (.istore 5, 2) := by decide +kernel
theorem dX6_amount_3 : decode cX6_amount 3 = .ok (.iload_n 2, 1) := by decide +kernel
theorem dX6_amount_4 : decode cX6_amount 4 = .ok (.istore 6, 2) := by decide +kernel
theorem dX6_amount_6 : decode cX6_amount 6 = .ok (.iload 6, 2) := by decide +kernel
theorem dX6_amount_8 : decode cX6_amount 8 = .ok (.iload_n 2, 1) := by decide +kernel
theorem dX6_amount_9 : decode cX6_amount 9 = .ok (.iload 4, 2) := by decide +kernel
theorem dX6_amount_11 : decode cX6_amount 11 = .ok (.iadd, 1) := by decide +kernel
theorem dX6_amount_12 : decode cX6_amount 12 = .ok (.if_icmp .ge 44, 3) := by decide +kernel
theorem dX6_amount_15 : decode cX6_amount 15 = .ok (.iload_n 1, 1) := by decide +kernel
theorem dX6_amount_16 : decode cX6_amount 16 = .ok (.istore 7, 2) := by decide +kernel
theorem dX6_amount_18 : decode cX6_amount 18 = .ok (.iload 7, 2) := by decide +kernel
theorem dX6_amount_20 : decode cX6_amount 20 = .ok (.iload_n 1, 1) := by decide +kernel
theorem dX6_amount_21 : decode cX6_amount 21 = .ok (.iload_n 3, 1) := by decide +kernel
theorem dX6_amount_22 : decode cX6_amount 22 = .ok (.iadd, 1) := by decide +kernel
theorem dX6_amount_23 : decode cX6_amount 23 = .ok (.if_icmp .ge 27, 3) := by decide +kernel
theorem dX6_amount_26 : decode cX6_amount 26 = .ok (.iload 5, 2) := by decide +kernel
theorem dX6_amount_28 : decode cX6_amount 28 = .ok (.aload_n 0, 1) := by decide +kernel
theorem dX6_amount_29 : decode cX6_amount 29 = .ok (.getfield 9, 3) := by decide +kernel
theorem dX6_amount_32 : decode cX6_amount 32 = .ok (.iload 6, 2) := by decide +kernel
theorem dX6_amount_34 : decode cX6_amount 34 = .ok (.bipush 12, 2) := by decide +kernel
theorem dX6_amount_36 : decode cX6_amount 36 = .ok (.imul, 1) := by decide +kernel
theorem dX6_amount_37 : decode cX6_amount 37 = .ok (.iload 7, 2) := by decide +kernel
theorem dX6_amount_39 : decode cX6_amount 39 = .ok (.iadd, 1) := by decide +kernel
theorem dX6_amount_40 : decode cX6_amount 40 = .ok (.iaload, 1) := by decide +kernel
theorem dX6_amount_41 : decode cX6_amount 41 = .ok (.iadd, 1) := by decide +kernel
theorem dX6_amount_42 : decode cX6_amount 42 = .ok (.istore 5, 2) := by decide +kernel
theorem dX6_amount_44 : decode cX6_amount 44 = .ok (.iinc 7 1, 3) := by decide +kernel
theorem dX6_amount_47 : decode cX6_amount 47 = .ok (.goto (-29), 3) := by decide +kernel
theorem dX6_amount_50 : decode cX6_amount 50 = .ok (.iinc 6 1, 3) := by decide +kernel
theorem dX6_amount_53 : decode cX6_amount 53 = .ok (.goto (-47), 3) := by decide +kernel
theorem dX6_amount_56 : decode cX6_amount 56 = .ok (.iload 5, 2) := by decide +kernel
theorem dX6_amount_58 : decode cX6_amount 58 = .ok (.ireturn, 1) := by decide +kernel
theorem dX7_init_0 : decode cX7_init 0 = .ok (.aload_n 0, 1) := by decide +kernel
theorem dX7_init_1 : decode cX7_init 1 = .ok (.invokespecial 3, 3) := by decide +kernel
theorem dX7_init_4 : decode cX7_init 4 = .ok (.aload_n 0, 1) := by decide +kernel
theorem dX7_init_5 : decode cX7_init 5 = .ok (.bipush 36, 2) := by decide +kernel
theorem dX7_init_7 : decode cX7_init 7 = .ok (.newarray .int, 2) := by decide +kernel
theorem dX7_init_9 : decode cX7_init 9 = .ok (.putfield 11, 3) := by decide +kernel
theorem dX7_init_12 : decode cX7_init 12 = .ok (.aload_n 0, 1) := by decide +kernel
theorem dX7_init_13 : decode cX7_init 13 = .ok (.bipush 6, 2) := by decide +kernel
theorem dX7_init_15 : decode cX7_init 15 = .ok (.newarray .boolean, 2) := by decide +kernel
theorem dX7_init_17 : decode cX7_init 17 = .ok (.putfield 15, 3) := by decide +kernel
theorem dX7_init_20 : decode cX7_init 20 = .ok (.aload_n 0, 1) := by decide +kernel
theorem dX7_init_21 : decode cX7_init 21 = .ok (.bipush 6, 2) := by decide +kernel
theorem dX7_init_23 : decode cX7_init 23 = .ok (.newarray .int, 2) := by decide +kernel
theorem dX7_init_25 : decode cX7_init 25 = .ok (.dup, 1) := by decide +kernel
theorem dX7_init_26 : decode cX7_init 26 = .ok (.iconst 0, 1) := by decide +kernel
theorem dX7_init_27 : decode cX7_init 27 = .ok (.iconst (-1), 1) := by decide +kernel
theorem dX7_init_28 : decode cX7_init 28 = .ok (.iastore, 1) := by decide +kernel
theorem dX7_init_29 : decode cX7_init 29 = .ok (.dup, 1) := by decide +kernel
theorem dX7_init_30 : decode cX7_init 30 = .ok (.iconst 1, 1) := by decide +kernel
theorem dX7_init_31 : decode cX7_init 31 = .ok (.iconst (-1), 1) := by decide +kernel
theorem dX7_init_32 : decode cX7_init 32 = .ok (.iastore, 1) := by decide +kernel
theorem dX7_init_33 : decode cX7_init 33 = .ok (.dup, 1) := by decide +kernel
theorem dX7_init_34 : decode cX7_init 34 = .ok (.iconst 2, 1) := by decide +kernel
theorem dX7_init_35 : decode cX7_init 35 = .ok (.iconst (-1), 1) := by decide +kernel
theorem dX7_init_36 : decode cX7_init 36 = .ok (.iastore, 1) := by decide +kernel
theorem dX7_init_37 : decode cX7_init 37 = .ok (.dup, 1) := by decide +kernel
theorem dX7_init_38 : decode cX7_init 38 = .ok (.iconst 3, 1) := by decide +kernel
theorem dX7_init_39 : decode cX7_init 39 = .ok (.iconst (-1), 1) := by decide +kernel
theorem dX7_init_40 : decode cX7_init 40 = .ok (.iastore, 1) := by decide +kernel
theorem dX7_init_41 : decode cX7_init 41 = .ok (.dup, 1) := by decide +kernel
theorem dX7_init_42 : decode cX7_init 42 = .ok (.iconst 4, 1) := by decide +kernel
theorem dX7_init_43 : decode cX7_init 43 = .ok (.iconst (-1), 1) := by decide +kernel
theorem dX7_init_44 : decode cX7_init 44 = .ok (.iastore, 1) := by decide +kernel
theorem dX7_init_45 : decode cX7_init 45 = .ok (.dup, 1) := by decide +kernel
theorem dX7_init_46 : decode cX7_init 46 = .ok (.iconst 5, 1) := by decide +kernel
theorem dX7_init_47 : decode cX7_init 47 = .ok (.iconst (-1), 1) := by decide +kernel
theorem dX7_init_48 : decode cX7_init 48 = .ok (.iastore, 1) := by decide +kernel
theorem dX7_init_49 : decode cX7_init 49 = .ok (.putfield 19, 3) := by decide +kernel
theorem dX7_init_52 : decode cX7_init 52 = .ok (.return_, 1) := by decide +kernel
theorem dX7_tell_0 : decode cX7_tell 0 = .ok (.aload_n 0, 1) := by decide +kernel
theorem dX7_tell_1 : decode cX7_tell 1 = .ok (.getfield 11, 3) := by decide +kernel
theorem dX7_tell_4 : decode cX7_tell 4 = .ok (.iload_n 1, 1) := by decide +kernel
theorem dX7_tell_5 : decode cX7_tell 5 = .ok (.bipush 6, 2) := by decide +kernel
theorem dX7_tell_7 : decode cX7_tell 7 = .ok (.imul, 1) := by decide +kernel
theorem dX7_tell_8 : decode cX7_tell 8 = .ok (.iload_n 2, 1) := by decide +kernel
theorem dX7_tell_9 : decode cX7_tell 9 = .ok (.iadd, 1) := by decide +kernel
theorem dX7_tell_10 : decode cX7_tell 10 = .ok (.iload_n 3, 1) := by decide +kernel
theorem dX7_tell_11 : decode cX7_tell 11 = .ok (.iastore, 1) := by decide +kernel
theorem dX7_tell_12 : decode cX7_tell 12 = .ok (.aload_n 0, 1) := by decide +kernel
theorem dX7_tell_13 : decode cX7_tell 13 = .ok (.getfield 15, 3) := by decide +kernel
theorem dX7_tell_16 : decode cX7_tell 16 = .ok (.iload_n 1, 1) := by decide +kernel
theorem dX7_tell_17 : decode cX7_tell 17 = .ok (.iconst 1, 1) := by decide +kernel
theorem dX7_tell_18 : decode cX7_tell 18 = .ok (.bastore, 1) := by decide +kernel
theorem dX7_tell_19 : decode cX7_tell 19 = .ok (.return_, 1) := by decide +kernel
theorem dX7_told_0 : decode cX7_told 0 = .ok (.iconst 0, 1) := by decide +kernel
theorem dX7_told_1 : decode cX7_told 1 = .ok (.istore_n 1, 1) := by decide +kernel
theorem dX7_told_2 : decode cX7_told 2 = .ok (.iconst 0, 1) := by decide +kernel
theorem dX7_told_3 : decode cX7_told 3 = .ok (.istore_n 2, 1) := by decide +kernel
theorem dX7_told_4 : decode cX7_told 4 = .ok (.iload_n 2, 1) := by decide +kernel
theorem dX7_told_5 : decode cX7_told 5 = .ok (.bipush 6, 2) := by decide +kernel
theorem dX7_told_7 : decode cX7_told 7 = .ok (.if_icmp .ge 26, 3) := by decide +kernel
theorem dX7_told_10 : decode cX7_told 10 = .ok (.iload_n 1, 1) := by decide +kernel
theorem dX7_told_11 : decode cX7_told 11 = .ok (.aload_n 0, 1) := by decide +kernel
theorem dX7_told_12 : decode cX7_told 12 = .ok (.getfield 15, 3) := by decide +kernel
theorem dX7_told_15 : decode cX7_told 15 = .ok (.iload_n 2, 1) := by decide +kernel
theorem dX7_told_16 : decode cX7_told 16 = .ok (.baload, 1) := by decide +kernel
theorem dX7_told_17 : decode cX7_told 17 = .ok (.ifCond .eq 7, 3) := by decide +kernel
theorem dX7_told_20 : decode cX7_told 20 = .ok (.iconst 1, 1) := by decide +kernel
theorem dX7_told_21 : decode cX7_told 21 = .ok (.goto 4, 3) := by decide +kernel
theorem dX7_told_24 : decode cX7_told 24 = .ok (.iconst 0, 1) := by decide +kernel
theorem dX7_told_25 : decode cX7_told 25 = .ok (.iadd, 1) := by decide +kernel
theorem dX7_told_26 : decode cX7_told 26 = .ok (.istore_n 1, 1) := by decide +kernel
theorem dX7_told_27 : decode cX7_told 27 = .ok (.iinc 2 1, 3) := by decide +kernel
theorem dX7_told_30 : decode cX7_told 30 = .ok (.goto (-26), 3) := by decide +kernel
theorem dX7_told_33 : decode cX7_told 33 = .ok (.iload_n 1, 1) := by decide +kernel
theorem dX7_told_34 : decode cX7_told 34 = .ok (.ireturn, 1) := by decide +kernel
theorem dX7_product_0 : decode cX7_product 0 = .ok (.lconst 1, 1) := by decide +kernel
theorem dX7_product_1 : decode cX7_product 1 = .ok (.lstore_n 2, 1) := by decide +kernel
theorem dX7_product_2 : decode cX7_product 2 = .ok (.iconst 0, 1) := by decide +kernel
theorem dX7_product_3 : decode cX7_product 3 = .ok (.istore 4, 2) := by decide +kernel
theorem dX7_product_5 : decode cX7_product 5 = .ok (.iload 4, 2) := by decide +kernel
theorem dX7_product_7 : decode cX7_product 7 = .ok (.bipush 6, 2) := by decide +kernel
theorem dX7_product_9 : decode cX7_product 9 = .ok (.if_icmp .ge 60, 3) := by decide +kernel
theorem dX7_product_12 : decode cX7_product 12 = .ok (.aload_n 0, 1) := by decide +kernel
theorem dX7_product_13 : decode cX7_product 13 = .ok (.getfield 11, 3) := by decide +kernel
theorem dX7_product_16 : decode cX7_product 16 = .ok (.iload_n 1, 1) := by decide +kernel
theorem dX7_product_17 : decode cX7_product 17 = .ok (.bipush 6, 2) := by decide +kernel
theorem dX7_product_19 : decode cX7_product 19 = .ok (.imul, 1) := by decide +kernel
theorem dX7_product_20 : decode cX7_product 20 = .ok (.iload 4, 2) := by decide +kernel
theorem dX7_product_22 : decode cX7_product 22 = .ok (.iadd, 1) := by decide +kernel
theorem dX7_product_23 : decode cX7_product 23 = .ok (.iaload, 1) := by decide +kernel
theorem dX7_product_24 : decode cX7_product 24 = .ok (.istore 5, 2) := by decide +kernel
theorem dX7_product_26 : decode cX7_product 26 = .ok (.aload_n 0, 1) := by decide +kernel
theorem dX7_product_27 : decode cX7_product 27 = .ok (.getfield 19, 3) := by decide +kernel
theorem dX7_product_30 : decode cX7_product 30 = .ok (.iload 4, 2) := by decide +kernel
theorem dX7_product_32 : decode cX7_product 32 = .ok (.iaload, 1) := by decide +kernel
theorem dX7_product_33 : decode cX7_product 33 = .ok (.ifCond .lt 30, 3) := by decide +kernel
theorem dX7_product_36 : decode cX7_product 36 = .ok (.lload_n 2, 1) := by decide +kernel
theorem dX7_product_37 : decode cX7_product 37 = .ok (.aload_n 0, 1) := by decide +kernel
theorem dX7_product_38 : decode cX7_product 38 = .ok (.getfield 19, 3) := by decide +kernel
theorem dX7_product_41 : decode cX7_product 41 = .ok (.iload 4, 2) := by decide +kernel
theorem dX7_product_43 : decode cX7_product 43 = .ok (.iaload, 1) := by decide +kernel
theorem dX7_product_44 : decode cX7_product 44 = .ok (.iconst 1, 1) := by decide +kernel
theorem dX7_product_45 : decode cX7_product 45 = .ok (.if_icmp .ne 9, 3) := by decide +kernel
theorem dX7_product_48 : decode cX7_product 48 = .ok (.iload 5, 2) := by decide +kernel
theorem dX7_product_50 : decode cX7_product 50 = .ok (.i2l, 1) := by decide +kernel
theorem dX7_product_51 : decode cX7_product 51 = .ok (.goto 10, 3) := by decide +kernel
theorem dX7_product_54 : decode cX7_product 54 = .ok (.sipush 1000, 3) := by decide +kernel
theorem dX7_product_57 : decode cX7_product 57 = .ok (.iload 5, 2) := by decide +kernel
theorem dX7_product_59 : decode cX7_product 59 = .ok (.isub, 1) := by decide +kernel
theorem dX7_product_60 : decode cX7_product 60 = .ok (.i2l, 1) := by decide +kernel
theorem dX7_product_61 : decode cX7_product 61 = .ok (.lmul, 1) := by decide +kernel
theorem dX7_product_62 : decode cX7_product 62 = .ok (.lstore_n 2, 1) := by decide +kernel
theorem dX7_product_63 : decode cX7_product 63 = .ok (.iinc 4 1, 3) := by decide +kernel
theorem dX7_product_66 : decode cX7_product 66 = .ok (.goto (-61), 3) := by decide +kernel
theorem dX7_product_69 : decode cX7_product 69 = .ok (.lload_n 2, 1) := by decide +kernel
theorem dX7_product_70 : decode cX7_product 70 = .ok (.lreturn, 1) := by decide +kernel
theorem dX7_together_0 : decode cX7_together 0 = .ok (.lconst 0, 1) := by decide +kernel
theorem dX7_together_1 : decode cX7_together 1 = .ok (.lstore_n 1, 1) := by decide +kernel
theorem dX7_together_2 : decode cX7_together 2 = .ok (.iconst 0, 1) := by decide +kernel
theorem dX7_together_3 : decode cX7_together 3 = .ok (.istore_n 3, 1) := by decide +kernel
theorem dX7_together_4 : decode cX7_together 4 = .ok (.iload_n 3, 1) := by decide +kernel
theorem dX7_together_5 : decode cX7_together 5 = .ok (.bipush 6, 2) := by decide +kernel
theorem dX7_together_7 : decode cX7_together 7 = .ok (.if_icmp .ge 30, 3) := by decide +kernel
theorem dX7_together_10 : decode cX7_together 10 = .ok (.lload_n 1, 1) := by decide +kernel
theorem dX7_together_11 : decode cX7_together 11 = .ok (.aload_n 0, 1) := by decide +kernel
theorem dX7_together_12 : decode cX7_together 12 = .ok (.getfield 15, 3) := by decide +kernel
theorem dX7_together_15 : decode cX7_together 15 = .ok (.iload_n 3, 1) := by decide +kernel
theorem dX7_together_16 : decode cX7_together 16 = .ok (.baload, 1) := by decide +kernel
theorem dX7_together_17 : decode cX7_together 17 = .ok (.ifCond .eq 11, 3) := by decide +kernel
theorem dX7_together_20 : decode cX7_together 20 = .ok (.aload_n 0, 1) := by decide +kernel
theorem dX7_together_21 : decode cX7_together 21 = .ok (.iload_n 3, 1) := by decide +kernel
theorem dX7_together_22 : decode cX7_together 22 = .ok (.invokevirtual 22, 3) := by decide +kernel
theorem dX7_together_25 : decode cX7_together 25 = .ok (.goto 4, 3) := by decide +kernel
theorem dX7_together_28 : decode cX7_together 28 = .ok (.lconst 0, 1) := by decide +kernel
theorem dX7_together_29 : decode cX7_together 29 = .ok (.ladd, 1) := by decide +kernel
theorem dX7_together_30 : decode cX7_together 30 = .ok (.lstore_n 1, 1) := by decide +kernel
theorem dX7_together_31 : decode cX7_together 31 = .ok (.iinc 3 1, 3) := by decide +kernel
theorem dX7_together_34 : decode cX7_together 34 = .ok (.goto (-30), 3) := by decide +kernel
theorem dX7_together_37 : decode cX7_together 37 = .ok (.lload_n 1, 1) := by decide +kernel
theorem dX7_together_38 : decode cX7_together 38 = .ok (.lreturn, 1) := by decide +kernel
theorem dX7_partingMost_0 : decode cX7_partingMost 0 = .ok (.iconst (-1), 1) := by decide +kernel
theorem dX7_partingMost_1 : decode cX7_partingMost 1 = .ok (.istore_n 1, 1) := by decide +kernel
theorem dX7_partingMost_2 : decode cX7_partingMost 2 = .ok (.iconst 0, 1) := by decide +kernel
theorem dX7_partingMost_3 : decode cX7_partingMost 3 = .ok (.istore_n 2, 1) := by decide +kernel
theorem dX7_partingMost_4 : decode cX7_partingMost 4 = .ok (.iload_n 2, 1) := by decide +kernel
theorem dX7_partingMost_5 : decode cX7_partingMost 5 = .ok (.bipush 6, 2) := by decide +kernel
theorem dX7_partingMost_7 : decode cX7_partingMost 7 = .ok (.if_icmp .ge 37, 3) := by decide +kernel
theorem dX7_partingMost_10 : decode cX7_partingMost 10 = .ok (.aload_n 0, 1) := by decide +kernel
theorem dX7_partingMost_11 : decode cX7_partingMost 11 = .ok (.getfield 19, 3) := by decide +kernel
theorem dX7_partingMost_14 : decode cX7_partingMost 14 = .ok (.iload_n 2, 1) := by decide +kernel
theorem dX7_partingMost_15 : decode cX7_partingMost 15 = .ok (.iaload, 1) := by decide +kernel
theorem dX7_partingMost_16 : decode cX7_partingMost 16 = .ok (.ifCond .ge 22, 3) := by decide +kernel
theorem dX7_partingMost_19 : decode cX7_partingMost 19 = .ok (.iload_n 1, 1) := by decide +kernel
theorem dX7_partingMost_20 : decode cX7_partingMost 20 = .ok (.ifCond .lt 16, 3) := by decide +kernel
theorem dX7_partingMost_23 : decode cX7_partingMost 23 = .ok (.aload_n 0, 1) := by decide +kernel
theorem dX7_partingMost_24 : decode cX7_partingMost 24 = .ok (.iload_n 2, 1) := by decide +kernel
theorem dX7_partingMost_25 : decode cX7_partingMost 25 = .ok (.invokevirtual 26, 3) := by decide +kernel
theorem dX7_partingMost_28 : decode cX7_partingMost 28 = .ok (.aload_n 0, 1) := by decide +kernel
theorem dX7_partingMost_29 : decode cX7_partingMost 29 = .ok (.iload_n 1, 1) := by decide +kernel
theorem dX7_partingMost_30 : decode cX7_partingMost 30 = .ok (.invokevirtual 26, 3) := by decide +kernel
theorem dX7_partingMost_33 : decode cX7_partingMost 33 = .ok (.if_icmp .le 5, 3) := by decide +kernel
theorem dX7_partingMost_36 : decode cX7_partingMost 36 = .ok (.iload_n 2, 1) := by decide +kernel
theorem dX7_partingMost_37 : decode cX7_partingMost 37 = .ok (.istore_n 1, 1) := by decide +kernel
theorem dX7_partingMost_38 : decode cX7_partingMost 38 = .ok (.iinc 2 1, 3) := by decide +kernel
theorem dX7_partingMost_41 : decode cX7_partingMost 41 = .ok (.goto (-37), 3) := by decide +kernel
theorem dX7_partingMost_44 : decode cX7_partingMost 44 = .ok (.iload_n 1, 1) := by decide +kernel
theorem dX7_partingMost_45 : decode cX7_partingMost 45 = .ok (.ireturn, 1) := by decide +kernel
theorem dX7_counts_0 : decode cX7_counts 0 = .ok (.aload_n 0, 1) := by decide +kernel
theorem dX7_counts_1 : decode cX7_counts 1 = .ok (.getfield 15, 3) := by decide +kernel
theorem dX7_counts_4 : decode cX7_counts 4 = .ok (.iload_n 1, 1) := by decide +kernel
theorem dX7_counts_5 : decode cX7_counts 5 = .ok (.baload, 1) := by decide +kernel
theorem dX7_counts_6 : decode cX7_counts 6 = .ok (.ifCond .eq 17, 3) := by decide +kernel
theorem dX7_counts_9 : decode cX7_counts 9 = .ok (.aload_n 0, 1) := by decide +kernel
theorem dX7_counts_10 : decode cX7_counts 10 = .ok (.iload_n 1, 1) := by decide +kernel
theorem dX7_counts_11 : decode cX7_counts 11 = .ok (.invokevirtual 22, 3) := by decide +kernel
theorem dX7_counts_14 : decode cX7_counts 14 = .ok (.lconst 0, 1) := by decide +kernel
theorem dX7_counts_15 : decode cX7_counts 15 = .ok (.lcmp, 1) := by decide +kernel
theorem dX7_counts_16 : decode cX7_counts 16 = .ok (.ifCond .eq 7, 3) := by decide +kernel
theorem dX7_counts_19 : decode cX7_counts 19 = .ok (.iconst 1, 1) := by decide +kernel
theorem dX7_counts_20 : decode cX7_counts 20 = .ok (.goto 4, 3) := by decide +kernel
theorem dX7_counts_23 : decode cX7_counts 23 = .ok (.iconst 0, 1) := by decide +kernel
theorem dX7_counts_24 : decode cX7_counts 24 = .ok (.ireturn, 1) := by decide +kernel
theorem dX7_parted_0 : decode cX7_parted 0 = .ok (.iconst 0, 1) := by decide +kernel
theorem dX7_parted_1 : decode cX7_parted 1 = .ok (.istore_n 2, 1) := by decide +kernel
theorem dX7_parted_2 : decode cX7_parted 2 = .ok (.iconst 0, 1) := by decide +kernel
theorem dX7_parted_3 : decode cX7_parted 3 = .ok (.istore_n 3, 1) := by decide +kernel
theorem dX7_parted_4 : decode cX7_parted 4 = .ok (.iload_n 3, 1) := by decide +kernel
theorem dX7_parted_5 : decode cX7_parted 5 = .ok (.bipush 6, 2) := by decide +kernel
theorem dX7_parted_7 : decode cX7_parted 7 = .ok (.if_icmp .ge 71, 3) := by decide +kernel
theorem dX7_parted_10 : decode cX7_parted 10 = .ok (.iconst 0, 1) := by decide +kernel
theorem dX7_parted_11 : decode cX7_parted 11 = .ok (.istore 4, 2) := by decide +kernel
theorem dX7_parted_13 : decode cX7_parted 13 = .ok (.iload 4, 2) := by decide +kernel
theorem dX7_parted_15 : decode cX7_parted 15 = .ok (.iload_n 3, 1) := by decide +kernel
theorem dX7_parted_16 : decode cX7_parted 16 = .ok (.if_icmp .ge 56, 3) := by decide +kernel
theorem dX7_parted_19 : decode cX7_parted 19 = .ok (.aload_n 0, 1) := by decide +kernel
theorem dX7_parted_20 : decode cX7_parted 20 = .ok (.iload_n 3, 1) := by decide +kernel
theorem dX7_parted_21 : decode cX7_parted 21 = .ok (.invokevirtual 30, 3) := by decide +kernel
theorem dX7_parted_24 : decode cX7_parted 24 = .ok (.ifCond .eq 42, 3) := by decide +kernel
theorem dX7_parted_27 : decode cX7_parted 27 = .ok (.aload_n 0, 1) := by decide +kernel
theorem dX7_parted_28 : decode cX7_parted 28 = .ok (.iload 4, 2) := by decide +kernel
theorem dX7_parted_30 : decode cX7_parted 30 = .ok (.invokevirtual 30, 3) := by decide +kernel
theorem dX7_parted_33 : decode cX7_parted 33 = .ok (.ifCond .eq 33, 3) := by decide +kernel
theorem dX7_parted_36 : decode cX7_parted 36 = .ok (.iload_n 2, 1) := by decide +kernel
theorem dX7_parted_37 : decode cX7_parted 37 = .ok (.aload_n 0, 1) := by decide +kernel
theorem dX7_parted_38 : decode cX7_parted 38 = .ok (.getfield 11, 3) := by decide +kernel
theorem dX7_parted_41 : decode cX7_parted 41 = .ok (.iload_n 3, 1) := by decide +kernel
theorem dX7_parted_42 : decode cX7_parted 42 = .ok (.bipush 6, 2) := by decide +kernel
theorem dX7_parted_44 : decode cX7_parted 44 = .ok (.imul, 1) := by decide +kernel
theorem dX7_parted_45 : decode cX7_parted 45 = .ok (.iload_n 1, 1) := by decide +kernel
theorem dX7_parted_46 : decode cX7_parted 46 = .ok (.iadd, 1) := by decide +kernel
theorem dX7_parted_47 : decode cX7_parted 47 = .ok (.iaload, 1) := by decide +kernel
theorem dX7_parted_48 : decode cX7_parted 48 = .ok (.aload_n 0, 1) := by decide +kernel
theorem dX7_parted_49 : decode cX7_parted 49 = .ok (.getfield 11, 3) := by decide +kernel
theorem dX7_parted_52 : decode cX7_parted 52 = .ok (.iload 4, 2) := by decide +kernel
theorem dX7_parted_54 : decode cX7_parted 54 = .ok (.bipush 6, 2) := by decide +kernel
theorem dX7_parted_56 : decode cX7_parted 56 = .ok (.imul, 1) := by decide +kernel
theorem dX7_parted_57 : decode cX7_parted 57 = .ok (.iload_n 1, 1) := by decide +kernel
theorem dX7_parted_58 : decode cX7_parted 58 = .ok (.iadd, 1) := by decide +kernel
theorem dX7_parted_59 : decode cX7_parted 59 = .ok (.iaload, 1) := by decide +kernel
theorem dX7_parted_60 : decode cX7_parted 60 = .ok (.isub, 1) := by decide +kernel
theorem dX7_parted_61 : decode cX7_parted 61 = .ok (.invokestatic 34, 3) := by decide +kernel
theorem dX7_parted_64 : decode cX7_parted 64 = .ok (.iadd, 1) := by decide +kernel
theorem dX7_parted_65 : decode cX7_parted 65 = .ok (.istore_n 2, 1) := by decide +kernel
theorem dX7_parted_66 : decode cX7_parted 66 = .ok (.iinc 4 1, 3) := by decide +kernel
theorem dX7_parted_69 : decode cX7_parted 69 = .ok (.goto (-56), 3) := by decide +kernel
theorem dX7_parted_72 : decode cX7_parted 72 = .ok (.iinc 3 1, 3) := by decide +kernel
theorem dX7_parted_75 : decode cX7_parted 75 = .ok (.goto (-71), 3) := by decide +kernel
theorem dX7_parted_78 : decode cX7_parted 78 = .ok (.iload_n 2, 1) := by decide +kernel
theorem dX7_parted_79 : decode cX7_parted 79 = .ok (.ireturn, 1) := by decide +kernel
theorem dX8_init_0 : decode cX8_init 0 = .ok (.aload_n 0, 1) := by decide +kernel
theorem dX8_init_1 : decode cX8_init 1 = .ok (.invokespecial 3, 3) := by decide +kernel
theorem dX8_init_4 : decode cX8_init 4 = .ok (.aload_n 0, 1) := by decide +kernel
theorem dX8_init_5 : decode cX8_init 5 = .ok (.sipush 220, 3) := by decide +kernel
theorem dX8_init_8 : decode cX8_init 8 = .ok (.newarray .byte, 2) := by decide +kernel
theorem dX8_init_10 : decode cX8_init 10 = .ok (.putfield 9, 3) := by decide +kernel
theorem dX8_init_13 : decode cX8_init 13 = .ok (.return_, 1) := by decide +kernel
theorem dX8_hasRoom_0 : decode cX8_hasRoom 0 = .ok (.iload_n 1, 1) := by decide +kernel
theorem dX8_hasRoom_1 : decode cX8_hasRoom 1 = .ok (.aload_n 0, 1) := by decide +kernel
theorem dX8_hasRoom_2 : decode cX8_hasRoom 2 = .ok (.getfield 9, 3) := by decide +kernel
theorem dX8_hasRoom_5 : decode cX8_hasRoom 5 = .ok (.arraylength, 1) := by decide +kernel
theorem dX8_hasRoom_6 : decode cX8_hasRoom 6 = .ok (.aload_n 0, 1) := by decide +kernel
theorem dX8_hasRoom_7 : decode cX8_hasRoom 7 = .ok (.getfield 15, 3) := by decide +kernel
theorem dX8_hasRoom_10 : decode cX8_hasRoom 10 = .ok (.isub, 1) := by decide +kernel
theorem dX8_hasRoom_11 : decode cX8_hasRoom 11 = .ok (.if_icmp .gt 7, 3) := by decide +kernel
theorem dX8_hasRoom_14 : decode cX8_hasRoom 14 = .ok (.iconst 1, 1) := by decide +kernel
theorem dX8_hasRoom_15 : decode cX8_hasRoom 15 = .ok (.goto 4, 3) := by decide +kernel
theorem dX8_hasRoom_18 : decode cX8_hasRoom 18 = .ok (.iconst 0, 1) := by decide +kernel
theorem dX8_hasRoom_19 : decode cX8_hasRoom 19 = .ok (.ireturn, 1) := by decide +kernel
theorem dX8_put_0 : decode cX8_put 0 = .ok (.bipush 24, 2) := by decide +kernel
theorem dX8_put_2 : decode cX8_put 2 = .ok (.istore_n 2, 1) := by decide +kernel
theorem dX8_put_3 : decode cX8_put 3 = .ok (.iload_n 2, 1) := by decide +kernel
theorem dX8_put_4 : decode cX8_put 4 = .ok (.ifCond .lt 44, 3) := by decide +kernel
theorem dX8_put_7 : decode cX8_put 7 = .ok (.aload_n 0, 1) := by decide +kernel
theorem dX8_put_8 : decode cX8_put 8 = .ok (.getfield 15, 3) := by decide +kernel
theorem dX8_put_11 : decode cX8_put 11 = .ok (.aload_n 0, 1) := by decide +kernel
theorem dX8_put_12 : decode cX8_put 12 = .ok (.getfield 9, 3) := by decide +kernel
theorem dX8_put_15 : decode cX8_put 15 = .ok (.arraylength, 1) := by decide +kernel
theorem dX8_put_16 : decode cX8_put 16 = .ok (.if_icmp .ge 32, 3) := by decide +kernel
theorem dX8_put_19 : decode cX8_put 19 = .ok (.aload_n 0, 1) := by decide +kernel
theorem dX8_put_20 : decode cX8_put 20 = .ok (.getfield 9, 3) := by decide +kernel
theorem dX8_put_23 : decode cX8_put 23 = .ok (.aload_n 0, 1) := by decide +kernel
theorem dX8_put_24 : decode cX8_put 24 = .ok (.getfield 15, 3) := by decide +kernel
theorem dX8_put_27 : decode cX8_put 27 = .ok (.iload_n 1, 1) := by decide +kernel
theorem dX8_put_28 : decode cX8_put 28 = .ok (.iload_n 2, 1) := by decide +kernel
theorem dX8_put_29 : decode cX8_put 29 = .ok (.iushr, 1) := by decide +kernel
theorem dX8_put_30 : decode cX8_put 30 = .ok (.i2b, 1) := by decide +kernel
theorem dX8_put_31 : decode cX8_put 31 = .ok (.bastore, 1) := by decide +kernel
theorem dX8_put_32 : decode cX8_put 32 = .ok (.aload_n 0, 1) := by decide +kernel
theorem dX8_put_33 : decode cX8_put 33 = .ok (.dup, 1) := by decide +kernel
theorem dX8_put_34 : decode cX8_put 34 = .ok (.getfield 15, 3) := by decide +kernel
theorem dX8_put_37 : decode cX8_put 37 = .ok (.iconst 1, 1) := by decide +kernel
theorem dX8_put_38 : decode cX8_put 38 = .ok (.iadd, 1) := by decide +kernel
theorem dX8_put_39 : decode cX8_put 39 = .ok (.putfield 15, 3) := by decide +kernel
theorem dX8_put_42 : decode cX8_put 42 = .ok (.iinc 2 (-8), 3) := by decide +kernel
theorem dX8_put_45 : decode cX8_put 45 = .ok (.goto (-42), 3) := by decide +kernel
theorem dX8_put_48 : decode cX8_put 48 = .ok (.return_, 1) := by decide +kernel
theorem dX8_byteAt_0 : decode cX8_byteAt 0 = .ok (.iload_n 1, 1) := by decide +kernel
theorem dX8_byteAt_1 : decode cX8_byteAt 1 = .ok (.ifCond .lt 24, 3) := by decide +kernel
theorem dX8_byteAt_4 : decode cX8_byteAt 4 = .ok (.iload_n 1, 1) := by decide +kernel
theorem dX8_byteAt_5 : decode cX8_byteAt 5 = .ok (.aload_n 0, 1) := by decide +kernel
theorem dX8_byteAt_6 : decode cX8_byteAt 6 = .ok (.getfield 15, 3) := by decide +kernel
theorem dX8_byteAt_9 : decode cX8_byteAt 9 = .ok (.if_icmp .ge 16, 3) := by decide +kernel
theorem dX8_byteAt_12 : decode cX8_byteAt 12 = .ok (.aload_n 0, 1) := by decide +kernel
theorem dX8_byteAt_13 : decode cX8_byteAt 13 = .ok (.getfield 9, 3) := by decide +kernel
theorem dX8_byteAt_16 : decode cX8_byteAt 16 = .ok (.iload_n 1, 1) := by decide +kernel
theorem dX8_byteAt_17 : decode cX8_byteAt 17 = .ok (.baload, 1) := by decide +kernel
theorem dX8_byteAt_18 : decode cX8_byteAt 18 = .ok (.sipush 255, 3) := by decide +kernel
theorem dX8_byteAt_21 : decode cX8_byteAt 21 = .ok (.iand, 1) := by decide +kernel
theorem dX8_byteAt_22 : decode cX8_byteAt 22 = .ok (.goto 4, 3) := by decide +kernel
theorem dX8_byteAt_25 : decode cX8_byteAt 25 = .ok (.iconst (-1), 1) := by decide +kernel
theorem dX8_byteAt_26 : decode cX8_byteAt 26 = .ok (.ireturn, 1) := by decide +kernel
theorem dX8_numberAt_0 : decode cX8_numberAt 0 = .ok (.iconst 0, 1) := by decide +kernel
theorem dX8_numberAt_1 : decode cX8_numberAt 1 = .ok (.istore_n 2, 1) := by decide +kernel
theorem dX8_numberAt_2 : decode cX8_numberAt 2 = .ok (.iconst 0, 1) := by decide +kernel
theorem dX8_numberAt_3 : decode cX8_numberAt 3 = .ok (.istore_n 3, 1) := by decide +kernel
theorem dX8_numberAt_4 : decode cX8_numberAt 4 = .ok (.iload_n 3, 1) := by decide +kernel
theorem dX8_numberAt_5 : decode cX8_numberAt 5 = .ok (.iconst 4, 1) := by decide +kernel
theorem dX8_numberAt_6 : decode cX8_numberAt 6 = .ok (.if_icmp .ge 28, 3) := by decide +kernel
theorem dX8_numberAt_9 : decode cX8_numberAt 9 = .ok (.iload_n 2, 1) := by decide +kernel
theorem dX8_numberAt_10 : decode cX8_numberAt 10 = .ok (.bipush 8, 2) := by decide +kernel
theorem dX8_numberAt_12 : decode cX8_numberAt 12 = .ok (.ishl, 1) := by decide +kernel
theorem dX8_numberAt_13 : decode cX8_numberAt 13 = .ok (.aload_n 0, 1) := by decide +kernel
theorem dX8_numberAt_14 : decode cX8_numberAt 14 = .ok (.iload_n 1, 1) := by decide +kernel
theorem dX8_numberAt_15 : decode cX8_numberAt 15 = .ok (.iconst 4, 1) := by decide +kernel
theorem dX8_numberAt_16 : decode cX8_numberAt 16 = .ok (.imul, 1) := by decide +kernel
theorem dX8_numberAt_17 : decode cX8_numberAt 17 = .ok (.iload_n 3, 1) := by decide +kernel
theorem dX8_numberAt_18 : decode cX8_numberAt 18 = .ok (.iadd, 1) := by decide +kernel
theorem dX8_numberAt_19 : decode cX8_numberAt 19 = .ok (.invokevirtual 19, 3) := by decide +kernel
theorem dX8_numberAt_22 : decode cX8_numberAt 22 = .ok (.sipush 255, 3) := by decide +kernel
theorem dX8_numberAt_25 : decode cX8_numberAt 25 = .ok (.iand, 1) := by decide +kernel
theorem dX8_numberAt_26 : decode cX8_numberAt 26 = .ok (.ior, 1) := by decide +kernel
theorem dX8_numberAt_27 : decode cX8_numberAt 27 = .ok (.istore_n 2, 1) := by decide +kernel
theorem dX8_numberAt_28 : decode cX8_numberAt 28 = .ok (.iinc 3 1, 3) := by decide +kernel
theorem dX8_numberAt_31 : decode cX8_numberAt 31 = .ok (.goto (-27), 3) := by decide +kernel
theorem dX8_numberAt_34 : decode cX8_numberAt 34 = .ok (.iload_n 2, 1) := by decide +kernel
theorem dX8_numberAt_35 : decode cX8_numberAt 35 = .ok (.ireturn, 1) := by decide +kernel
theorem dX8_empty_0 : decode cX8_empty 0 = .ok (.aload_n 0, 1) := by decide +kernel
theorem dX8_empty_1 : decode cX8_empty 1 = .ok (.iconst 0, 1) := by decide +kernel
theorem dX8_empty_2 : decode cX8_empty 2 = .ok (.putfield 15, 3) := by decide +kernel
theorem dX8_empty_5 : decode cX8_empty 5 = .ok (.return_, 1) := by decide +kernel
theorem dX9_init_0 : decode cX9_init 0 = .ok (.aload_n 0, 1) := by decide +kernel
theorem dX9_init_1 : decode cX9_init 1 = .ok (.invokespecial 3, 3) := by decide +kernel
theorem dX9_init_4 : decode cX9_init 4 = .ok (.aload_n 0, 1) := by decide +kernel
theorem dX9_init_5 : decode cX9_init 5 = .ok (.sipush 200, 3) := by decide +kernel
theorem dX9_init_8 : decode cX9_init 8 = .ok (.newarray .int, 2) := by decide +kernel
theorem dX9_init_10 : decode cX9_init 10 = .ok (.putfield 9, 3) := by decide +kernel
theorem dX9_init_13 : decode cX9_init 13 = .ok (.aload_n 0, 1) := by decide +kernel
theorem dX9_init_14 : decode cX9_init 14 = .ok (.bipush 32, 2) := by decide +kernel
theorem dX9_init_16 : decode cX9_init 16 = .ok (.newarray .int, 2) := by decide +kernel
theorem dX9_init_18 : decode cX9_init 18 = .ok (.putfield 15, 3) := by decide +kernel
theorem dX9_init_21 : decode cX9_init 21 = .ok (.aload_n 0, 1) := by decide +kernel
theorem dX9_init_22 : decode cX9_init 22 = .ok (.bipush 14, 2) := by decide +kernel
theorem dX9_init_24 : decode cX9_init 24 = .ok (.newarray .int, 2) := by decide +kernel
theorem dX9_init_26 : decode cX9_init 26 = .ok (.putfield 18, 3) := by decide +kernel
theorem dX9_init_29 : decode cX9_init 29 = .ok (.aload_n 0, 1) := by decide +kernel
theorem dX9_init_30 : decode cX9_init 30 = .ok (.bipush 14, 2) := by decide +kernel
theorem dX9_init_32 : decode cX9_init 32 = .ok (.newarray .int, 2) := by decide +kernel
theorem dX9_init_34 : decode cX9_init 34 = .ok (.putfield 21, 3) := by decide +kernel
theorem dX9_init_37 : decode cX9_init 37 = .ok (.aload_n 0, 1) := by decide +kernel
theorem dX9_init_38 : decode cX9_init 38 = .ok (.bipush 14, 2) := by decide +kernel
theorem dX9_init_40 : decode cX9_init 40 = .ok (.newarray .int, 2) := by decide +kernel
theorem dX9_init_42 : decode cX9_init 42 = .ok (.putfield 24, 3) := by decide +kernel
theorem dX9_init_45 : decode cX9_init 45 = .ok (.return_, 1) := by decide +kernel
theorem dX9_clear_0 : decode cX9_clear 0 = .ok (.aload_n 0, 1) := by decide +kernel
theorem dX9_clear_1 : decode cX9_clear 1 = .ok (.iconst 0, 1) := by decide +kernel
theorem dX9_clear_2 : decode cX9_clear 2 = .ok (.putfield 27, 3) := by decide +kernel
theorem dX9_clear_5 : decode cX9_clear 5 = .ok (.aload_n 0, 1) := by decide +kernel
theorem dX9_clear_6 : decode cX9_clear 6 = .ok (.iconst 0, 1) := by decide +kernel
theorem dX9_clear_7 : decode cX9_clear 7 = .ok (.putfield 31, 3) := by decide +kernel
theorem dX9_clear_10 : decode cX9_clear 10 = .ok (.return_, 1) := by decide +kernel
theorem dX9_beginClause_0 : decode cX9_beginClause 0 = .ok (.aload_n 0, 1) := by decide +kernel
theorem dX9_beginClause_1 : decode cX9_beginClause 1 = .ok (.getfield 31, 3) := by decide +kernel
theorem dX9_beginClause_4 : decode cX9_beginClause 4 = .ok (.bipush 14, 2) := by decide +kernel
theorem dX9_beginClause_6 : decode cX9_beginClause 6 = .ok (.if_icmp .ge 36, 3) := by decide +kernel
theorem dX9_beginClause_9 : decode cX9_beginClause 9 = .ok (.aload_n 0, 1) := by decide +kernel
theorem dX9_beginClause_10 : decode cX9_beginClause 10 = .ok (.getfield 18, 3) := by decide +kernel
theorem dX9_beginClause_13 : decode cX9_beginClause 13 = .ok (.aload_n 0, 1) := by decide +kernel
theorem dX9_beginClause_14 : decode cX9_beginClause 14 = .ok (.getfield 31, 3) := by decide +kernel
theorem dX9_beginClause_17 : decode cX9_beginClause 17 = .ok (.iload_n 1, 1) := by decide +kernel
theorem dX9_beginClause_18 : decode cX9_beginClause 18 = .ok (.iastore, 1) := by decide +kernel
theorem dX9_beginClause_19 : decode cX9_beginClause 19 = .ok (.aload_n 0, 1) := by decide +kernel
theorem dX9_beginClause_20 : decode cX9_beginClause 20 = .ok (.getfield 21, 3) := by decide +kernel
theorem dX9_beginClause_23 : decode cX9_beginClause 23 = .ok (.aload_n 0, 1) := by decide +kernel
theorem dX9_beginClause_24 : decode cX9_beginClause 24 = .ok (.getfield 31, 3) := by decide +kernel
theorem dX9_beginClause_27 : decode cX9_beginClause 27 = .ok (.aload_n 0, 1) := by decide +kernel
theorem dX9_beginClause_28 : decode cX9_beginClause 28 = .ok (.getfield 27, 3) := by decide +kernel
theorem dX9_beginClause_31 : decode cX9_beginClause 31 = .ok (.iastore, 1) := by decide +kernel
theorem dX9_beginClause_32 : decode cX9_beginClause 32 = .ok (.aload_n 0, 1) := by decide +kernel
theorem dX9_beginClause_33 : decode cX9_beginClause 33 = .ok (.dup, 1) := by decide +kernel
theorem dX9_beginClause_34 : decode cX9_beginClause 34 = .ok (.getfield 31, 3) := by decide +kernel
theorem dX9_beginClause_37 : decode cX9_beginClause 37 = .ok (.iconst 1, 1) := by decide +kernel
theorem dX9_beginClause_38 : decode cX9_beginClause 38 = .ok (.iadd, 1) := by decide +kernel
theorem dX9_beginClause_39 : decode cX9_beginClause 39 = .ok (.putfield 31, 3) := by decide +kernel
theorem dX9_beginClause_42 : decode cX9_beginClause 42 = .ok (.return_, 1) := by decide +kernel
theorem dX9_beginCondition_0 : decode cX9_beginCondition 0 = .ok (.aload_n 0, 1) := by decide +kernel
theorem dX9_beginCondition_1 : decode cX9_beginCondition 1 = .ok (.getfield 31, 3) := by decide +kernel
theorem dX9_beginCondition_4 : decode cX9_beginCondition 4 = .ok (.ifCond .le 18, 3) := by decide +kernel
theorem dX9_beginCondition_7 : decode cX9_beginCondition 7 = .ok (.aload_n 0, 1) := by decide +kernel
theorem dX9_beginCondition_8 : decode cX9_beginCondition 8 = .ok (.getfield 24, 3) := by decide +kernel
theorem dX9_beginCondition_11 : decode cX9_beginCondition 11 = .ok (.aload_n 0, 1) := by decide +kernel
theorem dX9_beginCondition_12 : decode cX9_beginCondition 12 = .ok (.getfield 31, 3) := by decide +kernel
theorem dX9_beginCondition_15 : decode cX9_beginCondition 15 = .ok (.iconst 1, 1) := by decide +kernel
theorem dX9_beginCondition_16 : decode cX9_beginCondition 16 = .ok (.isub, 1) := by decide +kernel
theorem dX9_beginCondition_17 : decode cX9_beginCondition 17 = .ok (.aload_n 0, 1) := by decide +kernel
theorem dX9_beginCondition_18 : decode cX9_beginCondition 18 = .ok (.getfield 27, 3) := by decide +kernel
theorem dX9_beginCondition_21 : decode cX9_beginCondition 21 = .ok (.iastore, 1) := by decide +kernel
theorem dX9_beginCondition_22 : decode cX9_beginCondition 22 = .ok (.return_, 1) := by decide +kernel
theorem dX9_add_0 : decode cX9_add 0 = .ok (.aload_n 0, 1) := by decide +kernel
theorem dX9_add_1 : decode cX9_add 1 = .ok (.getfield 27, 3) := by decide +kernel
theorem dX9_add_4 : decode cX9_add 4 = .ok (.aload_n 0, 1) := by decide +kernel
theorem dX9_add_5 : decode cX9_add 5 = .ok (.getfield 9, 3) := by decide +kernel
theorem dX9_add_8 : decode cX9_add 8 = .ok (.arraylength, 1) := by decide +kernel
theorem dX9_add_9 : decode cX9_add 9 = .ok (.if_icmp .lt 8, 3) := by decide +kernel
theorem dX9_add_12 : decode cX9_add 12 = .ok (.aload_n 0, 1) := by decide +kernel
theorem dX9_add_13 : decode cX9_add 13 = .ok (.getfield 27, 3) := by decide +kernel
theorem dX9_add_16 : decode cX9_add 16 = .ok (.ireturn, 1) := by decide +kernel
theorem dX9_add_17 : decode cX9_add 17 = .ok (.aload_n 0, 1) := by decide +kernel
theorem dX9_add_18 : decode cX9_add 18 = .ok (.getfield 9, 3) := by decide +kernel
theorem dX9_add_21 : decode cX9_add 21 = .ok (.aload_n 0, 1) := by decide +kernel
theorem dX9_add_22 : decode cX9_add 22 = .ok (.getfield 27, 3) := by decide +kernel
theorem dX9_add_25 : decode cX9_add 25 = .ok (.iload_n 2, 1) := by decide +kernel
theorem dX9_add_26 : decode cX9_add 26 = .ok (.iconst 4, 1) := by decide +kernel
theorem dX9_add_27 : decode cX9_add 27 = .ok (.ishl, 1) := by decide +kernel
theorem dX9_add_28 : decode cX9_add 28 = .ok (.iload_n 1, 1) := by decide +kernel
theorem dX9_add_29 : decode cX9_add 29 = .ok (.ior, 1) := by decide +kernel
theorem dX9_add_30 : decode cX9_add 30 = .ok (.iastore, 1) := by decide +kernel
theorem dX9_add_31 : decode cX9_add 31 = .ok (.aload_n 0, 1) := by decide +kernel
theorem dX9_add_32 : decode cX9_add 32 = .ok (.dup, 1) := by decide +kernel
theorem dX9_add_33 : decode cX9_add 33 = .ok (.getfield 27, 3) := by decide +kernel
theorem dX9_add_36 : decode cX9_add 36 = .ok (.iconst 1, 1) := by decide +kernel
theorem dX9_add_37 : decode cX9_add 37 = .ok (.iadd, 1) := by decide +kernel
theorem dX9_add_38 : decode cX9_add 38 = .ok (.putfield 27, 3) := by decide +kernel
theorem dX9_add_41 : decode cX9_add 41 = .ok (.aload_n 0, 1) := by decide +kernel
theorem dX9_add_42 : decode cX9_add 42 = .ok (.getfield 27, 3) := by decide +kernel
theorem dX9_add_45 : decode cX9_add 45 = .ok (.iconst 1, 1) := by decide +kernel
theorem dX9_add_46 : decode cX9_add 46 = .ok (.isub, 1) := by decide +kernel
theorem dX9_add_47 : decode cX9_add 47 = .ok (.ireturn, 1) := by decide +kernel
theorem dX9_landHere_0 : decode cX9_landHere 0 = .ok (.iload_n 1, 1) := by decide +kernel
theorem dX9_landHere_1 : decode cX9_landHere 1 = .ok (.ifCond .lt 33, 3) := by decide +kernel
theorem dX9_landHere_4 : decode cX9_landHere 4 = .ok (.iload_n 1, 1) := by decide +kernel
theorem dX9_landHere_5 : decode cX9_landHere 5 = .ok (.aload_n 0, 1) := by decide +kernel
theorem dX9_landHere_6 : decode cX9_landHere 6 = .ok (.getfield 27, 3) := by decide +kernel
theorem dX9_landHere_9 : decode cX9_landHere 9 = .ok (.if_icmp .ge 25, 3) := by decide +kernel
theorem dX9_landHere_12 : decode cX9_landHere 12 = .ok (.aload_n 0, 1) := by decide +kernel
theorem dX9_landHere_13 : decode cX9_landHere 13 = .ok (.getfield 9, 3) := by decide +kernel
theorem dX9_landHere_16 : decode cX9_landHere 16 = .ok (.iload_n 1, 1) := by decide +kernel
theorem dX9_landHere_17 : decode cX9_landHere 17 = .ok (.aload_n 0, 1) := by decide +kernel
theorem dX9_landHere_18 : decode cX9_landHere 18 = .ok (.getfield 27, 3) := by decide +kernel
theorem dX9_landHere_21 : decode cX9_landHere 21 = .ok (.iconst 4, 1) := by decide +kernel
theorem dX9_landHere_22 : decode cX9_landHere 22 = .ok (.ishl, 1) := by decide +kernel
theorem dX9_landHere_23 : decode cX9_landHere 23 = .ok (.aload_n 0, 1) := by decide +kernel
theorem dX9_landHere_24 : decode cX9_landHere 24 = .ok (.getfield 9, 3) := by decide +kernel
theorem dX9_landHere_27 : decode cX9_landHere 27 = .ok (.iload_n 1, 1) := by decide +kernel
theorem dX9_landHere_28 : decode cX9_landHere 28 = .ok (.iaload, 1) := by decide +kernel
theorem dX9_landHere_29 : decode cX9_landHere 29 = .ok (.bipush 15, 2) := by decide +kernel
theorem dX9_landHere_31 : decode cX9_landHere 31 = .ok (.iand, 1) := by decide +kernel
theorem dX9_landHere_32 : decode cX9_landHere 32 = .ok (.ior, 1) := by decide +kernel
theorem dX9_landHere_33 : decode cX9_landHere 33 = .ok (.iastore, 1) := by decide +kernel
theorem dX9_landHere_34 : decode cX9_landHere 34 = .ok (.return_, 1) := by decide +kernel
theorem dX9_value_0 : decode cX9_value 0 = .ok (.iconst 0, 1) := by decide +kernel
theorem dX9_value_1 : decode cX9_value 1 = .ok (.istore 5, 2) := by decide +kernel
theorem dX9_value_3 : decode cX9_value 3 = .ok (.iload 5, 2) := by decide +kernel
theorem dX9_value_5 : decode cX9_value 5 = .ok (.aload_n 0, 1) := by decide +kernel
theorem dX9_value_6 : decode cX9_value 6 = .ok (.getfield 31, 3) := by decide +kernel
theorem dX9_value_9 : decode cX9_value 9 = .ok (.if_icmp .ge 54, 3) := by decide +kernel
theorem dX9_value_12 : decode cX9_value 12 = .ok (.aload_n 0, 1) := by decide +kernel
theorem dX9_value_13 : decode cX9_value 13 = .ok (.getfield 18, 3) := by decide +kernel
theorem dX9_value_16 : decode cX9_value 16 = .ok (.iload 5, 2) := by decide +kernel
theorem dX9_value_18 : decode cX9_value 18 = .ok (.iaload, 1) := by decide +kernel
theorem dX9_value_19 : decode cX9_value 19 = .ok (.iload_n 1, 1) := by decide +kernel
theorem dX9_value_20 : decode cX9_value 20 = .ok (.if_icmp .ne 37, 3) := by decide +kernel
theorem dX9_value_23 : decode cX9_value 23 = .ok (.aload_n 0, 1) := by decide +kernel
theorem dX9_value_24 : decode cX9_value 24 = .ok (.aload_n 0, 1) := by decide +kernel
theorem dX9_value_25 : decode cX9_value 25 = .ok (.getfield 24, 3) := by decide +kernel
theorem dX9_value_28 : decode cX9_value 28 = .ok (.iload 5, 2) := by decide +kernel
theorem dX9_value_30 : decode cX9_value 30 = .ok (.iaload, 1) := by decide +kernel
theorem dX9_value_31 : decode cX9_value 31 = .ok (.aload_n 2, 1) := by decide +kernel
theorem dX9_value_32 : decode cX9_value 32 = .ok (.invokevirtual 34, 3) := by decide +kernel
theorem dX9_value_35 : decode cX9_value 35 = .ok (.ifCond .eq 22, 3) := by decide +kernel
theorem dX9_value_38 : decode cX9_value 38 = .ok (.aload_n 0, 1) := by decide +kernel
theorem dX9_value_39 : decode cX9_value 39 = .ok (.aload_n 0, 1) := by decide +kernel
theorem dX9_value_40 : decode cX9_value 40 = .ok (.getfield 21, 3) := by decide +kernel
theorem dX9_value_43 : decode cX9_value 43 = .ok (.iload 5, 2) := by decide +kernel
theorem dX9_value_45 : decode cX9_value 45 = .ok (.iaload, 1) := by decide +kernel
theorem dX9_value_46 : decode cX9_value 46 = .ok (.aload_n 2, 1) := by decide +kernel
theorem dX9_value_47 : decode cX9_value 47 = .ok (.invokevirtual 34, 3) := by decide +kernel
theorem dX9_value_50 : decode cX9_value 50 = .ok (.iload_n 3, 1) := by decide +kernel
theorem dX9_value_51 : decode cX9_value 51 = .ok (.iload 4, 2) := by decide +kernel
theorem dX9_value_53 : decode cX9_value 53 = .ok (.invokestatic 38, 3) := by decide +kernel
theorem dX9_value_56 : decode cX9_value 56 = .ok (.ireturn, 1) := by decide +kernel
theorem dX9_value_57 : decode cX9_value 57 = .ok (.iinc 5 1, 3) := by decide +kernel
theorem dX9_value_60 : decode cX9_value 60 = .ok (.goto (-57), 3) := by decide +kernel
theorem dX9_value_63 : decode cX9_value 63 = .ok (.iconst 0, 1) := by decide +kernel
theorem dX9_value_64 : decode cX9_value 64 = .ok (.ireturn, 1) := by decide +kernel
theorem dX9_run_0 : decode cX9_run 0 = .ok (.aload_n 0, 1) := by decide +kernel
theorem dX9_run_1 : decode cX9_run 1 = .ok (.iconst 0, 1) := by decide +kernel
theorem dX9_run_2 : decode cX9_run 2 = .ok (.putfield 42, 3) := by decide +kernel
theorem dX9_run_5 : decode cX9_run 5 = .ok (.aload_n 0, 1) := by decide +kernel
theorem dX9_run_6 : decode cX9_run 6 = .ok (.iconst 0, 1) := by decide +kernel
theorem dX9_run_7 : decode cX9_run 7 = .ok (.putfield 46, 3) := by decide +kernel
theorem dX9_run_10 : decode cX9_run 10 = .ok (.iload_n 1, 1) := by decide +kernel
theorem dX9_run_11 : decode cX9_run 11 = .ok (.istore_n 3, 1) := by decide +kernel
theorem dX9_run_12 : decode cX9_run 12 = .ok (.iconst 0, 1) := by decide +kernel
theorem dX9_run_13 : decode cX9_run 13 = .ok (.istore 4, 2) := by decide +kernel
theorem dX9_run_15 : decode cX9_run 15 = .ok (.iload 4, 2) := by decide +kernel
theorem dX9_run_17 : decode cX9_run 17 = .ok (.aload_n 0, 1) := by decide +kernel
theorem dX9_run_18 : decode cX9_run 18 = .ok (.getfield 9, 3) := by decide +kernel
theorem dX9_run_21 : decode cX9_run 21 = .ok (.arraylength, 1) := by decide +kernel
theorem dX9_run_22 : decode cX9_run 22 = .ok (.if_icmp .ge 50, 3) := by decide +kernel
theorem dX9_run_25 : decode cX9_run 25 = .ok (.iload_n 3, 1) := by decide +kernel
theorem dX9_run_26 : decode cX9_run 26 = .ok (.ifCond .lt 46, 3) := by decide +kernel
theorem dX9_run_29 : decode cX9_run 29 = .ok (.iload_n 3, 1) := by decide +kernel
theorem dX9_run_30 : decode cX9_run 30 = .ok (.aload_n 0, 1) := by decide +kernel
theorem dX9_run_31 : decode cX9_run 31 = .ok (.getfield 27, 3) := by decide +kernel
theorem dX9_run_34 : decode cX9_run 34 = .ok (.if_icmp .ge 38, 3) := by decide +kernel
theorem dX9_run_37 : decode cX9_run 37 = .ok (.aload_n 0, 1) := by decide +kernel
theorem dX9_run_38 : decode cX9_run 38 = .ok (.getfield 42, 3) := by decide +kernel
theorem dX9_run_41 : decode cX9_run 41 = .ok (.ifCond .ne 31, 3) := by decide +kernel
theorem dX9_run_44 : decode cX9_run 44 = .ok (.aload_n 0, 1) := by decide +kernel
theorem dX9_run_45 : decode cX9_run 45 = .ok (.getfield 9, 3) := by decide +kernel
theorem dX9_run_48 : decode cX9_run 48 = .ok (.iload_n 3, 1) := by decide +kernel
theorem dX9_run_49 : decode cX9_run 49 = .ok (.iaload, 1) := by decide +kernel
theorem dX9_run_50 : decode cX9_run 50 = .ok (.bipush 15, 2) := by decide +kernel
theorem dX9_run_52 : decode cX9_run 52 = .ok (.iand, 1) := by decide +kernel
theorem dX9_run_53 : decode cX9_run 53 = .ok (.ifCond .ne 6, 3) := by decide +kernel
theorem dX9_run_56 : decode cX9_run 56 = .ok (.goto 16, 3) := by decide +kernel
theorem dX9_run_59 : decode cX9_run 59 = .ok (.aload_n 0, 1) := by decide +kernel
theorem dX9_run_60 : decode cX9_run 60 = .ok (.iload_n 3, 1) := by decide +kernel
theorem dX9_run_61 : decode cX9_run 61 = .ok (.aload_n 2, 1) := by decide +kernel
theorem dX9_run_62 : decode cX9_run 62 = .ok (.invokevirtual 49, 3) := by decide +kernel
theorem dX9_run_65 : decode cX9_run 65 = .ok (.istore_n 3, 1) := by decide +kernel
theorem dX9_run_66 : decode cX9_run 66 = .ok (.iinc 4 1, 3) := by decide +kernel
theorem dX9_run_69 : decode cX9_run 69 = .ok (.goto (-54), 3) := by decide +kernel
theorem dX9_run_72 : decode cX9_run 72 = .ok (.aload_n 0, 1) := by decide +kernel
theorem dX9_run_73 : decode cX9_run 73 = .ok (.getfield 42, 3) := by decide +kernel
theorem dX9_run_76 : decode cX9_run 76 = .ok (.ifCond .eq 7, 3) := by decide +kernel
theorem dX9_run_79 : decode cX9_run 79 = .ok (.iconst 0, 1) := by decide +kernel
theorem dX9_run_80 : decode cX9_run 80 = .ok (.goto 7, 3) := by decide +kernel
theorem dX9_run_83 : decode cX9_run 83 = .ok (.aload_n 0, 1) := by decide +kernel
theorem dX9_run_84 : decode cX9_run 84 = .ok (.invokevirtual 52, 3) := by decide +kernel
theorem dX9_run_87 : decode cX9_run 87 = .ok (.ireturn, 1) := by decide +kernel
theorem dX9_stepOn_0 : decode cX9_stepOn 0 = .ok (.aload_n 0, 1) := by decide +kernel
theorem dX9_stepOn_1 : decode cX9_stepOn 1 = .ok (.getfield 9, 3) := by decide +kernel
theorem dX9_stepOn_4 : decode cX9_stepOn 4 = .ok (.iload_n 1, 1) := by decide +kernel
theorem dX9_stepOn_5 : decode cX9_stepOn 5 = .ok (.iaload, 1) := by decide +kernel
theorem dX9_stepOn_6 : decode cX9_stepOn 6 = .ok (.bipush 15, 2) := by decide +kernel
theorem dX9_stepOn_8 : decode cX9_stepOn 8 = .ok (.iand, 1) := by decide +kernel
theorem dX9_stepOn_9 : decode cX9_stepOn 9 = .ok (.istore_n 3, 1) := by decide +kernel
theorem dX9_stepOn_10 : decode cX9_stepOn 10 = .ok (.aload_n 0, 1) := by decide +kernel
theorem dX9_stepOn_11 : decode cX9_stepOn 11 = .ok (.getfield 9, 3) := by decide +kernel
theorem dX9_stepOn_14 : decode cX9_stepOn 14 = .ok (.iload_n 1, 1) := by decide +kernel
theorem dX9_stepOn_15 : decode cX9_stepOn 15 = .ok (.iaload, 1) := by decide +kernel
theorem dX9_stepOn_16 : decode cX9_stepOn 16 = .ok (.iconst 4, 1) := by decide +kernel
theorem dX9_stepOn_17 : decode cX9_stepOn 17 = .ok (.ishr, 1) := by decide +kernel
theorem dX9_stepOn_18 : decode cX9_stepOn 18 = .ok (.istore 4, 2) := by decide +kernel
theorem dX9_stepOn_20 : decode cX9_stepOn 20 = .ok (.iload_n 3, 1) := by decide +kernel
theorem dX9_stepOn_21 : decode cX9_stepOn 21 = .ok (.tableswitch 149 1 13 #[67, 77, 149, 149, 149, 149, 149, 149, 149, 149, 100, 114, 114], 67) := by decide +kernel
theorem dX9_stepOn_88 : decode cX9_stepOn 88 = .ok (.aload_n 0, 1) := by decide +kernel
theorem dX9_stepOn_89 : decode cX9_stepOn 89 = .ok (.iload 4, 2) := by decide +kernel
theorem dX9_stepOn_91 : decode cX9_stepOn 91 = .ok (.invokevirtual 56, 3) := by decide +kernel
theorem dX9_stepOn_94 : decode cX9_stepOn 94 = .ok (.iload_n 1, 1) := by decide +kernel
theorem dX9_stepOn_95 : decode cX9_stepOn 95 = .ok (.iconst 1, 1) := by decide +kernel
theorem dX9_stepOn_96 : decode cX9_stepOn 96 = .ok (.iadd, 1) := by decide +kernel
theorem dX9_stepOn_97 : decode cX9_stepOn 97 = .ok (.ireturn, 1) := by decide +kernel
theorem dX9_stepOn_98 : decode cX9_stepOn 98 = .ok (.aload_n 0, 1) := by decide +kernel
theorem dX9_stepOn_99 : decode cX9_stepOn 99 = .ok (.iload 4, 2) := by decide +kernel
theorem dX9_stepOn_101 : decode cX9_stepOn 101 = .ok (.aload_n 2, 1) := by decide +kernel
theorem dX9_stepOn_102 : decode cX9_stepOn 102 = .ok (.arraylength, 1) := by decide +kernel
theorem dX9_stepOn_103 : decode cX9_stepOn 103 = .ok (.if_icmp .ge 10, 3) := by decide +kernel
theorem dX9_stepOn_106 : decode cX9_stepOn 106 = .ok (.aload_n 2, 1) := by decide +kernel
theorem dX9_stepOn_107 : decode cX9_stepOn 107 = .ok (.iload 4, 2) := by decide +kernel
theorem dX9_stepOn_109 : decode cX9_stepOn 109 = .ok (.iaload, 1) := by decide +kernel
theorem dX9_stepOn_110 : decode cX9_stepOn 110 = .ok (.goto 4, 3) := by decide +kernel
theorem dX9_stepOn_113 : decode cX9_stepOn 113 = .ok (.iconst 0, 1) := by decide +kernel
theorem dX9_stepOn_114 : decode cX9_stepOn 114 = .ok (.invokevirtual 56, 3) := by decide +kernel
theorem dX9_stepOn_117 : decode cX9_stepOn 117 = .ok (.iload_n 1, 1) := by decide +kernel
theorem dX9_stepOn_118 : decode cX9_stepOn 118 = .ok (.iconst 1, 1) := by decide +kernel
theorem dX9_stepOn_119 : decode cX9_stepOn 119 = .ok (.iadd, 1) := by decide +kernel
theorem dX9_stepOn_120 : decode cX9_stepOn 120 = .ok (.ireturn, 1) := by decide +kernel
theorem dX9_stepOn_121 : decode cX9_stepOn 121 = .ok (.aload_n 0, 1) := by decide +kernel
theorem dX9_stepOn_122 : decode cX9_stepOn 122 = .ok (.iconst 1, 1) := by decide +kernel
theorem dX9_stepOn_123 : decode cX9_stepOn 123 = .ok (.aload_n 0, 1) := by decide +kernel
theorem dX9_stepOn_124 : decode cX9_stepOn 124 = .ok (.invokevirtual 52, 3) := by decide +kernel
theorem dX9_stepOn_127 : decode cX9_stepOn 127 = .ok (.isub, 1) := by decide +kernel
theorem dX9_stepOn_128 : decode cX9_stepOn 128 = .ok (.invokevirtual 56, 3) := by decide +kernel
theorem dX9_stepOn_131 : decode cX9_stepOn 131 = .ok (.iload_n 1, 1) := by decide +kernel
theorem dX9_stepOn_132 : decode cX9_stepOn 132 = .ok (.iconst 1, 1) := by decide +kernel
theorem dX9_stepOn_133 : decode cX9_stepOn 133 = .ok (.iadd, 1) := by decide +kernel
theorem dX9_stepOn_134 : decode cX9_stepOn 134 = .ok (.ireturn, 1) := by decide +kernel
theorem dX9_stepOn_135 : decode cX9_stepOn 135 = .ok (.aload_n 0, 1) := by decide +kernel
theorem dX9_stepOn_136 : decode cX9_stepOn 136 = .ok (.invokevirtual 52, 3) := by decide +kernel
theorem dX9_stepOn_139 : decode cX9_stepOn 139 = .ok (.istore 5, 2) := by decide +kernel
theorem dX9_stepOn_141 : decode cX9_stepOn 141 = .ok (.iload 5, 2) := by decide +kernel
theorem dX9_stepOn_143 : decode cX9_stepOn 143 = .ok (.iload_n 3, 1) := by decide +kernel
theorem dX9_stepOn_144 : decode cX9_stepOn 144 = .ok (.bipush 13, 2) := by decide +kernel
theorem dX9_stepOn_146 : decode cX9_stepOn 146 = .ok (.if_icmp .ne 7, 3) := by decide +kernel
theorem dX9_stepOn_149 : decode cX9_stepOn 149 = .ok (.iconst 1, 1) := by decide +kernel
theorem dX9_stepOn_150 : decode cX9_stepOn 150 = .ok (.goto 4, 3) := by decide +kernel
theorem dX9_stepOn_153 : decode cX9_stepOn 153 = .ok (.iconst 0, 1) := by decide +kernel
theorem dX9_stepOn_154 : decode cX9_stepOn 154 = .ok (.if_icmp .ne 12, 3) := by decide +kernel
theorem dX9_stepOn_157 : decode cX9_stepOn 157 = .ok (.aload_n 0, 1) := by decide +kernel
theorem dX9_stepOn_158 : decode cX9_stepOn 158 = .ok (.iload 5, 2) := by decide +kernel
theorem dX9_stepOn_160 : decode cX9_stepOn 160 = .ok (.invokevirtual 56, 3) := by decide +kernel
theorem dX9_stepOn_163 : decode cX9_stepOn 163 = .ok (.iload 4, 2) := by decide +kernel
theorem dX9_stepOn_165 : decode cX9_stepOn 165 = .ok (.ireturn, 1) := by decide +kernel
theorem dX9_stepOn_166 : decode cX9_stepOn 166 = .ok (.iload_n 1, 1) := by decide +kernel
theorem dX9_stepOn_167 : decode cX9_stepOn 167 = .ok (.iconst 1, 1) := by decide +kernel
theorem dX9_stepOn_168 : decode cX9_stepOn 168 = .ok (.iadd, 1) := by decide +kernel
theorem dX9_stepOn_169 : decode cX9_stepOn 169 = .ok (.ireturn, 1) := by decide +kernel
theorem dX9_stepOn_170 : decode cX9_stepOn 170 = .ok (.aload_n 0, 1) := by decide +kernel
theorem dX9_stepOn_171 : decode cX9_stepOn 171 = .ok (.invokevirtual 52, 3) := by decide +kernel
theorem dX9_stepOn_174 : decode cX9_stepOn 174 = .ok (.istore 5, 2) := by decide +kernel
theorem dX9_stepOn_176 : decode cX9_stepOn 176 = .ok (.aload_n 0, 1) := by decide +kernel
theorem dX9_stepOn_177 : decode cX9_stepOn 177 = .ok (.aload_n 0, 1) := by decide +kernel
theorem dX9_stepOn_178 : decode cX9_stepOn 178 = .ok (.iload_n 3, 1) := by decide +kernel
theorem dX9_stepOn_179 : decode cX9_stepOn 179 = .ok (.aload_n 0, 1) := by decide +kernel
theorem dX9_stepOn_180 : decode cX9_stepOn 180 = .ok (.invokevirtual 52, 3) := by decide +kernel
theorem dX9_stepOn_183 : decode cX9_stepOn 183 = .ok (.iload 5, 2) := by decide +kernel
theorem dX9_stepOn_185 : decode cX9_stepOn 185 = .ok (.invokevirtual 60, 3) := by decide +kernel
theorem dX9_stepOn_188 : decode cX9_stepOn 188 = .ok (.invokevirtual 56, 3) := by decide +kernel
theorem dX9_stepOn_191 : decode cX9_stepOn 191 = .ok (.iload_n 1, 1) := by decide +kernel
theorem dX9_stepOn_192 : decode cX9_stepOn 192 = .ok (.iconst 1, 1) := by decide +kernel
theorem dX9_stepOn_193 : decode cX9_stepOn 193 = .ok (.iadd, 1) := by decide +kernel
theorem dX9_stepOn_194 : decode cX9_stepOn 194 = .ok (.ireturn, 1) := by decide +kernel
theorem dX9_push_0 : decode cX9_push 0 = .ok (.aload_n 0, 1) := by decide +kernel
theorem dX9_push_1 : decode cX9_push 1 = .ok (.getfield 46, 3) := by decide +kernel
theorem dX9_push_4 : decode cX9_push 4 = .ok (.aload_n 0, 1) := by decide +kernel
theorem dX9_push_5 : decode cX9_push 5 = .ok (.getfield 15, 3) := by decide +kernel
theorem dX9_push_8 : decode cX9_push 8 = .ok (.arraylength, 1) := by decide +kernel
theorem dX9_push_9 : decode cX9_push 9 = .ok (.if_icmp .ge 23, 3) := by decide +kernel
theorem dX9_push_12 : decode cX9_push 12 = .ok (.aload_n 0, 1) := by decide +kernel
theorem dX9_push_13 : decode cX9_push 13 = .ok (.getfield 15, 3) := by decide +kernel
theorem dX9_push_16 : decode cX9_push 16 = .ok (.aload_n 0, 1) := by decide +kernel
theorem dX9_push_17 : decode cX9_push 17 = .ok (.getfield 46, 3) := by decide +kernel
theorem dX9_push_20 : decode cX9_push 20 = .ok (.iload_n 1, 1) := by decide +kernel
theorem dX9_push_21 : decode cX9_push 21 = .ok (.iastore, 1) := by decide +kernel
theorem dX9_push_22 : decode cX9_push 22 = .ok (.aload_n 0, 1) := by decide +kernel
theorem dX9_push_23 : decode cX9_push 23 = .ok (.dup, 1) := by decide +kernel
theorem dX9_push_24 : decode cX9_push 24 = .ok (.getfield 46, 3) := by decide +kernel
theorem dX9_push_27 : decode cX9_push 27 = .ok (.iconst 1, 1) := by decide +kernel
theorem dX9_push_28 : decode cX9_push 28 = .ok (.iadd, 1) := by decide +kernel
theorem dX9_push_29 : decode cX9_push 29 = .ok (.putfield 46, 3) := by decide +kernel
theorem dX9_push_32 : decode cX9_push 32 = .ok (.return_, 1) := by decide +kernel
theorem dX9_pop_0 : decode cX9_pop 0 = .ok (.aload_n 0, 1) := by decide +kernel
theorem dX9_pop_1 : decode cX9_pop 1 = .ok (.getfield 46, 3) := by decide +kernel
theorem dX9_pop_4 : decode cX9_pop 4 = .ok (.ifCond .ne 5, 3) := by decide +kernel
theorem dX9_pop_7 : decode cX9_pop 7 = .ok (.iconst 0, 1) := by decide +kernel
theorem dX9_pop_8 : decode cX9_pop 8 = .ok (.ireturn, 1) := by decide +kernel
theorem dX9_pop_9 : decode cX9_pop 9 = .ok (.aload_n 0, 1) := by decide +kernel
theorem dX9_pop_10 : decode cX9_pop 10 = .ok (.dup, 1) := by decide +kernel
theorem dX9_pop_11 : decode cX9_pop 11 = .ok (.getfield 46, 3) := by decide +kernel
theorem dX9_pop_14 : decode cX9_pop 14 = .ok (.iconst 1, 1) := by decide +kernel
theorem dX9_pop_15 : decode cX9_pop 15 = .ok (.isub, 1) := by decide +kernel
theorem dX9_pop_16 : decode cX9_pop 16 = .ok (.putfield 46, 3) := by decide +kernel
theorem dX9_pop_19 : decode cX9_pop 19 = .ok (.aload_n 0, 1) := by decide +kernel
theorem dX9_pop_20 : decode cX9_pop 20 = .ok (.getfield 15, 3) := by decide +kernel
theorem dX9_pop_23 : decode cX9_pop 23 = .ok (.aload_n 0, 1) := by decide +kernel
theorem dX9_pop_24 : decode cX9_pop 24 = .ok (.getfield 46, 3) := by decide +kernel
theorem dX9_pop_27 : decode cX9_pop 27 = .ok (.iaload, 1) := by decide +kernel
theorem dX9_pop_28 : decode cX9_pop 28 = .ok (.ireturn, 1) := by decide +kernel
theorem dX9_reckon_0 : decode cX9_reckon 0 = .ok (.iload_n 1, 1) := by decide +kernel
theorem dX9_reckon_1 : decode cX9_reckon 1 = .ok (.tableswitch 92 3 10 #[47, 51, 55, 92, 92, 59, 70, 81], 47) := by decide +kernel
theorem dX9_reckon_48 : decode cX9_reckon 48 = .ok (.iload_n 2, 1) := by decide +kernel
theorem dX9_reckon_49 : decode cX9_reckon 49 = .ok (.iload_n 3, 1) := by decide +kernel
theorem dX9_reckon_50 : decode cX9_reckon 50 = .ok (.iadd, 1) := by decide +kernel
theorem dX9_reckon_51 : decode cX9_reckon 51 = .ok (.ireturn, 1) := by decide +kernel
theorem dX9_reckon_52 : decode cX9_reckon 52 = .ok (.iload_n 2, 1) := by decide +kernel
theorem dX9_reckon_53 : decode cX9_reckon 53 = .ok (.iload_n 3, 1) := by decide +kernel
theorem dX9_reckon_54 : decode cX9_reckon 54 = .ok (.isub, 1) := by decide +kernel
theorem dX9_reckon_55 : decode cX9_reckon 55 = .ok (.ireturn, 1) := by decide +kernel
theorem dX9_reckon_56 : decode cX9_reckon 56 = .ok (.iload_n 2, 1) := by decide +kernel
theorem dX9_reckon_57 : decode cX9_reckon 57 = .ok (.iload_n 3, 1) := by decide +kernel
theorem dX9_reckon_58 : decode cX9_reckon 58 = .ok (.imul, 1) := by decide +kernel
theorem dX9_reckon_59 : decode cX9_reckon 59 = .ok (.ireturn, 1) := by decide +kernel
theorem dX9_reckon_60 : decode cX9_reckon 60 = .ok (.iload_n 2, 1) := by decide +kernel
theorem dX9_reckon_61 : decode cX9_reckon 61 = .ok (.iload_n 3, 1) := by decide +kernel
theorem dX9_reckon_62 : decode cX9_reckon 62 = .ok (.if_icmp .ge 7, 3) := by decide +kernel
theorem dX9_reckon_65 : decode cX9_reckon 65 = .ok (.iconst 1, 1) := by decide +kernel
theorem dX9_reckon_66 : decode cX9_reckon 66 = .ok (.goto 4, 3) := by decide +kernel
theorem dX9_reckon_69 : decode cX9_reckon 69 = .ok (.iconst 0, 1) := by decide +kernel
theorem dX9_reckon_70 : decode cX9_reckon 70 = .ok (.ireturn, 1) := by decide +kernel
theorem dX9_reckon_71 : decode cX9_reckon 71 = .ok (.iload_n 2, 1) := by decide +kernel
theorem dX9_reckon_72 : decode cX9_reckon 72 = .ok (.iload_n 3, 1) := by decide +kernel
theorem dX9_reckon_73 : decode cX9_reckon 73 = .ok (.if_icmp .le 7, 3) := by decide +kernel
theorem dX9_reckon_76 : decode cX9_reckon 76 = .ok (.iconst 1, 1) := by decide +kernel
theorem dX9_reckon_77 : decode cX9_reckon 77 = .ok (.goto 4, 3) := by decide +kernel
theorem dX9_reckon_80 : decode cX9_reckon 80 = .ok (.iconst 0, 1) := by decide +kernel
theorem dX9_reckon_81 : decode cX9_reckon 81 = .ok (.ireturn, 1) := by decide +kernel
theorem dX9_reckon_82 : decode cX9_reckon 82 = .ok (.iload_n 2, 1) := by decide +kernel
theorem dX9_reckon_83 : decode cX9_reckon 83 = .ok (.iload_n 3, 1) := by decide +kernel
theorem dX9_reckon_84 : decode cX9_reckon 84 = .ok (.if_icmp .ne 7, 3) := by decide +kernel
theorem dX9_reckon_87 : decode cX9_reckon 87 = .ok (.iconst 1, 1) := by decide +kernel
theorem dX9_reckon_88 : decode cX9_reckon 88 = .ok (.goto 4, 3) := by decide +kernel
theorem dX9_reckon_91 : decode cX9_reckon 91 = .ok (.iconst 0, 1) := by decide +kernel
theorem dX9_reckon_92 : decode cX9_reckon 92 = .ok (.ireturn, 1) := by decide +kernel
theorem dX9_reckon_93 : decode cX9_reckon 93 = .ok (.iload_n 3, 1) := by decide +kernel
theorem dX9_reckon_94 : decode cX9_reckon 94 = .ok (.ifCond .ne 10, 3) := by decide +kernel
theorem dX9_reckon_97 : decode cX9_reckon 97 = .ok (.aload_n 0, 1) := by decide +kernel
theorem dX9_reckon_98 : decode cX9_reckon 98 = .ok (.iconst 1, 1) := by decide +kernel
theorem dX9_reckon_99 : decode cX9_reckon 99 = .ok (.putfield 42, 3) := by decide +kernel
theorem dX9_reckon_102 : decode cX9_reckon 102 = .ok (.iconst 0, 1) := by decide +kernel
theorem dX9_reckon_103 : decode cX9_reckon 103 = .ok (.ireturn, 1) := by decide +kernel
theorem dX9_reckon_104 : decode cX9_reckon 104 = .ok (.iload_n 1, 1) := by decide +kernel
theorem dX9_reckon_105 : decode cX9_reckon 105 = .ok (.bipush 6, 2) := by decide +kernel
theorem dX9_reckon_107 : decode cX9_reckon 107 = .ok (.if_icmp .ne 9, 3) := by decide +kernel
theorem dX9_reckon_110 : decode cX9_reckon 110 = .ok (.iload_n 2, 1) := by decide +kernel
theorem dX9_reckon_111 : decode cX9_reckon 111 = .ok (.iload_n 3, 1) := by decide +kernel
theorem dX9_reckon_112 : decode cX9_reckon 112 = .ok (.idiv, 1) := by decide +kernel
theorem dX9_reckon_113 : decode cX9_reckon 113 = .ok (.goto 6, 3) := by decide +kernel
theorem dX9_reckon_116 : decode cX9_reckon 116 = .ok (.iload_n 2, 1) := by decide +kernel
theorem dX9_reckon_117 : decode cX9_reckon 117 = .ok (.iload_n 3, 1) := by decide +kernel
theorem dX9_reckon_118 : decode cX9_reckon 118 = .ok (.irem, 1) := by decide +kernel
theorem dX9_reckon_119 : decode cX9_reckon 119 = .ok (.ireturn, 1) := by decide +kernel
theorem dX10_init_0 : decode cX10_init 0 = .ok (.aload_n 0, 1) := by decide +kernel
theorem dX10_init_1 : decode cX10_init 1 = .ok (.invokespecial 3, 3) := by decide +kernel
theorem dX10_init_4 : decode cX10_init 4 = .ok (.aload_n 0, 1) := by decide +kernel
theorem dX10_init_5 : decode cX10_init 5 = .ok (.bipush 48, 2) := by decide +kernel
theorem dX10_init_7 : decode cX10_init 7 = .ok (.newarray .int, 2) := by decide +kernel
theorem dX10_init_9 : decode cX10_init 9 = .ok (.putfield 9, 3) := by decide +kernel
theorem dX10_init_12 : decode cX10_init 12 = .ok (.aload_n 0, 1) := by decide +kernel
theorem dX10_init_13 : decode cX10_init 13 = .ok (.aload_n 1, 1) := by decide +kernel
theorem dX10_init_14 : decode cX10_init 14 = .ok (.putfield 15, 3) := by decide +kernel
theorem dX10_init_17 : decode cX10_init 17 = .ok (.return_, 1) := by decide +kernel
theorem dX10_fall_0 : decode cX10_fall 0 = .ok (.aload_n 0, 1) := by decide +kernel
theorem dX10_fall_1 : decode cX10_fall 1 = .ok (.getfield 9, 3) := by decide +kernel
theorem dX10_fall_4 : decode cX10_fall 4 = .ok (.iconst (-1), 1) := by decide +kernel
theorem dX10_fall_5 : decode cX10_fall 5 = .ok (.invokestatic 19, 3) := by decide +kernel
theorem dX10_fall_8 : decode cX10_fall 8 = .ok (.return_, 1) := by decide +kernel
theorem dX10_tell_0 : decode cX10_tell 0 = .ok (.aload_n 0, 1) := by decide +kernel
theorem dX10_tell_1 : decode cX10_tell 1 = .ok (.getfield 9, 3) := by decide +kernel
theorem dX10_tell_4 : decode cX10_tell 4 = .ok (.iload_n 1, 1) := by decide +kernel
theorem dX10_tell_5 : decode cX10_tell 5 = .ok (.iconst 2, 1) := by decide +kernel
theorem dX10_tell_6 : decode cX10_tell 6 = .ok (.imul, 1) := by decide +kernel
theorem dX10_tell_7 : decode cX10_tell 7 = .ok (.iload_n 2, 1) := by decide +kernel
theorem dX10_tell_8 : decode cX10_tell 8 = .ok (.iadd, 1) := by decide +kernel
theorem dX10_tell_9 : decode cX10_tell 9 = .ok (.iload_n 3, 1) := by decide +kernel
theorem dX10_tell_10 : decode cX10_tell 10 = .ok (.iastore, 1) := by decide +kernel
theorem dX10_tell_11 : decode cX10_tell 11 = .ok (.return_, 1) := by decide +kernel
theorem dX10_at_0 : decode cX10_at 0 = .ok (.aload_n 0, 1) := by decide +kernel
theorem dX10_at_1 : decode cX10_at 1 = .ok (.getfield 15, 3) := by decide +kernel
theorem dX10_at_4 : decode cX10_at 4 = .ok (.iload_n 1, 1) := by decide +kernel
theorem dX10_at_5 : decode cX10_at 5 = .ok (.invokevirtual 25, 3) := by decide +kernel
theorem dX10_at_8 : decode cX10_at 8 = .ok (.ifCond .eq 7, 3) := by decide +kernel
theorem dX10_at_11 : decode cX10_at 11 = .ok (.iconst (-1), 1) := by decide +kernel
theorem dX10_at_12 : decode cX10_at 12 = .ok (.goto 13, 3) := by decide +kernel
theorem dX10_at_15 : decode cX10_at 15 = .ok (.aload_n 0, 1) := by decide +kernel
theorem dX10_at_16 : decode cX10_at 16 = .ok (.getfield 9, 3) := by decide +kernel
theorem dX10_at_19 : decode cX10_at 19 = .ok (.iload_n 1, 1) := by decide +kernel
theorem dX10_at_20 : decode cX10_at 20 = .ok (.iconst 2, 1) := by decide +kernel
theorem dX10_at_21 : decode cX10_at 21 = .ok (.imul, 1) := by decide +kernel
theorem dX10_at_22 : decode cX10_at 22 = .ok (.iload_n 2, 1) := by decide +kernel
theorem dX10_at_23 : decode cX10_at 23 = .ok (.iadd, 1) := by decide +kernel
theorem dX10_at_24 : decode cX10_at 24 = .ok (.iaload, 1) := by decide +kernel
theorem dX10_at_25 : decode cX10_at 25 = .ok (.ireturn, 1) := by decide +kernel
theorem dX10_pairsWithout_0 : decode cX10_pairsWithout 0 = .ok (.iconst 0, 1) := by decide +kernel
theorem dX10_pairsWithout_1 : decode cX10_pairsWithout 1 = .ok (.istore_n 3, 1) := by decide +kernel
theorem dX10_pairsWithout_2 : decode cX10_pairsWithout 2 = .ok (.iconst 0, 1) := by decide +kernel
theorem dX10_pairsWithout_3 : decode cX10_pairsWithout 3 = .ok (.istore 4, 2) := by decide +kernel
theorem dX10_pairsWithout_5 : decode cX10_pairsWithout 5 = .ok (.iload 4, 2) := by decide +kernel
theorem dX10_pairsWithout_7 : decode cX10_pairsWithout 7 = .ok (.aload_n 0, 1) := by decide +kernel
theorem dX10_pairsWithout_8 : decode cX10_pairsWithout 8 = .ok (.getfield 15, 3) := by decide +kernel
theorem dX10_pairsWithout_11 : decode cX10_pairsWithout 11 = .ok (.getfield 31, 3) := by decide +kernel
theorem dX10_pairsWithout_14 : decode cX10_pairsWithout 14 = .ok (.if_icmp .ge 71, 3) := by decide +kernel
theorem dX10_pairsWithout_17 : decode cX10_pairsWithout 17 = .ok (.aload_n 0, 1) := by decide +kernel
theorem dX10_pairsWithout_18 : decode cX10_pairsWithout 18 = .ok (.iload 4, 2) := by decide +kernel
theorem dX10_pairsWithout_20 : decode cX10_pairsWithout 20 = .ok (.iconst 0, 1) := by decide +kernel
theorem dX10_pairsWithout_21 : decode cX10_pairsWithout 21 = .ok (.invokevirtual 35, 3) := by decide +kernel
theorem dX10_pairsWithout_24 : decode cX10_pairsWithout 24 = .ok (.istore 5, 2) := by decide +kernel
theorem dX10_pairsWithout_26 : decode cX10_pairsWithout 26 = .ok (.aload_n 0, 1) := by decide +kernel
theorem dX10_pairsWithout_27 : decode cX10_pairsWithout 27 = .ok (.iload 4, 2) := by decide +kernel
theorem dX10_pairsWithout_29 : decode cX10_pairsWithout 29 = .ok (.iconst 1, 1) := by decide +kernel
theorem dX10_pairsWithout_30 : decode cX10_pairsWithout 30 = .ok (.invokevirtual 35, 3) := by decide +kernel
theorem dX10_pairsWithout_33 : decode cX10_pairsWithout 33 = .ok (.istore 6, 2) := by decide +kernel
theorem dX10_pairsWithout_35 : decode cX10_pairsWithout 35 = .ok (.iload 5, 2) := by decide +kernel
theorem dX10_pairsWithout_37 : decode cX10_pairsWithout 37 = .ok (.iload_n 1, 1) := by decide +kernel
theorem dX10_pairsWithout_38 : decode cX10_pairsWithout 38 = .ok (.if_icmp .eq 21, 3) := by decide +kernel
theorem dX10_pairsWithout_41 : decode cX10_pairsWithout 41 = .ok (.iload 5, 2) := by decide +kernel
theorem dX10_pairsWithout_43 : decode cX10_pairsWithout 43 = .ok (.iload_n 2, 1) := by decide +kernel
theorem dX10_pairsWithout_44 : decode cX10_pairsWithout 44 = .ok (.if_icmp .eq 15, 3) := by decide +kernel
theorem dX10_pairsWithout_47 : decode cX10_pairsWithout 47 = .ok (.iload 6, 2) := by decide +kernel
theorem dX10_pairsWithout_49 : decode cX10_pairsWithout 49 = .ok (.iload_n 1, 1) := by decide +kernel
theorem dX10_pairsWithout_50 : decode cX10_pairsWithout 50 = .ok (.if_icmp .eq 9, 3) := by decide +kernel
theorem dX10_pairsWithout_53 : decode cX10_pairsWithout 53 = .ok (.iload 6, 2) := by decide +kernel
theorem dX10_pairsWithout_55 : decode cX10_pairsWithout 55 = .ok (.iload_n 2, 1) := by decide +kernel
theorem dX10_pairsWithout_56 : decode cX10_pairsWithout 56 = .ok (.if_icmp .ne 7, 3) := by decide +kernel
theorem dX10_pairsWithout_59 : decode cX10_pairsWithout 59 = .ok (.iconst 1, 1) := by decide +kernel
theorem dX10_pairsWithout_60 : decode cX10_pairsWithout 60 = .ok (.goto 4, 3) := by decide +kernel
theorem dX10_pairsWithout_63 : decode cX10_pairsWithout 63 = .ok (.iconst 0, 1) := by decide +kernel
theorem dX10_pairsWithout_64 : decode cX10_pairsWithout 64 = .ok (.istore 7, 2) := by decide +kernel
theorem dX10_pairsWithout_66 : decode cX10_pairsWithout 66 = .ok (.iload_n 3, 1) := by decide +kernel
theorem dX10_pairsWithout_67 : decode cX10_pairsWithout 67 = .ok (.iload 7, 2) := by decide +kernel
theorem dX10_pairsWithout_69 : decode cX10_pairsWithout 69 = .ok (.ifCond .eq 7, 3) := by decide +kernel
theorem dX10_pairsWithout_72 : decode cX10_pairsWithout 72 = .ok (.iconst 0, 1) := by decide +kernel
theorem dX10_pairsWithout_73 : decode cX10_pairsWithout 73 = .ok (.goto 4, 3) := by decide +kernel
theorem dX10_pairsWithout_76 : decode cX10_pairsWithout 76 = .ok (.iconst 1, 1) := by decide +kernel
theorem dX10_pairsWithout_77 : decode cX10_pairsWithout 77 = .ok (.iadd, 1) := by decide +kernel
theorem dX10_pairsWithout_78 : decode cX10_pairsWithout 78 = .ok (.istore_n 3, 1) := by decide +kernel
theorem dX10_pairsWithout_79 : decode cX10_pairsWithout 79 = .ok (.iinc 4 1, 3) := by decide +kernel
theorem dX10_pairsWithout_82 : decode cX10_pairsWithout 82 = .ok (.goto (-77), 3) := by decide +kernel
theorem dX10_pairsWithout_85 : decode cX10_pairsWithout 85 = .ok (.iload_n 3, 1) := by decide +kernel
theorem dX10_pairsWithout_86 : decode cX10_pairsWithout 86 = .ok (.ireturn, 1) := by decide +kernel
theorem dX10_pairsSeen_0 : decode cX10_pairsSeen 0 = .ok (.aload_n 0, 1) := by decide +kernel
theorem dX10_pairsSeen_1 : decode cX10_pairsSeen 1 = .ok (.iconst 0, 1) := by decide +kernel
theorem dX10_pairsSeen_2 : decode cX10_pairsSeen 2 = .ok (.iconst (-1), 1) := by decide +kernel
theorem dX10_pairsSeen_3 : decode cX10_pairsSeen 3 = .ok (.invokevirtual 39, 3) := by decide +kernel
theorem dX10_pairsSeen_6 : decode cX10_pairsSeen 6 = .ok (.ireturn, 1) := by decide +kernel
theorem dX10_pairsThatMayBe_0 : decode cX10_pairsThatMayBe 0 = .ok (.aload_n 0, 1) := by decide +kernel
theorem dX10_pairsThatMayBe_1 : decode cX10_pairsThatMayBe 1 = .ok (.iconst 0, 1) := by decide +kernel
theorem dX10_pairsThatMayBe_2 : decode cX10_pairsThatMayBe 2 = .ok (.iconst 0, 1) := by decide +kernel
theorem dX10_pairsThatMayBe_3 : decode cX10_pairsThatMayBe 3 = .ok (.invokevirtual 39, 3) := by decide +kernel
theorem dX10_pairsThatMayBe_6 : decode cX10_pairsThatMayBe 6 = .ok (.ireturn, 1) := by decide +kernel
theorem dX10_those_0 : decode cX10_those 0 = .ok (.iconst 0, 1) := by decide +kernel
theorem dX10_those_1 : decode cX10_those 1 = .ok (.istore_n 2, 1) := by decide +kernel
theorem dX10_those_2 : decode cX10_those 2 = .ok (.iconst 0, 1) := by decide +kernel
theorem dX10_those_3 : decode cX10_those 3 = .ok (.istore_n 3, 1) := by decide +kernel
theorem dX10_those_4 : decode cX10_those 4 = .ok (.iload_n 3, 1) := by decide +kernel
theorem dX10_those_5 : decode cX10_those 5 = .ok (.aload_n 0, 1) := by decide +kernel
theorem dX10_those_6 : decode cX10_those 6 = .ok (.getfield 15, 3) := by decide +kernel
theorem dX10_those_9 : decode cX10_those 9 = .ok (.getfield 31, 3) := by decide +kernel
theorem dX10_those_12 : decode cX10_those 12 = .ok (.if_icmp .ge 45, 3) := by decide +kernel
theorem dX10_those_15 : decode cX10_those 15 = .ok (.iload_n 2, 1) := by decide +kernel
theorem dX10_those_16 : decode cX10_those 16 = .ok (.aload_n 0, 1) := by decide +kernel
theorem dX10_those_17 : decode cX10_those 17 = .ok (.iload_n 3, 1) := by decide +kernel
theorem dX10_those_18 : decode cX10_those 18 = .ok (.iconst 0, 1) := by decide +kernel
theorem dX10_those_19 : decode cX10_those 19 = .ok (.invokevirtual 35, 3) := by decide +kernel
theorem dX10_those_22 : decode cX10_those 22 = .ok (.iload_n 1, 1) := by decide +kernel
theorem dX10_those_23 : decode cX10_those 23 = .ok (.if_icmp .lt 7, 3) := by decide +kernel
theorem dX10_those_26 : decode cX10_those 26 = .ok (.iconst 1, 1) := by decide +kernel
theorem dX10_those_27 : decode cX10_those 27 = .ok (.goto 4, 3) := by decide +kernel
theorem dX10_those_30 : decode cX10_those 30 = .ok (.iconst 0, 1) := by decide +kernel
theorem dX10_those_31 : decode cX10_those 31 = .ok (.iadd, 1) := by decide +kernel
theorem dX10_those_32 : decode cX10_those 32 = .ok (.istore_n 2, 1) := by decide +kernel
theorem dX10_those_33 : decode cX10_those 33 = .ok (.iload_n 2, 1) := by decide +kernel
theorem dX10_those_34 : decode cX10_those 34 = .ok (.aload_n 0, 1) := by decide +kernel
theorem dX10_those_35 : decode cX10_those 35 = .ok (.iload_n 3, 1) := by decide +kernel
theorem dX10_those_36 : decode cX10_those 36 = .ok (.iconst 1, 1) := by decide +kernel
theorem dX10_those_37 : decode cX10_those 37 = .ok (.invokevirtual 35, 3) := by decide +kernel
theorem dX10_those_40 : decode cX10_those 40 = .ok (.iload_n 1, 1) := by decide +kernel
theorem dX10_those_41 : decode cX10_those 41 = .ok (.if_icmp .lt 7, 3) := by decide +kernel
theorem dX10_those_44 : decode cX10_those 44 = .ok (.iconst 1, 1) := by decide +kernel
theorem dX10_those_45 : decode cX10_those 45 = .ok (.goto 4, 3) := by decide +kernel
theorem dX10_those_48 : decode cX10_those 48 = .ok (.iconst 0, 1) := by decide +kernel
theorem dX10_those_49 : decode cX10_those 49 = .ok (.iadd, 1) := by decide +kernel
theorem dX10_those_50 : decode cX10_those 50 = .ok (.istore_n 2, 1) := by decide +kernel
theorem dX10_those_51 : decode cX10_those 51 = .ok (.iinc 3 1, 3) := by decide +kernel
theorem dX10_those_54 : decode cX10_those 54 = .ok (.goto (-50), 3) := by decide +kernel
theorem dX10_those_57 : decode cX10_those 57 = .ok (.iload_n 2, 1) := by decide +kernel
theorem dX10_those_58 : decode cX10_those 58 = .ok (.ireturn, 1) := by decide +kernel
theorem dX10_known_0 : decode cX10_known 0 = .ok (.aload_n 0, 1) := by decide +kernel
theorem dX10_known_1 : decode cX10_known 1 = .ok (.iconst 0, 1) := by decide +kernel
theorem dX10_known_2 : decode cX10_known 2 = .ok (.invokevirtual 42, 3) := by decide +kernel
theorem dX10_known_5 : decode cX10_known 5 = .ok (.ireturn, 1) := by decide +kernel
theorem dX10_seen_0 : decode cX10_seen 0 = .ok (.aload_n 0, 1) := by decide +kernel
theorem dX10_seen_1 : decode cX10_seen 1 = .ok (.iconst 1, 1) := by decide +kernel
theorem dX10_seen_2 : decode cX10_seen 2 = .ok (.invokevirtual 42, 3) := by decide +kernel
theorem dX10_seen_5 : decode cX10_seen 5 = .ok (.ireturn, 1) := by decide +kernel
theorem dX10_above_0 : decode cX10_above 0 = .ok (.aload_n 0, 1) := by decide +kernel
theorem dX10_above_1 : decode cX10_above 1 = .ok (.iload_n 1, 1) := by decide +kernel
theorem dX10_above_2 : decode cX10_above 2 = .ok (.iload_n 2, 1) := by decide +kernel
theorem dX10_above_3 : decode cX10_above 3 = .ok (.invokevirtual 35, 3) := by decide +kernel
theorem dX10_above_6 : decode cX10_above 6 = .ok (.istore_n 3, 1) := by decide +kernel
theorem dX10_above_7 : decode cX10_above 7 = .ok (.iload_n 3, 1) := by decide +kernel
theorem dX10_above_8 : decode cX10_above 8 = .ok (.iconst (-1), 1) := by decide +kernel
theorem dX10_above_9 : decode cX10_above 9 = .ok (.if_icmp .ne 10, 3) := by decide +kernel
theorem dX10_above_12 : decode cX10_above 12 = .ok (.aload_n 0, 1) := by decide +kernel
theorem dX10_above_13 : decode cX10_above 13 = .ok (.invokevirtual 46, 3) := by decide +kernel
theorem dX10_above_16 : decode cX10_above 16 = .ok (.goto 4, 3) := by decide +kernel
theorem dX10_above_19 : decode cX10_above 19 = .ok (.iload_n 3, 1) := by decide +kernel
theorem dX10_above_20 : decode cX10_above 20 = .ok (.ireturn, 1) := by decide +kernel
theorem dX10_below_0 : decode cX10_below 0 = .ok (.aload_n 0, 1) := by decide +kernel
theorem dX10_below_1 : decode cX10_below 1 = .ok (.iload_n 1, 1) := by decide +kernel
theorem dX10_below_2 : decode cX10_below 2 = .ok (.iload_n 2, 1) := by decide +kernel
theorem dX10_below_3 : decode cX10_below 3 = .ok (.invokevirtual 35, 3) := by decide +kernel
theorem dX10_below_6 : decode cX10_below 6 = .ok (.iconst (-1), 1) := by decide +kernel
theorem dX10_below_7 : decode cX10_below 7 = .ok (.if_icmp .ne 10, 3) := by decide +kernel
theorem dX10_below_10 : decode cX10_below 10 = .ok (.aload_n 0, 1) := by decide +kernel
theorem dX10_below_11 : decode cX10_below 11 = .ok (.invokevirtual 50, 3) := by decide +kernel
theorem dX10_below_14 : decode cX10_below 14 = .ok (.goto 4, 3) := by decide +kernel
theorem dX10_below_17 : decode cX10_below 17 = .ok (.iconst 1, 1) := by decide +kernel
theorem dX10_below_18 : decode cX10_below 18 = .ok (.ireturn, 1) := by decide +kernel
theorem dX11_init_0 : decode cX11_init 0 = .ok (.aload_n 0, 1) := by decide +kernel
theorem dX11_init_1 : decode cX11_init 1 = .ok (.invokespecial 1, 3) := by decide +kernel
theorem dX11_init_4 : decode cX11_init 4 = .ok (.aload_n 0, 1) := by decide +kernel
theorem dX11_init_5 : decode cX11_init 5 = .ok (.new 7, 3) := by decide +kernel
theorem dX11_init_8 : decode cX11_init 8 = .ok (.dup, 1) := by decide +kernel
theorem dX11_init_9 : decode cX11_init 9 = .ok (.invokespecial 9, 3) := by decide +kernel
theorem dX11_init_12 : decode cX11_init 12 = .ok (.putfield 10, 3) := by decide +kernel
theorem dX11_init_15 : decode cX11_init 15 = .ok (.aload_n 0, 1) := by decide +kernel
theorem dX11_init_16 : decode cX11_init 16 = .ok (.new 16, 3) := by decide +kernel
theorem dX11_init_19 : decode cX11_init 19 = .ok (.dup, 1) := by decide +kernel
theorem dX11_init_20 : decode cX11_init 20 = .ok (.aload_n 0, 1) := by decide +kernel
theorem dX11_init_21 : decode cX11_init 21 = .ok (.getfield 10, 3) := by decide +kernel
theorem dX11_init_24 : decode cX11_init 24 = .ok (.invokespecial 18, 3) := by decide +kernel
theorem dX11_init_27 : decode cX11_init 27 = .ok (.putfield 21, 3) := by decide +kernel
theorem dX11_init_30 : decode cX11_init 30 = .ok (.aload_n 0, 1) := by decide +kernel
theorem dX11_init_31 : decode cX11_init 31 = .ok (.iconst 4, 1) := by decide +kernel
theorem dX11_init_32 : decode cX11_init 32 = .ok (.anewarray 25, 3) := by decide +kernel
theorem dX11_init_35 : decode cX11_init 35 = .ok (.dup, 1) := by decide +kernel
theorem dX11_init_36 : decode cX11_init 36 = .ok (.iconst 0, 1) := by decide +kernel
theorem dX11_init_37 : decode cX11_init 37 = .ok (.new 25, 3) := by decide +kernel
theorem dX11_init_40 : decode cX11_init 40 = .ok (.dup, 1) := by decide +kernel
theorem dX11_init_41 : decode cX11_init 41 = .ok (.invokespecial 27, 3) := by decide +kernel
theorem dX11_init_44 : decode cX11_init 44 = .ok (.aastore, 1) := by decide +kernel
theorem dX11_init_45 : decode cX11_init 45 = .ok (.dup, 1) := by decide +kernel
theorem dX11_init_46 : decode cX11_init 46 = .ok (.iconst 1, 1) := by decide +kernel
theorem dX11_init_47 : decode cX11_init 47 = .ok (.new 25, 3) := by decide +kernel
theorem dX11_init_50 : decode cX11_init 50 = .ok (.dup, 1) := by decide +kernel
theorem dX11_init_51 : decode cX11_init 51 = .ok (.invokespecial 27, 3) := by decide +kernel
theorem dX11_init_54 : decode cX11_init 54 = .ok (.aastore, 1) := by decide +kernel
theorem dX11_init_55 : decode cX11_init 55 = .ok (.dup, 1) := by decide +kernel
theorem dX11_init_56 : decode cX11_init 56 = .ok (.iconst 2, 1) := by decide +kernel
theorem dX11_init_57 : decode cX11_init 57 = .ok (.new 25, 3) := by decide +kernel
theorem dX11_init_60 : decode cX11_init 60 = .ok (.dup, 1) := by decide +kernel
theorem dX11_init_61 : decode cX11_init 61 = .ok (.invokespecial 27, 3) := by decide +kernel
theorem dX11_init_64 : decode cX11_init 64 = .ok (.aastore, 1) := by decide +kernel
theorem dX11_init_65 : decode cX11_init 65 = .ok (.dup, 1) := by decide +kernel
theorem dX11_init_66 : decode cX11_init 66 = .ok (.iconst 3, 1) := by decide +kernel
theorem dX11_init_67 : decode cX11_init 67 = .ok (.new 25, 3) := by decide +kernel
theorem dX11_init_70 : decode cX11_init 70 = .ok (.dup, 1) := by decide +kernel
theorem dX11_init_71 : decode cX11_init 71 = .ok (.invokespecial 27, 3) := by decide +kernel
theorem dX11_init_74 : decode cX11_init 74 = .ok (.aastore, 1) := by decide +kernel
theorem dX11_init_75 : decode cX11_init 75 = .ok (.putfield 28, 3) := by decide +kernel
theorem dX11_init_78 : decode cX11_init 78 = .ok (.aload_n 0, 1) := by decide +kernel
theorem dX11_init_79 : decode cX11_init 79 = .ok (.bipush 26, 2) := by decide +kernel
theorem dX11_init_81 : decode cX11_init 81 = .ok (.newarray .int, 2) := by decide +kernel
theorem dX11_init_83 : decode cX11_init 83 = .ok (.putfield 32, 3) := by decide +kernel
theorem dX11_init_86 : decode cX11_init 86 = .ok (.aload_n 0, 1) := by decide +kernel
theorem dX11_init_87 : decode cX11_init 87 = .ok (.new 36, 3) := by decide +kernel
theorem dX11_init_90 : decode cX11_init 90 = .ok (.dup, 1) := by decide +kernel
theorem dX11_init_91 : decode cX11_init 91 = .ok (.invokespecial 38, 3) := by decide +kernel
theorem dX11_init_94 : decode cX11_init 94 = .ok (.putfield 39, 3) := by decide +kernel
theorem dX11_init_97 : decode cX11_init 97 = .ok (.aload_n 0, 1) := by decide +kernel
theorem dX11_init_98 : decode cX11_init 98 = .ok (.new 43, 3) := by decide +kernel
theorem dX11_init_101 : decode cX11_init 101 = .ok (.dup, 1) := by decide +kernel
theorem dX11_init_102 : decode cX11_init 102 = .ok (.aload_n 0, 1) := by decide +kernel
theorem dX11_init_103 : decode cX11_init 103 = .ok (.getfield 39, 3) := by decide +kernel
theorem dX11_init_106 : decode cX11_init 106 = .ok (.invokespecial 45, 3) := by decide +kernel
theorem dX11_init_109 : decode cX11_init 109 = .ok (.putfield 48, 3) := by decide +kernel
theorem dX11_init_112 : decode cX11_init 112 = .ok (.aload_n 0, 1) := by decide +kernel
theorem dX11_init_113 : decode cX11_init 113 = .ok (.new 52, 3) := by decide +kernel
theorem dX11_init_116 : decode cX11_init 116 = .ok (.dup, 1) := by decide +kernel
theorem dX11_init_117 : decode cX11_init 117 = .ok (.aload_n 0, 1) := by decide +kernel
theorem dX11_init_118 : decode cX11_init 118 = .ok (.getfield 39, 3) := by decide +kernel
theorem dX11_init_121 : decode cX11_init 121 = .ok (.invokespecial 54, 3) := by decide +kernel
theorem dX11_init_124 : decode cX11_init 124 = .ok (.putfield 55, 3) := by decide +kernel
theorem dX11_init_127 : decode cX11_init 127 = .ok (.aload_n 0, 1) := by decide +kernel
theorem dX11_init_128 : decode cX11_init 128 = .ok (.new 59, 3) := by decide +kernel
theorem dX11_init_131 : decode cX11_init 131 = .ok (.dup, 1) := by decide +kernel
theorem dX11_init_132 : decode cX11_init 132 = .ok (.aload_n 0, 1) := by decide +kernel
theorem dX11_init_133 : decode cX11_init 133 = .ok (.getfield 39, 3) := by decide +kernel
theorem dX11_init_136 : decode cX11_init 136 = .ok (.aload_n 0, 1) := by decide +kernel
theorem dX11_init_137 : decode cX11_init 137 = .ok (.getfield 55, 3) := by decide +kernel
theorem dX11_init_140 : decode cX11_init 140 = .ok (.invokespecial 61, 3) := by decide +kernel
theorem dX11_init_143 : decode cX11_init 143 = .ok (.putfield 64, 3) := by decide +kernel
theorem dX11_init_146 : decode cX11_init 146 = .ok (.aload_n 0, 1) := by decide +kernel
theorem dX11_init_147 : decode cX11_init 147 = .ok (.new 68, 3) := by decide +kernel
theorem dX11_init_150 : decode cX11_init 150 = .ok (.dup, 1) := by decide +kernel
theorem dX11_init_151 : decode cX11_init 151 = .ok (.aload_n 0, 1) := by decide +kernel
theorem dX11_init_152 : decode cX11_init 152 = .ok (.getfield 39, 3) := by decide +kernel
theorem dX11_init_155 : decode cX11_init 155 = .ok (.invokespecial 70, 3) := by decide +kernel
theorem dX11_init_158 : decode cX11_init 158 = .ok (.putfield 71, 3) := by decide +kernel
theorem dX11_init_161 : decode cX11_init 161 = .ok (.aload_n 0, 1) := by decide +kernel
theorem dX11_init_162 : decode cX11_init 162 = .ok (.new 75, 3) := by decide +kernel
theorem dX11_init_165 : decode cX11_init 165 = .ok (.dup, 1) := by decide +kernel
theorem dX11_init_166 : decode cX11_init 166 = .ok (.aload_n 0, 1) := by decide +kernel
theorem dX11_init_167 : decode cX11_init 167 = .ok (.getfield 39, 3) := by decide +kernel
theorem dX11_init_170 : decode cX11_init 170 = .ok (.invokespecial 77, 3) := by decide +kernel
theorem dX11_init_173 : decode cX11_init 173 = .ok (.putfield 78, 3) := by decide +kernel
theorem dX11_init_176 : decode cX11_init 176 = .ok (.aload_n 0, 1) := by decide +kernel
theorem dX11_init_177 : decode cX11_init 177 = .ok (.new 82, 3) := by decide +kernel
theorem dX11_init_180 : decode cX11_init 180 = .ok (.dup, 1) := by decide +kernel
theorem dX11_init_181 : decode cX11_init 181 = .ok (.invokespecial 84, 3) := by decide +kernel
theorem dX11_init_184 : decode cX11_init 184 = .ok (.putfield 85, 3) := by decide +kernel
theorem dX11_init_187 : decode cX11_init 187 = .ok (.aload_n 0, 1) := by decide +kernel
theorem dX11_init_188 : decode cX11_init 188 = .ok (.new 89, 3) := by decide +kernel
theorem dX11_init_191 : decode cX11_init 191 = .ok (.dup, 1) := by decide +kernel
theorem dX11_init_192 : decode cX11_init 192 = .ok (.invokespecial 91, 3) := by decide +kernel
theorem dX11_init_195 : decode cX11_init 195 = .ok (.putfield 92, 3) := by decide +kernel
theorem dX11_init_198 : decode cX11_init 198 = .ok (.aload_n 0, 1) := by decide +kernel
theorem dX11_init_199 : decode cX11_init 199 = .ok (.bipush 100, 2) := by decide +kernel
theorem dX11_init_201 : decode cX11_init 201 = .ok (.putfield 96, 3) := by decide +kernel
theorem dX11_init_204 : decode cX11_init 204 = .ok (.return_, 1) := by decide +kernel
theorem dX11_pitch_0 : decode cX11_pitch 0 = .ok (.iload_n 1, 1) := by decide +kernel
theorem dX11_pitch_1 : decode cX11_pitch 1 = .ok (.iconst 1, 1) := by decide +kernel
theorem dX11_pitch_2 : decode cX11_pitch 2 = .ok (.sipush 1000, 3) := by decide +kernel
theorem dX11_pitch_5 : decode cX11_pitch 5 = .ok (.invokestatic 100, 3) := by decide +kernel
theorem dX11_pitch_8 : decode cX11_pitch 8 = .ok (.ifCond .ne 5, 3) := by decide +kernel
theorem dX11_pitch_11 : decode cX11_pitch 11 = .ok (.iconst 0, 1) := by decide +kernel
theorem dX11_pitch_12 : decode cX11_pitch 12 = .ok (.ireturn, 1) := by decide +kernel
theorem dX11_pitch_13 : decode cX11_pitch 13 = .ok (.aload_n 0, 1) := by decide +kernel
theorem dX11_pitch_14 : decode cX11_pitch 14 = .ok (.iload_n 1, 1) := by decide +kernel
theorem dX11_pitch_15 : decode cX11_pitch 15 = .ok (.putfield 96, 3) := by decide +kernel
theorem dX11_pitch_18 : decode cX11_pitch 18 = .ok (.iconst 1, 1) := by decide +kernel
theorem dX11_pitch_19 : decode cX11_pitch 19 = .ok (.ireturn, 1) := by decide +kernel
theorem dX11_seed_0 : decode cX11_seed 0 = .ok (.iload_n 1, 1) := by decide +kernel
theorem dX11_seed_1 : decode cX11_seed 1 = .ok (.iconst 0, 1) := by decide +kernel
theorem dX11_seed_2 : decode cX11_seed 2 = .ok (.ldc 104, 2) := by decide +kernel
theorem dX11_seed_4 : decode cX11_seed 4 = .ok (.invokestatic 100, 3) := by decide +kernel
theorem dX11_seed_7 : decode cX11_seed 7 = .ok (.ifCond .ne 5, 3) := by decide +kernel
theorem dX11_seed_10 : decode cX11_seed 10 = .ok (.iconst 0, 1) := by decide +kernel
theorem dX11_seed_11 : decode cX11_seed 11 = .ok (.ireturn, 1) := by decide +kernel
theorem dX11_seed_12 : decode cX11_seed 12 = .ok (.aload_n 0, 1) := by decide +kernel
theorem dX11_seed_13 : decode cX11_seed 13 = .ok (.getfield 39, 3) := by decide +kernel
theorem dX11_seed_16 : decode cX11_seed 16 = .ok (.iload_n 1, 1) := by decide +kernel
theorem dX11_seed_17 : decode cX11_seed 17 = .ok (.putfield 105, 3) := by decide +kernel
theorem dX11_seed_20 : decode cX11_seed 20 = .ok (.iconst 1, 1) := by decide +kernel
theorem dX11_seed_21 : decode cX11_seed 21 = .ok (.ireturn, 1) := by decide +kernel
theorem dX11_feed_0 : decode cX11_feed 0 = .ok (.aload_n 0, 1) := by decide +kernel
theorem dX11_feed_1 : decode cX11_feed 1 = .ok (.getfield 10, 3) := by decide +kernel
theorem dX11_feed_4 : decode cX11_feed 4 = .ok (.bipush 20, 2) := by decide +kernel
theorem dX11_feed_6 : decode cX11_feed 6 = .ok (.invokevirtual 108, 3) := by decide +kernel
theorem dX11_feed_9 : decode cX11_feed 9 = .ok (.ifCond .ne 5, 3) := by decide +kernel
theorem dX11_feed_12 : decode cX11_feed 12 = .ok (.iconst (-1), 1) := by decide +kernel
theorem dX11_feed_13 : decode cX11_feed 13 = .ok (.ireturn, 1) := by decide +kernel
theorem dX11_feed_14 : decode cX11_feed 14 = .ok (.aload_n 0, 1) := by decide +kernel
theorem dX11_feed_15 : decode cX11_feed 15 = .ok (.getfield 10, 3) := by decide +kernel
theorem dX11_feed_18 : decode cX11_feed 18 = .ok (.iload_n 1, 1) := by decide +kernel
theorem dX11_feed_19 : decode cX11_feed 19 = .ok (.invokevirtual 112, 3) := by decide +kernel
theorem dX11_feed_22 : decode cX11_feed 22 = .ok (.aload_n 0, 1) := by decide +kernel
theorem dX11_feed_23 : decode cX11_feed 23 = .ok (.getfield 10, 3) := by decide +kernel
theorem dX11_feed_26 : decode cX11_feed 26 = .ok (.iload_n 2, 1) := by decide +kernel
theorem dX11_feed_27 : decode cX11_feed 27 = .ok (.invokevirtual 112, 3) := by decide +kernel
theorem dX11_feed_30 : decode cX11_feed 30 = .ok (.aload_n 0, 1) := by decide +kernel
theorem dX11_feed_31 : decode cX11_feed 31 = .ok (.getfield 10, 3) := by decide +kernel
theorem dX11_feed_34 : decode cX11_feed 34 = .ok (.iload_n 3, 1) := by decide +kernel
theorem dX11_feed_35 : decode cX11_feed 35 = .ok (.invokevirtual 112, 3) := by decide +kernel
theorem dX11_feed_38 : decode cX11_feed 38 = .ok (.aload_n 0, 1) := by decide +kernel
theorem dX11_feed_39 : decode cX11_feed 39 = .ok (.getfield 10, 3) := by decide +kernel
theorem dX11_feed_42 : decode cX11_feed 42 = .ok (.iload 4, 2) := by decide +kernel
theorem dX11_feed_44 : decode cX11_feed 44 = .ok (.invokevirtual 112, 3) := by decide +kernel
theorem dX11_feed_47 : decode cX11_feed 47 = .ok (.aload_n 0, 1) := by decide +kernel
theorem dX11_feed_48 : decode cX11_feed 48 = .ok (.getfield 10, 3) := by decide +kernel
theorem dX11_feed_51 : decode cX11_feed 51 = .ok (.iload 5, 2) := by decide +kernel
theorem dX11_feed_53 : decode cX11_feed 53 = .ok (.invokevirtual 112, 3) := by decide +kernel
theorem dX11_feed_56 : decode cX11_feed 56 = .ok (.aload_n 0, 1) := by decide +kernel
theorem dX11_feed_57 : decode cX11_feed 57 = .ok (.getfield 10, 3) := by decide +kernel
theorem dX11_feed_60 : decode cX11_feed 60 = .ok (.getfield 116, 3) := by decide +kernel
theorem dX11_feed_63 : decode cX11_feed 63 = .ok (.ireturn, 1) := by decide +kernel
theorem dX11_rule_0 : decode cX11_rule 0 = .ok (.aload_n 0, 1) := by decide +kernel
theorem dX11_rule_1 : decode cX11_rule 1 = .ok (.iconst 0, 1) := by decide +kernel
theorem dX11_rule_2 : decode cX11_rule 2 = .ok (.iload_n 1, 1) := by decide +kernel
theorem dX11_rule_3 : decode cX11_rule 3 = .ok (.ldc 119, 2) := by decide +kernel
theorem dX11_rule_5 : decode cX11_rule 5 = .ok (.invokevirtual 121, 3) := by decide +kernel
theorem dX11_rule_8 : decode cX11_rule 8 = .ok (.ireturn, 1) := by decide +kernel
theorem dX11_sand_0 : decode cX11_sand 0 = .ok (.aload_n 0, 1) := by decide +kernel
theorem dX11_sand_1 : decode cX11_sand 1 = .ok (.iconst 1, 1) := by decide +kernel
theorem dX11_sand_2 : decode cX11_sand 2 = .ok (.iload_n 1, 1) := by decide +kernel
theorem dX11_sand_3 : decode cX11_sand 3 = .ok (.ldc 125, 2) := by decide +kernel
theorem dX11_sand_5 : decode cX11_sand 5 = .ok (.invokevirtual 121, 3) := by decide +kernel
theorem dX11_sand_8 : decode cX11_sand 8 = .ok (.ireturn, 1) := by decide +kernel
theorem dX11_stain_0 : decode cX11_stain 0 = .ok (.aload_n 0, 1) := by decide +kernel
theorem dX11_stain_1 : decode cX11_stain 1 = .ok (.iconst 2, 1) := by decide +kernel
theorem dX11_stain_2 : decode cX11_stain 2 = .ok (.iload_n 1, 1) := by decide +kernel
theorem dX11_stain_3 : decode cX11_stain 3 = .ok (.ldc 127, 2) := by decide +kernel
theorem dX11_stain_5 : decode cX11_stain 5 = .ok (.invokevirtual 121, 3) := by decide +kernel
theorem dX11_stain_8 : decode cX11_stain 8 = .ok (.ireturn, 1) := by decide +kernel
theorem dX11_readText_0 : decode cX11_readText 0 = .ok (.iload_n 2, 1) := by decide +kernel
theorem dX11_readText_1 : decode cX11_readText 1 = .ok (.iconst 1, 1) := by decide +kernel
theorem dX11_readText_2 : decode cX11_readText 2 = .ok (.sipush 200, 3) := by decide +kernel
theorem dX11_readText_5 : decode cX11_readText 5 = .ok (.invokestatic 100, 3) := by decide +kernel
theorem dX11_readText_8 : decode cX11_readText 8 = .ok (.ifCond .eq 14, 3) := by decide +kernel
theorem dX11_readText_11 : decode cX11_readText 11 = .ok (.iload_n 2, 1) := by decide +kernel
theorem dX11_readText_12 : decode cX11_readText 12 = .ok (.aload_n 0, 1) := by decide +kernel
theorem dX11_readText_13 : decode cX11_readText 13 = .ok (.getfield 10, 3) := by decide +kernel
theorem dX11_readText_16 : decode cX11_readText 16 = .ok (.getfield 116, 3) := by decide +kernel
theorem dX11_readText_19 : decode cX11_readText 19 = .ok (.if_icmp .le 5, 3) := by decide +kernel
theorem dX11_readText_22 : decode cX11_readText 22 = .ok (.iconst (-1), 1) := by decide +kernel
theorem dX11_readText_23 : decode cX11_readText 23 = .ok (.ireturn, 1) := by decide +kernel
theorem dX11_readText_24 : decode cX11_readText 24 = .ok (.aload_n 0, 1) := by decide +kernel
theorem dX11_readText_25 : decode cX11_readText 25 = .ok (.getfield 28, 3) := by decide +kernel
theorem dX11_readText_28 : decode cX11_readText 28 = .ok (.iconst 3, 1) := by decide +kernel
theorem dX11_readText_29 : decode cX11_readText 29 = .ok (.aaload, 1) := by decide +kernel
theorem dX11_readText_30 : decode cX11_readText 30 = .ok (.astore 4, 2) := by decide +kernel
theorem dX11_readText_32 : decode cX11_readText 32 = .ok (.aload_n 0, 1) := by decide +kernel
theorem dX11_readText_33 : decode cX11_readText 33 = .ok (.getfield 21, 3) := by decide +kernel
theorem dX11_readText_36 : decode cX11_readText 36 = .ok (.iload_n 2, 1) := by decide +kernel
theorem dX11_readText_37 : decode cX11_readText 37 = .ok (.aload_n 3, 1) := by decide +kernel
theorem dX11_readText_38 : decode cX11_readText 38 = .ok (.aload 4, 2) := by decide +kernel
theorem dX11_readText_40 : decode cX11_readText 40 = .ok (.invokevirtual 129, 3) := by decide +kernel
theorem dX11_readText_43 : decode cX11_readText 43 = .ok (.istore 5, 2) := by decide +kernel
theorem dX11_readText_45 : decode cX11_readText 45 = .ok (.aload_n 0, 1) := by decide +kernel
theorem dX11_readText_46 : decode cX11_readText 46 = .ok (.getfield 10, 3) := by decide +kernel
theorem dX11_readText_49 : decode cX11_readText 49 = .ok (.invokevirtual 133, 3) := by decide +kernel
theorem dX11_readText_52 : decode cX11_readText 52 = .ok (.iload 5, 2) := by decide +kernel
theorem dX11_readText_54 : decode cX11_readText 54 = .ok (.ifCond .le 23, 3) := by decide +kernel
theorem dX11_readText_57 : decode cX11_readText 57 = .ok (.aload_n 0, 1) := by decide +kernel
theorem dX11_readText_58 : decode cX11_readText 58 = .ok (.getfield 28, 3) := by decide +kernel
theorem dX11_readText_61 : decode cX11_readText 61 = .ok (.iconst 3, 1) := by decide +kernel
theorem dX11_readText_62 : decode cX11_readText 62 = .ok (.aload_n 0, 1) := by decide +kernel
theorem dX11_readText_63 : decode cX11_readText 63 = .ok (.getfield 28, 3) := by decide +kernel
theorem dX11_readText_66 : decode cX11_readText 66 = .ok (.iload_n 1, 1) := by decide +kernel
theorem dX11_readText_67 : decode cX11_readText 67 = .ok (.aaload, 1) := by decide +kernel
theorem dX11_readText_68 : decode cX11_readText 68 = .ok (.aastore, 1) := by decide +kernel
theorem dX11_readText_69 : decode cX11_readText 69 = .ok (.aload_n 0, 1) := by decide +kernel
theorem dX11_readText_70 : decode cX11_readText 70 = .ok (.getfield 28, 3) := by decide +kernel
theorem dX11_readText_73 : decode cX11_readText 73 = .ok (.iload_n 1, 1) := by decide +kernel
theorem dX11_readText_74 : decode cX11_readText 74 = .ok (.aload 4, 2) := by decide +kernel
theorem dX11_readText_76 : decode cX11_readText 76 = .ok (.aastore, 1) := by decide +kernel
theorem dX11_readText_77 : decode cX11_readText 77 = .ok (.iload 5, 2) := by decide +kernel
theorem dX11_readText_79 : decode cX11_readText 79 = .ok (.ireturn, 1) := by decide +kernel
theorem dX11_build_0 : decode cX11_build 0 = .ok (.iload_n 1, 1) := by decide +kernel
theorem dX11_build_1 : decode cX11_build 1 = .ok (.iconst 3, 1) := by decide +kernel
theorem dX11_build_2 : decode cX11_build 2 = .ok (.bipush 24, 2) := by decide +kernel
theorem dX11_build_4 : decode cX11_build 4 = .ok (.invokestatic 100, 3) := by decide +kernel
theorem dX11_build_7 : decode cX11_build 7 = .ok (.ifCond .eq 13, 3) := by decide +kernel
theorem dX11_build_10 : decode cX11_build 10 = .ok (.iload_n 2, 1) := by decide +kernel
theorem dX11_build_11 : decode cX11_build 11 = .ok (.iconst 1, 1) := by decide +kernel
theorem dX11_build_12 : decode cX11_build 12 = .ok (.bipush 8, 2) := by decide +kernel
theorem dX11_build_14 : decode cX11_build 14 = .ok (.invokestatic 100, 3) := by decide +kernel
theorem dX11_build_17 : decode cX11_build 17 = .ok (.ifCond .ne 5, 3) := by decide +kernel
theorem dX11_build_20 : decode cX11_build 20 = .ok (.iconst (-1), 1) := by decide +kernel
theorem dX11_build_21 : decode cX11_build 21 = .ok (.ireturn, 1) := by decide +kernel
theorem dX11_build_22 : decode cX11_build 22 = .ok (.aload_n 0, 1) := by decide +kernel
theorem dX11_build_23 : decode cX11_build 23 = .ok (.getfield 48, 3) := by decide +kernel
theorem dX11_build_26 : decode cX11_build 26 = .ok (.invokevirtual 136, 3) := by decide +kernel
theorem dX11_build_29 : decode cX11_build 29 = .ok (.aload_n 0, 1) := by decide +kernel
theorem dX11_build_30 : decode cX11_build 30 = .ok (.getfield 78, 3) := by decide +kernel
theorem dX11_build_33 : decode cX11_build 33 = .ok (.invokevirtual 139, 3) := by decide +kernel
theorem dX11_build_36 : decode cX11_build 36 = .ok (.aload_n 0, 1) := by decide +kernel
theorem dX11_build_37 : decode cX11_build 37 = .ok (.getfield 39, 3) := by decide +kernel
theorem dX11_build_40 : decode cX11_build 40 = .ok (.iload_n 1, 1) := by decide +kernel
theorem dX11_build_41 : decode cX11_build 41 = .ok (.iload_n 2, 1) := by decide +kernel
theorem dX11_build_42 : decode cX11_build 42 = .ok (.aload_n 0, 1) := by decide +kernel
theorem dX11_build_43 : decode cX11_build 43 = .ok (.getfield 28, 3) := by decide +kernel
theorem dX11_build_46 : decode cX11_build 46 = .ok (.iconst 0, 1) := by decide +kernel
theorem dX11_build_47 : decode cX11_build 47 = .ok (.aaload, 1) := by decide +kernel
theorem dX11_build_48 : decode cX11_build 48 = .ok (.invokevirtual 140, 3) := by decide +kernel
theorem dX11_build_51 : decode cX11_build 51 = .ok (.ireturn, 1) := by decide +kernel
theorem dX11_mound_0 : decode cX11_mound 0 = .ok (.iload_n 1, 1) := by decide +kernel
theorem dX11_mound_1 : decode cX11_mound 1 = .ok (.iconst 0, 1) := by decide +kernel
theorem dX11_mound_2 : decode cX11_mound 2 = .ok (.bipush 23, 2) := by decide +kernel
theorem dX11_mound_4 : decode cX11_mound 4 = .ok (.invokestatic 100, 3) := by decide +kernel
theorem dX11_mound_7 : decode cX11_mound 7 = .ok (.ifCond .eq 14, 3) := by decide +kernel
theorem dX11_mound_10 : decode cX11_mound 10 = .ok (.iload_n 2, 1) := by decide +kernel
theorem dX11_mound_11 : decode cX11_mound 11 = .ok (.iconst 0, 1) := by decide +kernel
theorem dX11_mound_12 : decode cX11_mound 12 = .ok (.sipush 1000, 3) := by decide +kernel
theorem dX11_mound_15 : decode cX11_mound 15 = .ok (.invokestatic 100, 3) := by decide +kernel
theorem dX11_mound_18 : decode cX11_mound 18 = .ok (.ifCond .ne 5, 3) := by decide +kernel
theorem dX11_mound_21 : decode cX11_mound 21 = .ok (.iconst 0, 1) := by decide +kernel
theorem dX11_mound_22 : decode cX11_mound 22 = .ok (.ireturn, 1) := by decide +kernel
theorem dX11_mound_23 : decode cX11_mound 23 = .ok (.aload_n 0, 1) := by decide +kernel
theorem dX11_mound_24 : decode cX11_mound 24 = .ok (.getfield 39, 3) := by decide +kernel
theorem dX11_mound_27 : decode cX11_mound 27 = .ok (.getfield 144, 3) := by decide +kernel
theorem dX11_mound_30 : decode cX11_mound 30 = .ok (.iload_n 1, 1) := by decide +kernel
theorem dX11_mound_31 : decode cX11_mound 31 = .ok (.iload_n 2, 1) := by decide +kernel
theorem dX11_mound_32 : decode cX11_mound 32 = .ok (.iastore, 1) := by decide +kernel
theorem dX11_mound_33 : decode cX11_mound 33 = .ok (.iconst 1, 1) := by decide +kernel
theorem dX11_mound_34 : decode cX11_mound 34 = .ok (.ireturn, 1) := by decide +kernel
theorem dX11_bury_0 : decode cX11_bury 0 = .ok (.aload_n 0, 1) := by decide +kernel
theorem dX11_bury_1 : decode cX11_bury 1 = .ok (.getfield 39, 3) := by decide +kernel
theorem dX11_bury_4 : decode cX11_bury 4 = .ok (.invokevirtual 147, 3) := by decide +kernel
theorem dX11_bury_7 : decode cX11_bury 7 = .ok (.ifCond .eq 13, 3) := by decide +kernel
theorem dX11_bury_10 : decode cX11_bury 10 = .ok (.iload_n 1, 1) := by decide +kernel
theorem dX11_bury_11 : decode cX11_bury 11 = .ok (.iconst 1, 1) := by decide +kernel
theorem dX11_bury_12 : decode cX11_bury 12 = .ok (.bipush 9, 2) := by decide +kernel
theorem dX11_bury_14 : decode cX11_bury 14 = .ok (.invokestatic 100, 3) := by decide +kernel
theorem dX11_bury_17 : decode cX11_bury 17 = .ok (.ifCond .ne 5, 3) := by decide +kernel
theorem dX11_bury_20 : decode cX11_bury 20 = .ok (.iconst (-1), 1) := by decide +kernel
theorem dX11_bury_21 : decode cX11_bury 21 = .ok (.ireturn, 1) := by decide +kernel
theorem dX11_bury_22 : decode cX11_bury 22 = .ok (.aload_n 0, 1) := by decide +kernel
theorem dX11_bury_23 : decode cX11_bury 23 = .ok (.getfield 39, 3) := by decide +kernel
theorem dX11_bury_26 : decode cX11_bury 26 = .ok (.iload_n 1, 1) := by decide +kernel
theorem dX11_bury_27 : decode cX11_bury 27 = .ok (.aload_n 0, 1) := by decide +kernel
theorem dX11_bury_28 : decode cX11_bury 28 = .ok (.getfield 28, 3) := by decide +kernel
theorem dX11_bury_31 : decode cX11_bury 31 = .ok (.iconst 1, 1) := by decide +kernel
theorem dX11_bury_32 : decode cX11_bury 32 = .ok (.aaload, 1) := by decide +kernel
theorem dX11_bury_33 : decode cX11_bury 33 = .ok (.invokevirtual 151, 3) := by decide +kernel
theorem dX11_bury_36 : decode cX11_bury 36 = .ok (.aload_n 0, 1) := by decide +kernel
theorem dX11_bury_37 : decode cX11_bury 37 = .ok (.getfield 39, 3) := by decide +kernel
theorem dX11_bury_40 : decode cX11_bury 40 = .ok (.invokevirtual 155, 3) := by decide +kernel
theorem dX11_bury_43 : decode cX11_bury 43 = .ok (.ireturn, 1) := by decide +kernel
theorem dX11_lies_0 : decode cX11_lies 0 = .ok (.aload_n 0, 1) := by decide +kernel
theorem dX11_lies_1 : decode cX11_lies 1 = .ok (.getfield 39, 3) := by decide +kernel
theorem dX11_lies_4 : decode cX11_lies 4 = .ok (.iload_n 1, 1) := by decide +kernel
theorem dX11_lies_5 : decode cX11_lies 5 = .ok (.iload_n 2, 1) := by decide +kernel
theorem dX11_lies_6 : decode cX11_lies 6 = .ok (.iload_n 3, 1) := by decide +kernel
theorem dX11_lies_7 : decode cX11_lies 7 = .ok (.invokevirtual 159, 3) := by decide +kernel
theorem dX11_lies_10 : decode cX11_lies 10 = .ok (.istore 6, 2) := by decide +kernel
theorem dX11_lies_12 : decode cX11_lies 12 = .ok (.iload 6, 2) := by decide +kernel
theorem dX11_lies_14 : decode cX11_lies 14 = .ok (.ifCond .lt 31, 3) := by decide +kernel
theorem dX11_lies_17 : decode cX11_lies 17 = .ok (.iload 4, 2) := by decide +kernel
theorem dX11_lies_19 : decode cX11_lies 19 = .ok (.sipush (-3000), 3) := by decide +kernel
theorem dX11_lies_22 : decode cX11_lies 22 = .ok (.sipush 3000, 3) := by decide +kernel
theorem dX11_lies_25 : decode cX11_lies 25 = .ok (.invokestatic 100, 3) := by decide +kernel
theorem dX11_lies_28 : decode cX11_lies 28 = .ok (.ifCond .eq 17, 3) := by decide +kernel
theorem dX11_lies_31 : decode cX11_lies 31 = .ok (.iload 5, 2) := by decide +kernel
theorem dX11_lies_33 : decode cX11_lies 33 = .ok (.sipush (-3000), 3) := by decide +kernel
theorem dX11_lies_36 : decode cX11_lies 36 = .ok (.sipush 3000, 3) := by decide +kernel
theorem dX11_lies_39 : decode cX11_lies 39 = .ok (.invokestatic 100, 3) := by decide +kernel
theorem dX11_lies_42 : decode cX11_lies 42 = .ok (.ifCond .ne 5, 3) := by decide +kernel
theorem dX11_lies_45 : decode cX11_lies 45 = .ok (.iconst 0, 1) := by decide +kernel
theorem dX11_lies_46 : decode cX11_lies 46 = .ok (.ireturn, 1) := by decide +kernel
theorem dX11_lies_47 : decode cX11_lies 47 = .ok (.aload_n 0, 1) := by decide +kernel
theorem dX11_lies_48 : decode cX11_lies 48 = .ok (.getfield 39, 3) := by decide +kernel
theorem dX11_lies_51 : decode cX11_lies 51 = .ok (.iload 6, 2) := by decide +kernel
theorem dX11_lies_53 : decode cX11_lies 53 = .ok (.iload_n 2, 1) := by decide +kernel
theorem dX11_lies_54 : decode cX11_lies 54 = .ok (.iload 4, 2) := by decide +kernel
theorem dX11_lies_56 : decode cX11_lies 56 = .ok (.iload 5, 2) := by decide +kernel
theorem dX11_lies_58 : decode cX11_lies 58 = .ok (.invokevirtual 163, 3) := by decide +kernel
theorem dX11_lies_61 : decode cX11_lies 61 = .ok (.iconst 1, 1) := by decide +kernel
theorem dX11_lies_62 : decode cX11_lies 62 = .ok (.ireturn, 1) := by decide +kernel
theorem dX11_gone_0 : decode cX11_gone 0 = .ok (.aload_n 0, 1) := by decide +kernel
theorem dX11_gone_1 : decode cX11_gone 1 = .ok (.getfield 39, 3) := by decide +kernel
theorem dX11_gone_4 : decode cX11_gone 4 = .ok (.iload_n 1, 1) := by decide +kernel
theorem dX11_gone_5 : decode cX11_gone 5 = .ok (.iload_n 2, 1) := by decide +kernel
theorem dX11_gone_6 : decode cX11_gone 6 = .ok (.iload_n 3, 1) := by decide +kernel
theorem dX11_gone_7 : decode cX11_gone 7 = .ok (.invokevirtual 159, 3) := by decide +kernel
theorem dX11_gone_10 : decode cX11_gone 10 = .ok (.istore 4, 2) := by decide +kernel
theorem dX11_gone_12 : decode cX11_gone 12 = .ok (.iload 4, 2) := by decide +kernel
theorem dX11_gone_14 : decode cX11_gone 14 = .ok (.ifCond .lt 16, 3) := by decide +kernel
theorem dX11_gone_17 : decode cX11_gone 17 = .ok (.aload_n 0, 1) := by decide +kernel
