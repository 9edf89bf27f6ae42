theorem dX0_init_0 : decode cX0_init 0 = .ok (.aload_n 0, 1) := by decide +kernel
theorem dX0_init_1 : decode cX0_init 1 = .ok (.invokespecial 3, 3) := by decide +kernel
theorem dX0_init_4 : decode cX0_init 4 = .ok (.aload_n 0, 1) := by decide +kernel
theorem dX0_init_5 : decode cX0_init 5 = .ok (.sipush 1536, 3) := by decide +kernel
theorem dX0_init_8 : decode cX0_init 8 = .ok (.newarray .int, 2) := by decide +kernel
theorem dX0_init_10 : decode cX0_init 10 = .ok (.putfield 11, 3) := by decide +kernel
theorem dX0_init_13 : decode cX0_init 13 = .ok (.aload_n 0, 1) := by decide +kernel
theorem dX0_init_14 : decode cX0_init 14 = .ok (.sipush 1536, 3) := by decide +kernel
theorem dX0_init_17 : decode cX0_init 17 = .ok (.newarray .int, 2) := by decide +kernel
theorem dX0_init_19 : decode cX0_init 19 = .ok (.putfield 15, 3) := by decide +kernel
theorem dX0_init_22 : decode cX0_init 22 = .ok (.aload_n 0, 1) := by decide +kernel
theorem dX0_init_23 : decode cX0_init 23 = .ok (.sipush 1536, 3) := by decide +kernel
theorem dX0_init_26 : decode cX0_init 26 = .ok (.newarray .boolean, 2) := by decide +kernel
theorem dX0_init_28 : decode cX0_init 28 = .ok (.putfield 18, 3) := by decide +kernel
theorem dX0_init_31 : decode cX0_init 31 = .ok (.aload_n 0, 1) := by decide +kernel
theorem dX0_init_32 : decode cX0_init 32 = .ok (.sipush 384, 3) := by decide +kernel
theorem dX0_init_35 : decode cX0_init 35 = .ok (.newarray .int, 2) := by decide +kernel
theorem dX0_init_37 : decode cX0_init 37 = .ok (.putfield 22, 3) := by decide +kernel
theorem dX0_init_40 : decode cX0_init 40 = .ok (.aload_n 0, 1) := by decide +kernel
theorem dX0_init_41 : decode cX0_init 41 = .ok (.sipush 384, 3) := by decide +kernel
theorem dX0_init_44 : decode cX0_init 44 = .ok (.newarray .int, 2) := by decide +kernel
theorem dX0_init_46 : decode cX0_init 46 = .ok (.putfield 25, 3) := by decide +kernel
theorem dX0_init_49 : decode cX0_init 49 = .ok (.aload_n 0, 1) := by decide +kernel
theorem dX0_init_50 : decode cX0_init 50 = .ok (.aload_n 1, 1) := by decide +kernel
theorem dX0_init_51 : decode cX0_init 51 = .ok (.putfield 28, 3) := by decide +kernel
theorem dX0_init_54 : decode cX0_init 54 = .ok (.return_, 1) := by decide +kernel
theorem dX0_fall_0 : decode cX0_fall 0 = .ok (.aload_n 0, 1) := by decide +kernel
theorem dX0_fall_1 : decode cX0_fall 1 = .ok (.iconst 0, 1) := by decide +kernel
theorem dX0_fall_2 : decode cX0_fall 2 = .ok (.putfield 32, 3) := by decide +kernel
theorem dX0_fall_5 : decode cX0_fall 5 = .ok (.return_, 1) := by decide +kernel
theorem dX0_begin_0 : decode cX0_begin 0 = .ok (.aload_n 0, 1) := by decide +kernel
theorem dX0_begin_1 : decode cX0_begin 1 = .ok (.getfield 32, 3) := by decide +kernel
theorem dX0_begin_4 : decode cX0_begin 4 = .ok (.iconst 4, 1) := by decide +kernel
theorem dX0_begin_5 : decode cX0_begin 5 = .ok (.if_icmp .lt 5, 3) := by decide +kernel
theorem dX0_begin_8 : decode cX0_begin 8 = .ok (.iconst (-1), 1) := by decide +kernel
theorem dX0_begin_9 : decode cX0_begin 9 = .ok (.ireturn, 1) := by decide +kernel
theorem dX0_begin_10 : decode cX0_begin 10 = .ok (.iconst 0, 1) := by decide +kernel
theorem dX0_begin_11 : decode cX0_begin 11 = .ok (.istore_n 1, 1) := by decide +kernel
theorem dX0_begin_12 : decode cX0_begin 12 = .ok (.iload_n 1, 1) := by decide +kernel
theorem dX0_begin_13 : decode cX0_begin 13 = .ok (.sipush 384, 3) := by decide +kernel
theorem dX0_begin_16 : decode cX0_begin 16 = .ok (.if_icmp .ge 25, 3) := by decide +kernel
theorem dX0_begin_19 : decode cX0_begin 19 = .ok (.aload_n 0, 1) := by decide +kernel
theorem dX0_begin_20 : decode cX0_begin 20 = .ok (.getfield 18, 3) := by decide +kernel
theorem dX0_begin_23 : decode cX0_begin 23 = .ok (.aload_n 0, 1) := by decide +kernel
theorem dX0_begin_24 : decode cX0_begin 24 = .ok (.getfield 32, 3) := by decide +kernel
theorem dX0_begin_27 : decode cX0_begin 27 = .ok (.sipush 384, 3) := by decide +kernel
theorem dX0_begin_30 : decode cX0_begin 30 = .ok (.imul, 1) := by decide +kernel
theorem dX0_begin_31 : decode cX0_begin 31 = .ok (.iload_n 1, 1) := by decide +kernel
theorem dX0_begin_32 : decode cX0_begin 32 = .ok (.iadd, 1) := by decide +kernel
theorem dX0_begin_33 : decode cX0_begin 33 = .ok (.iconst 0, 1) := by decide +kernel
theorem dX0_begin_34 : decode cX0_begin 34 = .ok (.bastore, 1) := by decide +kernel
theorem dX0_begin_35 : decode cX0_begin 35 = .ok (.iinc 1 1, 3) := by decide +kernel
theorem dX0_begin_38 : decode cX0_begin 38 = .ok (.goto (-26), 3) := by decide +kernel
theorem dX0_begin_41 : decode cX0_begin 41 = .ok (.aload_n 0, 1) := by decide +kernel
theorem dX0_begin_42 : decode cX0_begin 42 = .ok (.dup, 1) := by decide +kernel
theorem dX0_begin_43 : decode cX0_begin 43 = .ok (.getfield 32, 3) := by decide +kernel
theorem dX0_begin_46 : decode cX0_begin 46 = .ok (.iconst 1, 1) := by decide +kernel
theorem dX0_begin_47 : decode cX0_begin 47 = .ok (.iadd, 1) := by decide +kernel
theorem dX0_begin_48 : decode cX0_begin 48 = .ok (.putfield 32, 3) := by decide +kernel
theorem dX0_begin_51 : decode cX0_begin 51 = .ok (.aload_n 0, 1) := by decide +kernel
theorem dX0_begin_52 : decode cX0_begin 52 = .ok (.getfield 32, 3) := by decide +kernel
theorem dX0_begin_55 : decode cX0_begin 55 = .ok (.iconst 1, 1) := by decide +kernel
theorem dX0_begin_56 : decode cX0_begin 56 = .ok (.isub, 1) := by decide +kernel
theorem dX0_begin_57 : decode cX0_begin 57 = .ok (.ireturn, 1) := by decide +kernel
theorem dX0_has_0 : decode cX0_has 0 = .ok (.iload_n 1, 1) := by decide +kernel
theorem dX0_has_1 : decode cX0_has 1 = .ok (.iconst 0, 1) := by decide +kernel
theorem dX0_has_2 : decode cX0_has 2 = .ok (.aload_n 0, 1) := by decide +kernel
theorem dX0_has_3 : decode cX0_has 3 = .ok (.getfield 32, 3) := by decide +kernel
theorem dX0_has_6 : decode cX0_has 6 = .ok (.iconst 1, 1) := by decide +kernel
theorem dX0_has_7 : decode cX0_has 7 = .ok (.isub, 1) := by decide +kernel
theorem dX0_has_8 : decode cX0_has 8 = .ok (.invokestatic 36, 3) := by decide +kernel
theorem dX0_has_11 : decode cX0_has 11 = .ok (.ireturn, 1) := by decide +kernel
theorem dX0_areTwo_0 : decode cX0_areTwo 0 = .ok (.aload_n 0, 1) := by decide +kernel
theorem dX0_areTwo_1 : decode cX0_areTwo 1 = .ok (.iload_n 1, 1) := by decide +kernel
theorem dX0_areTwo_2 : decode cX0_areTwo 2 = .ok (.invokevirtual 40, 3) := by decide +kernel
theorem dX0_areTwo_5 : decode cX0_areTwo 5 = .ok (.ifCond .eq 20, 3) := by decide +kernel
theorem dX0_areTwo_8 : decode cX0_areTwo 8 = .ok (.aload_n 0, 1) := by decide +kernel
theorem dX0_areTwo_9 : decode cX0_areTwo 9 = .ok (.iload_n 2, 1) := by decide +kernel
theorem dX0_areTwo_10 : decode cX0_areTwo 10 = .ok (.invokevirtual 40, 3) := by decide +kernel
theorem dX0_areTwo_13 : decode cX0_areTwo 13 = .ok (.ifCond .eq 12, 3) := by decide +kernel
theorem dX0_areTwo_16 : decode cX0_areTwo 16 = .ok (.iload_n 1, 1) := by decide +kernel
theorem dX0_areTwo_17 : decode cX0_areTwo 17 = .ok (.iload_n 2, 1) := by decide +kernel
theorem dX0_areTwo_18 : decode cX0_areTwo 18 = .ok (.if_icmp .eq 7, 3) := by decide +kernel
theorem dX0_areTwo_21 : decode cX0_areTwo 21 = .ok (.iconst 1, 1) := by decide +kernel
theorem dX0_areTwo_22 : decode cX0_areTwo 22 = .ok (.goto 4, 3) := by decide +kernel
theorem dX0_areTwo_25 : decode cX0_areTwo 25 = .ok (.iconst 0, 1) := by decide +kernel
theorem dX0_areTwo_26 : decode cX0_areTwo 26 = .ok (.ireturn, 1) := by decide +kernel
theorem dX0_hasMark_0 : decode cX0_hasMark 0 = .ok (.aload_n 0, 1) := by decide +kernel
theorem dX0_hasMark_1 : decode cX0_hasMark 1 = .ok (.iload_n 1, 1) := by decide +kernel
theorem dX0_hasMark_2 : decode cX0_hasMark 2 = .ok (.invokevirtual 40, 3) := by decide +kernel
theorem dX0_hasMark_5 : decode cX0_hasMark 5 = .ok (.ifCond .eq 33, 3) := by decide +kernel
theorem dX0_hasMark_8 : decode cX0_hasMark 8 = .ok (.iload_n 2, 1) := by decide +kernel
theorem dX0_hasMark_9 : decode cX0_hasMark 9 = .ok (.iconst 0, 1) := by decide +kernel
theorem dX0_hasMark_10 : decode cX0_hasMark 10 = .ok (.sipush 383, 3) := by decide +kernel
theorem dX0_hasMark_13 : decode cX0_hasMark 13 = .ok (.invokestatic 36, 3) := by decide +kernel
theorem dX0_hasMark_16 : decode cX0_hasMark 16 = .ok (.ifCond .eq 22, 3) := by decide +kernel
theorem dX0_hasMark_19 : decode cX0_hasMark 19 = .ok (.aload_n 0, 1) := by decide +kernel
theorem dX0_hasMark_20 : decode cX0_hasMark 20 = .ok (.getfield 18, 3) := by decide +kernel
theorem dX0_hasMark_23 : decode cX0_hasMark 23 = .ok (.iload_n 1, 1) := by decide +kernel
theorem dX0_hasMark_24 : decode cX0_hasMark 24 = .ok (.sipush 384, 3) := by decide +kernel
theorem dX0_hasMark_27 : decode cX0_hasMark 27 = .ok (.imul, 1) := by decide +kernel
theorem dX0_hasMark_28 : decode cX0_hasMark 28 = .ok (.iload_n 2, 1) := by decide +kernel
theorem dX0_hasMark_29 : decode cX0_hasMark 29 = .ok (.iadd, 1) := by decide +kernel
theorem dX0_hasMark_30 : decode cX0_hasMark 30 = .ok (.baload, 1) := by decide +kernel
theorem dX0_hasMark_31 : decode cX0_hasMark 31 = .ok (.ifCond .eq 7, 3) := by decide +kernel
theorem dX0_hasMark_34 : decode cX0_hasMark 34 = .ok (.iconst 1, 1) := by decide +kernel
theorem dX0_hasMark_35 : decode cX0_hasMark 35 = .ok (.goto 4, 3) := by decide +kernel
theorem dX0_hasMark_38 : decode cX0_hasMark 38 = .ok (.iconst 0, 1) := by decide +kernel
theorem dX0_hasMark_39 : decode cX0_hasMark 39 = .ok (.ireturn, 1) := by decide +kernel
theorem dX0_put_0 : decode cX0_put 0 = .ok (.iload_n 1, 1) := by decide +kernel
theorem dX0_put_1 : decode cX0_put 1 = .ok (.sipush 384, 3) := by decide +kernel
theorem dX0_put_4 : decode cX0_put 4 = .ok (.imul, 1) := by decide +kernel
theorem dX0_put_5 : decode cX0_put 5 = .ok (.iload_n 2, 1) := by decide +kernel
theorem dX0_put_6 : decode cX0_put 6 = .ok (.iadd, 1) := by decide +kernel
theorem dX0_put_7 : decode cX0_put 7 = .ok (.istore 5, 2) := by decide +kernel
theorem dX0_put_9 : decode cX0_put 9 = .ok (.aload_n 0, 1) := by decide +kernel
theorem dX0_put_10 : decode cX0_put 10 = .ok (.getfield 11, 3) := by decide +kernel
theorem dX0_put_13 : decode cX0_put 13 = .ok (.iload 5, 2) := by decide +kernel
theorem dX0_put_15 : decode cX0_put 15 = .ok (.iload_n 3, 1) := by decide +kernel
theorem dX0_put_16 : decode cX0_put 16 = .ok (.iastore, 1) := by decide +kernel
theorem dX0_put_17 : decode cX0_put 17 = .ok (.aload_n 0, 1) := by decide +kernel
theorem dX0_put_18 : decode cX0_put 18 = .ok (.getfield 15, 3) := by decide +kernel
theorem dX0_put_21 : decode cX0_put 21 = .ok (.iload 5, 2) := by decide +kernel
theorem dX0_put_23 : decode cX0_put 23 = .ok (.iload 4, 2) := by decide +kernel
theorem dX0_put_25 : decode cX0_put 25 = .ok (.iastore, 1) := by decide +kernel
theorem dX0_put_26 : decode cX0_put 26 = .ok (.aload_n 0, 1) := by decide +kernel
theorem dX0_put_27 : decode cX0_put 27 = .ok (.getfield 18, 3) := by decide +kernel
theorem dX0_put_30 : decode cX0_put 30 = .ok (.iload 5, 2) := by decide +kernel
theorem dX0_put_32 : decode cX0_put 32 = .ok (.iconst 1, 1) := by decide +kernel
theorem dX0_put_33 : decode cX0_put 33 = .ok (.bastore, 1) := by decide +kernel
theorem dX0_put_34 : decode cX0_put 34 = .ok (.return_, 1) := by decide +kernel
theorem dX0_at_0 : decode cX0_at 0 = .ok (.iload_n 1, 1) := by decide +kernel
theorem dX0_at_1 : decode cX0_at 1 = .ok (.sipush 384, 3) := by decide +kernel
theorem dX0_at_4 : decode cX0_at 4 = .ok (.imul, 1) := by decide +kernel
theorem dX0_at_5 : decode cX0_at 5 = .ok (.iload_n 2, 1) := by decide +kernel
theorem dX0_at_6 : decode cX0_at 6 = .ok (.iadd, 1) := by decide +kernel
theorem dX0_at_7 : decode cX0_at 7 = .ok (.istore 4, 2) := by decide +kernel
theorem dX0_at_9 : decode cX0_at 9 = .ok (.iload_n 3, 1) := by decide +kernel
theorem dX0_at_10 : decode cX0_at 10 = .ok (.ifCond .ne 13, 3) := by decide +kernel
theorem dX0_at_13 : decode cX0_at 13 = .ok (.aload_n 0, 1) := by decide +kernel
theorem dX0_at_14 : decode cX0_at 14 = .ok (.getfield 11, 3) := by decide +kernel
theorem dX0_at_17 : decode cX0_at 17 = .ok (.iload 4, 2) := by decide +kernel
theorem dX0_at_19 : decode cX0_at 19 = .ok (.iaload, 1) := by decide +kernel
theorem dX0_at_20 : decode cX0_at 20 = .ok (.goto 10, 3) := by decide +kernel
theorem dX0_at_23 : decode cX0_at 23 = .ok (.aload_n 0, 1) := by decide +kernel
theorem dX0_at_24 : decode cX0_at 24 = .ok (.getfield 15, 3) := by decide +kernel
theorem dX0_at_27 : decode cX0_at 27 = .ok (.iload 4, 2) := by decide +kernel
theorem dX0_at_29 : decode cX0_at 29 = .ok (.iaload, 1) := by decide +kernel
theorem dX0_at_30 : decode cX0_at 30 = .ok (.ireturn, 1) := by decide +kernel
theorem dX0_take_0 : decode cX0_take 0 = .ok (.iconst 0, 1) := by decide +kernel
theorem dX0_take_1 : decode cX0_take 1 = .ok (.istore 5, 2) := by decide +kernel
theorem dX0_take_3 : decode cX0_take 3 = .ok (.iload 5, 2) := by decide +kernel
theorem dX0_take_5 : decode cX0_take 5 = .ok (.aload_n 0, 1) := by decide +kernel
theorem dX0_take_6 : decode cX0_take 6 = .ok (.getfield 28, 3) := by decide +kernel
theorem dX0_take_9 : decode cX0_take 9 = .ok (.getfield 44, 3) := by decide +kernel
theorem dX0_take_12 : decode cX0_take 12 = .ok (.if_icmp .ge 133, 3) := by decide +kernel
theorem dX0_take_15 : decode cX0_take 15 = .ok (.iconst 0, 1) := by decide +kernel
theorem dX0_take_16 : decode cX0_take 16 = .ok (.istore 6, 2) := by decide +kernel
theorem dX0_take_18 : decode cX0_take 18 = .ok (.iload 6, 2) := by decide +kernel
theorem dX0_take_20 : decode cX0_take 20 = .ok (.aload_n 0, 1) := by decide +kernel
theorem dX0_take_21 : decode cX0_take 21 = .ok (.getfield 28, 3) := by decide +kernel
theorem dX0_take_24 : decode cX0_take 24 = .ok (.getfield 49, 3) := by decide +kernel
theorem dX0_take_27 : decode cX0_take 27 = .ok (.if_icmp .ge 112, 3) := by decide +kernel
theorem dX0_take_30 : decode cX0_take 30 = .ok (.iconst 0, 1) := by decide +kernel
theorem dX0_take_31 : decode cX0_take 31 = .ok (.istore 7, 2) := by decide +kernel
theorem dX0_take_33 : decode cX0_take 33 = .ok (.iload 7, 2) := by decide +kernel
theorem dX0_take_35 : decode cX0_take 35 = .ok (.iconst 2, 1) := by decide +kernel
theorem dX0_take_36 : decode cX0_take 36 = .ok (.if_icmp .ge 97, 3) := by decide +kernel
theorem dX0_take_39 : decode cX0_take 39 = .ok (.aload_n 0, 1) := by decide +kernel
theorem dX0_take_40 : decode cX0_take 40 = .ok (.getfield 28, 3) := by decide +kernel
theorem dX0_take_43 : decode cX0_take 43 = .ok (.iload 5, 2) := by decide +kernel
theorem dX0_take_45 : decode cX0_take 45 = .ok (.iload 6, 2) := by decide +kernel
theorem dX0_take_47 : decode cX0_take 47 = .ok (.iload 7, 2) := by decide +kernel
theorem dX0_take_49 : decode cX0_take 49 = .ok (.invokevirtual 52, 3) := by decide +kernel
theorem dX0_take_52 : decode cX0_take 52 = .ok (.istore 8, 2) := by decide +kernel
theorem dX0_take_54 : decode cX0_take 54 = .ok (.iload 8, 2) := by decide +kernel
theorem dX0_take_56 : decode cX0_take 56 = .ok (.ifCond .lt 71, 3) := by decide +kernel
theorem dX0_take_59 : decode cX0_take 59 = .ok (.aload_n 0, 1) := by decide +kernel
theorem dX0_take_60 : decode cX0_take 60 = .ok (.getfield 28, 3) := by decide +kernel
theorem dX0_take_63 : decode cX0_take 63 = .ok (.iload 8, 2) := by decide +kernel
theorem dX0_take_65 : decode cX0_take 65 = .ok (.iload 5, 2) := by decide +kernel
theorem dX0_take_67 : decode cX0_take 67 = .ok (.invokevirtual 56, 3) := by decide +kernel
theorem dX0_take_70 : decode cX0_take 70 = .ok (.ifCond .eq 57, 3) := by decide +kernel
theorem dX0_take_73 : decode cX0_take 73 = .ok (.aload_n 0, 1) := by decide +kernel
theorem dX0_take_74 : decode cX0_take 74 = .ok (.getfield 28, 3) := by decide +kernel
theorem dX0_take_77 : decode cX0_take 77 = .ok (.invokevirtual 60, 3) := by decide +kernel
theorem dX0_take_80 : decode cX0_take 80 = .ok (.iload 4, 2) := by decide +kernel
theorem dX0_take_82 : decode cX0_take 82 = .ok (.if_icmp .ge 8, 3) := by decide +kernel
theorem dX0_take_85 : decode cX0_take 85 = .ok (.bipush 50, 2) := by decide +kernel
theorem dX0_take_87 : decode cX0_take 87 = .ok (.goto 4, 3) := by decide +kernel
theorem dX0_take_90 : decode cX0_take 90 = .ok (.iconst 0, 1) := by decide +kernel
theorem dX0_take_91 : decode cX0_take 91 = .ok (.istore 9, 2) := by decide +kernel
theorem dX0_take_93 : decode cX0_take 93 = .ok (.aload_n 0, 1) := by decide +kernel
theorem dX0_take_94 : decode cX0_take 94 = .ok (.iload_n 1, 1) := by decide +kernel
theorem dX0_take_95 : decode cX0_take 95 = .ok (.iload 8, 2) := by decide +kernel
theorem dX0_take_97 : decode cX0_take 97 = .ok (.aload_n 0, 1) := by decide +kernel
theorem dX0_take_98 : decode cX0_take 98 = .ok (.getfield 28, 3) := by decide +kernel
theorem dX0_take_101 : decode cX0_take 101 = .ok (.getfield 64, 3) := by decide +kernel
theorem dX0_take_104 : decode cX0_take 104 = .ok (.iload 8, 2) := by decide +kernel
theorem dX0_take_106 : decode cX0_take 106 = .ok (.iaload, 1) := by decide +kernel
theorem dX0_take_107 : decode cX0_take 107 = .ok (.iload_n 2, 1) := by decide +kernel
theorem dX0_take_108 : decode cX0_take 108 = .ok (.iadd, 1) := by decide +kernel
theorem dX0_take_109 : decode cX0_take 109 = .ok (.iload 9, 2) := by decide +kernel
theorem dX0_take_111 : decode cX0_take 111 = .ok (.iadd, 1) := by decide +kernel
theorem dX0_take_112 : decode cX0_take 112 = .ok (.aload_n 0, 1) := by decide +kernel
theorem dX0_take_113 : decode cX0_take 113 = .ok (.getfield 28, 3) := by decide +kernel
theorem dX0_take_116 : decode cX0_take 116 = .ok (.getfield 65, 3) := by decide +kernel
theorem dX0_take_119 : decode cX0_take 119 = .ok (.iload 8, 2) := by decide +kernel
theorem dX0_take_121 : decode cX0_take 121 = .ok (.iaload, 1) := by decide +kernel
theorem dX0_take_122 : decode cX0_take 122 = .ok (.iload_n 3, 1) := by decide +kernel
theorem dX0_take_123 : decode cX0_take 123 = .ok (.iadd, 1) := by decide +kernel
theorem dX0_take_124 : decode cX0_take 124 = .ok (.invokevirtual 66, 3) := by decide +kernel
theorem dX0_take_127 : decode cX0_take 127 = .ok (.iinc 7 1, 3) := by decide +kernel
theorem dX0_take_130 : decode cX0_take 130 = .ok (.goto (-97), 3) := by decide +kernel
theorem dX0_take_133 : decode cX0_take 133 = .ok (.iinc 6 1, 3) := by decide +kernel
theorem dX0_take_136 : decode cX0_take 136 = .ok (.goto (-118), 3) := by decide +kernel
theorem dX0_take_139 : decode cX0_take 139 = .ok (.iinc 5 1, 3) := by decide +kernel
theorem dX0_take_142 : decode cX0_take 142 = .ok (.goto (-139), 3) := by decide +kernel
theorem dX0_take_145 : decode cX0_take 145 = .ok (.return_, 1) := by decide +kernel
theorem dX0_marksOf_0 : decode cX0_marksOf 0 = .ok (.iconst 0, 1) := by decide +kernel
theorem dX0_marksOf_1 : decode cX0_marksOf 1 = .ok (.istore_n 2, 1) := by decide +kernel
theorem dX0_marksOf_2 : decode cX0_marksOf 2 = .ok (.iconst 0, 1) := by decide +kernel
theorem dX0_marksOf_3 : decode cX0_marksOf 3 = .ok (.istore_n 3, 1) := by decide +kernel
theorem dX0_marksOf_4 : decode cX0_marksOf 4 = .ok (.iload_n 3, 1) := by decide +kernel
theorem dX0_marksOf_5 : decode cX0_marksOf 5 = .ok (.sipush 384, 3) := by decide +kernel
theorem dX0_marksOf_8 : decode cX0_marksOf 8 = .ok (.if_icmp .ge 26, 3) := by decide +kernel
theorem dX0_marksOf_11 : decode cX0_marksOf 11 = .ok (.iload_n 2, 1) := by decide +kernel
theorem dX0_marksOf_12 : decode cX0_marksOf 12 = .ok (.aload_n 0, 1) := by decide +kernel
theorem dX0_marksOf_13 : decode cX0_marksOf 13 = .ok (.iload_n 1, 1) := by decide +kernel
theorem dX0_marksOf_14 : decode cX0_marksOf 14 = .ok (.iload_n 3, 1) := by decide +kernel
theorem dX0_marksOf_15 : decode cX0_marksOf 15 = .ok (.invokevirtual 70, 3) := by decide +kernel
theorem dX0_marksOf_18 : decode cX0_marksOf 18 = .ok (.ifCond .eq 7, 3) := by decide +kernel
theorem dX0_marksOf_21 : decode cX0_marksOf 21 = .ok (.iconst 1, 1) := by decide +kernel
theorem dX0_marksOf_22 : decode cX0_marksOf 22 = .ok (.goto 4, 3) := by decide +kernel
theorem dX0_marksOf_25 : decode cX0_marksOf 25 = .ok (.iconst 0, 1) := by decide +kernel
theorem dX0_marksOf_26 : decode cX0_marksOf 26 = .ok (.iadd, 1) := by decide +kernel
theorem dX0_marksOf_27 : decode cX0_marksOf 27 = .ok (.istore_n 2, 1) := by decide +kernel
theorem dX0_marksOf_28 : decode cX0_marksOf 28 = .ok (.iinc 3 1, 3) := by decide +kernel
theorem dX0_marksOf_31 : decode cX0_marksOf 31 = .ok (.goto (-27), 3) := by decide +kernel
theorem dX0_marksOf_34 : decode cX0_marksOf 34 = .ok (.iload_n 2, 1) := by decide +kernel
theorem dX0_marksOf_35 : decode cX0_marksOf 35 = .ok (.ireturn, 1) := by decide +kernel
theorem dX0_gather_0 : decode cX0_gather 0 = .ok (.iconst 0, 1) := by decide +kernel
theorem dX0_gather_1 : decode cX0_gather 1 = .ok (.istore 5, 2) := by decide +kernel
theorem dX0_gather_3 : decode cX0_gather 3 = .ok (.iconst 0, 1) := by decide +kernel
theorem dX0_gather_4 : decode cX0_gather 4 = .ok (.istore 6, 2) := by decide +kernel
theorem dX0_gather_6 : decode cX0_gather 6 = .ok (.iload 6, 2) := by decide +kernel
theorem dX0_gather_8 : decode cX0_gather 8 = .ok (.sipush 384, 3) := by decide +kernel
theorem dX0_gather_11 : decode cX0_gather 11 = .ok (.if_icmp .ge 54, 3) := by decide +kernel
theorem dX0_gather_14 : decode cX0_gather 14 = .ok (.aload_n 0, 1) := by decide +kernel
theorem dX0_gather_15 : decode cX0_gather 15 = .ok (.iload_n 1, 1) := by decide +kernel
theorem dX0_gather_16 : decode cX0_gather 16 = .ok (.iload 6, 2) := by decide +kernel
theorem dX0_gather_18 : decode cX0_gather 18 = .ok (.invokevirtual 70, 3) := by decide +kernel
theorem dX0_gather_21 : decode cX0_gather 21 = .ok (.ifCond .eq 38, 3) := by decide +kernel
theorem dX0_gather_24 : decode cX0_gather 24 = .ok (.aload_n 0, 1) := by decide +kernel
theorem dX0_gather_25 : decode cX0_gather 25 = .ok (.iload_n 2, 1) := by decide +kernel
theorem dX0_gather_26 : decode cX0_gather 26 = .ok (.iload 6, 2) := by decide +kernel
theorem dX0_gather_28 : decode cX0_gather 28 = .ok (.invokevirtual 70, 3) := by decide +kernel
theorem dX0_gather_31 : decode cX0_gather 31 = .ok (.ifCond .eq 28, 3) := by decide +kernel
theorem dX0_gather_34 : decode cX0_gather 34 = .ok (.aload 4, 2) := by decide +kernel
theorem dX0_gather_36 : decode cX0_gather 36 = .ok (.iload 5, 2) := by decide +kernel
theorem dX0_gather_38 : decode cX0_gather 38 = .ok (.aload_n 0, 1) := by decide +kernel
theorem dX0_gather_39 : decode cX0_gather 39 = .ok (.iload_n 2, 1) := by decide +kernel
theorem dX0_gather_40 : decode cX0_gather 40 = .ok (.iload 6, 2) := by decide +kernel
theorem dX0_gather_42 : decode cX0_gather 42 = .ok (.iload_n 3, 1) := by decide +kernel
theorem dX0_gather_43 : decode cX0_gather 43 = .ok (.invokevirtual 73, 3) := by decide +kernel
theorem dX0_gather_46 : decode cX0_gather 46 = .ok (.aload_n 0, 1) := by decide +kernel
theorem dX0_gather_47 : decode cX0_gather 47 = .ok (.iload_n 1, 1) := by decide +kernel
theorem dX0_gather_48 : decode cX0_gather 48 = .ok (.iload 6, 2) := by decide +kernel
theorem dX0_gather_50 : decode cX0_gather 50 = .ok (.iload_n 3, 1) := by decide +kernel
theorem dX0_gather_51 : decode cX0_gather 51 = .ok (.invokevirtual 73, 3) := by decide +kernel
theorem dX0_gather_54 : decode cX0_gather 54 = .ok (.isub, 1) := by decide +kernel
theorem dX0_gather_55 : decode cX0_gather 55 = .ok (.iastore, 1) := by decide +kernel
theorem dX0_gather_56 : decode cX0_gather 56 = .ok (.iinc 5 1, 3) := by decide +kernel
theorem dX0_gather_59 : decode cX0_gather 59 = .ok (.iinc 6 1, 3) := by decide +kernel
theorem dX0_gather_62 : decode cX0_gather 62 = .ok (.goto (-56), 3) := by decide +kernel
theorem dX0_gather_65 : decode cX0_gather 65 = .ok (.iload 5, 2) := by decide +kernel
theorem dX0_gather_67 : decode cX0_gather 67 = .ok (.ireturn, 1) := by decide +kernel
theorem dX0_common_0 : decode cX0_common 0 = .ok (.aload_n 0, 1) := by decide +kernel
theorem dX0_common_1 : decode cX0_common 1 = .ok (.iload_n 1, 1) := by decide +kernel
theorem dX0_common_2 : decode cX0_common 2 = .ok (.iload_n 2, 1) := by decide +kernel
theorem dX0_common_3 : decode cX0_common 3 = .ok (.iconst 0, 1) := by decide +kernel
theorem dX0_common_4 : decode cX0_common 4 = .ok (.aload_n 0, 1) := by decide +kernel
theorem dX0_common_5 : decode cX0_common 5 = .ok (.getfield 22, 3) := by decide +kernel
theorem dX0_common_8 : decode cX0_common 8 = .ok (.invokevirtual 76, 3) := by decide +kernel
theorem dX0_common_11 : decode cX0_common 11 = .ok (.ireturn, 1) := by decide +kernel
theorem dX0_shift_0 : decode cX0_shift 0 = .ok (.aload_n 0, 1) := by decide +kernel
theorem dX0_shift_1 : decode cX0_shift 1 = .ok (.getfield 22, 3) := by decide +kernel
theorem dX0_shift_4 : decode cX0_shift 4 = .ok (.aload_n 0, 1) := by decide +kernel
theorem dX0_shift_5 : decode cX0_shift 5 = .ok (.iload_n 1, 1) := by decide +kernel
theorem dX0_shift_6 : decode cX0_shift 6 = .ok (.iload_n 2, 1) := by decide +kernel
theorem dX0_shift_7 : decode cX0_shift 7 = .ok (.iload_n 3, 1) := by decide +kernel
theorem dX0_shift_8 : decode cX0_shift 8 = .ok (.aload_n 0, 1) := by decide +kernel
theorem dX0_shift_9 : decode cX0_shift 9 = .ok (.getfield 22, 3) := by decide +kernel
theorem dX0_shift_12 : decode cX0_shift 12 = .ok (.invokevirtual 76, 3) := by decide +kernel
theorem dX0_shift_15 : decode cX0_shift 15 = .ok (.invokestatic 80, 3) := by decide +kernel
theorem dX0_shift_18 : decode cX0_shift 18 = .ok (.ireturn, 1) := by decide +kernel
theorem dX0_lowerMedian_0 : decode cX0_lowerMedian 0 = .ok (.sipush (-12000), 3) := by decide +kernel
theorem dX0_lowerMedian_3 : decode cX0_lowerMedian 3 = .ok (.istore_n 2, 1) := by decide +kernel
theorem dX0_lowerMedian_4 : decode cX0_lowerMedian 4 = .ok (.sipush 12000, 3) := by decide +kernel
theorem dX0_lowerMedian_7 : decode cX0_lowerMedian 7 = .ok (.istore_n 3, 1) := by decide +kernel
theorem dX0_lowerMedian_8 : decode cX0_lowerMedian 8 = .ok (.iconst 0, 1) := by decide +kernel
theorem dX0_lowerMedian_9 : decode cX0_lowerMedian 9 = .ok (.istore 4, 2) := by decide +kernel
theorem dX0_lowerMedian_11 : decode cX0_lowerMedian 11 = .ok (.iload 4, 2) := by decide +kernel
theorem dX0_lowerMedian_13 : decode cX0_lowerMedian 13 = .ok (.bipush 15, 2) := by decide +kernel
theorem dX0_lowerMedian_15 : decode cX0_lowerMedian 15 = .ok (.if_icmp .ge 79, 3) := by decide +kernel
theorem dX0_lowerMedian_18 : decode cX0_lowerMedian 18 = .ok (.iload_n 2, 1) := by decide +kernel
theorem dX0_lowerMedian_19 : decode cX0_lowerMedian 19 = .ok (.iload_n 3, 1) := by decide +kernel
theorem dX0_lowerMedian_20 : decode cX0_lowerMedian 20 = .ok (.if_icmp .ge 74, 3) := by decide +kernel
theorem dX0_lowerMedian_23 : decode cX0_lowerMedian 23 = .ok (.iload_n 2, 1) := by decide +kernel
theorem dX0_lowerMedian_24 : decode cX0_lowerMedian 24 = .ok (.iload_n 3, 1) := by decide +kernel
theorem dX0_lowerMedian_25 : decode cX0_lowerMedian 25 = .ok (.iadd, 1) := by decide +kernel
theorem dX0_lowerMedian_26 : decode cX0_lowerMedian 26 = .ok (.iconst 2, 1) := by decide +kernel
theorem dX0_lowerMedian_27 : decode cX0_lowerMedian 27 = .ok (.invokestatic 84, 3) := by decide +kernel
theorem dX0_lowerMedian_30 : decode cX0_lowerMedian 30 = .ok (.istore 5, 2) := by decide +kernel
theorem dX0_lowerMedian_32 : decode cX0_lowerMedian 32 = .ok (.iconst 0, 1) := by decide +kernel
theorem dX0_lowerMedian_33 : decode cX0_lowerMedian 33 = .ok (.istore 6, 2) := by decide +kernel
theorem dX0_lowerMedian_35 : decode cX0_lowerMedian 35 = .ok (.iconst 0, 1) := by decide +kernel
theorem dX0_lowerMedian_36 : decode cX0_lowerMedian 36 = .ok (.istore 7, 2) := by decide +kernel
theorem dX0_lowerMedian_38 : decode cX0_lowerMedian 38 = .ok (.iload 7, 2) := by decide +kernel
theorem dX0_lowerMedian_40 : decode cX0_lowerMedian 40 = .ok (.iload_n 1, 1) := by decide +kernel
theorem dX0_lowerMedian_41 : decode cX0_lowerMedian 41 = .ok (.if_icmp .ge 28, 3) := by decide +kernel
theorem dX0_lowerMedian_44 : decode cX0_lowerMedian 44 = .ok (.iload 6, 2) := by decide +kernel
theorem dX0_lowerMedian_46 : decode cX0_lowerMedian 46 = .ok (.aload_n 0, 1) := by decide +kernel
theorem dX0_lowerMedian_47 : decode cX0_lowerMedian 47 = .ok (.iload 7, 2) := by decide +kernel
theorem dX0_lowerMedian_49 : decode cX0_lowerMedian 49 = .ok (.iaload, 1) := by decide +kernel
theorem dX0_lowerMedian_50 : decode cX0_lowerMedian 50 = .ok (.iload 5, 2) := by decide +kernel
theorem dX0_lowerMedian_52 : decode cX0_lowerMedian 52 = .ok (.if_icmp .gt 7, 3) := by decide +kernel
theorem dX0_lowerMedian_55 : decode cX0_lowerMedian 55 = .ok (.iconst 1, 1) := by decide +kernel
theorem dX0_lowerMedian_56 : decode cX0_lowerMedian 56 = .ok (.goto 4, 3) := by decide +kernel
theorem dX0_lowerMedian_59 : decode cX0_lowerMedian 59 = .ok (.iconst 0, 1) := by decide +kernel
theorem dX0_lowerMedian_60 : decode cX0_lowerMedian 60 = .ok (.iadd, 1) := by decide +kernel
theorem dX0_lowerMedian_61 : decode cX0_lowerMedian 61 = .ok (.istore 6, 2) := by decide +kernel
theorem dX0_lowerMedian_63 : decode cX0_lowerMedian 63 = .ok (.iinc 7 1, 3) := by decide +kernel
theorem dX0_lowerMedian_66 : decode cX0_lowerMedian 66 = .ok (.goto (-28), 3) := by decide +kernel
theorem dX0_lowerMedian_69 : decode cX0_lowerMedian 69 = .ok (.iconst 2, 1) := by decide +kernel
theorem dX0_lowerMedian_70 : decode cX0_lowerMedian 70 = .ok (.iload 6, 2) := by decide +kernel
theorem dX0_lowerMedian_72 : decode cX0_lowerMedian 72 = .ok (.imul, 1) := by decide +kernel
theorem dX0_lowerMedian_73 : decode cX0_lowerMedian 73 = .ok (.iload_n 1, 1) := by decide +kernel
theorem dX0_lowerMedian_74 : decode cX0_lowerMedian 74 = .ok (.if_icmp .lt 9, 3) := by decide +kernel
theorem dX0_lowerMedian_77 : decode cX0_lowerMedian 77 = .ok (.iload 5, 2) := by decide +kernel
theorem dX0_lowerMedian_79 : decode cX0_lowerMedian 79 = .ok (.istore_n 3, 1) := by decide +kernel
theorem dX0_lowerMedian_80 : decode cX0_lowerMedian 80 = .ok (.goto 8, 3) := by decide +kernel
theorem dX0_lowerMedian_83 : decode cX0_lowerMedian 83 = .ok (.iload 5, 2) := by decide +kernel
theorem dX0_lowerMedian_85 : decode cX0_lowerMedian 85 = .ok (.iconst 1, 1) := by decide +kernel
theorem dX0_lowerMedian_86 : decode cX0_lowerMedian 86 = .ok (.iadd, 1) := by decide +kernel
theorem dX0_lowerMedian_87 : decode cX0_lowerMedian 87 = .ok (.istore_n 2, 1) := by decide +kernel
theorem dX0_lowerMedian_88 : decode cX0_lowerMedian 88 = .ok (.iinc 4 1, 3) := by decide +kernel
theorem dX0_lowerMedian_91 : decode cX0_lowerMedian 91 = .ok (.goto (-80), 3) := by decide +kernel
theorem dX0_lowerMedian_94 : decode cX0_lowerMedian 94 = .ok (.iload_n 2, 1) := by decide +kernel
theorem dX0_lowerMedian_95 : decode cX0_lowerMedian 95 = .ok (.ireturn, 1) := by decide +kernel
theorem dX0_rest_0 : decode cX0_rest 0 = .ok (.aload_n 0, 1) := by decide +kernel
theorem dX0_rest_1 : decode cX0_rest 1 = .ok (.iload_n 1, 1) := by decide +kernel
theorem dX0_rest_2 : decode cX0_rest 2 = .ok (.iload_n 2, 1) := by decide +kernel
theorem dX0_rest_3 : decode cX0_rest 3 = .ok (.iload_n 3, 1) := by decide +kernel
theorem dX0_rest_4 : decode cX0_rest 4 = .ok (.aload_n 0, 1) := by decide +kernel
theorem dX0_rest_5 : decode cX0_rest 5 = .ok (.getfield 22, 3) := by decide +kernel
theorem dX0_rest_8 : decode cX0_rest 8 = .ok (.invokevirtual 76, 3) := by decide +kernel
theorem dX0_rest_11 : decode cX0_rest 11 = .ok (.istore 4, 2) := by decide +kernel
theorem dX0_rest_13 : decode cX0_rest 13 = .ok (.aload_n 0, 1) := by decide +kernel
theorem dX0_rest_14 : decode cX0_rest 14 = .ok (.getfield 22, 3) := by decide +kernel
theorem dX0_rest_17 : decode cX0_rest 17 = .ok (.iload 4, 2) := by decide +kernel
theorem dX0_rest_19 : decode cX0_rest 19 = .ok (.invokestatic 80, 3) := by decide +kernel
theorem dX0_rest_22 : decode cX0_rest 22 = .ok (.istore 5, 2) := by decide +kernel
theorem dX0_rest_24 : decode cX0_rest 24 = .ok (.iconst 0, 1) := by decide +kernel
theorem dX0_rest_25 : decode cX0_rest 25 = .ok (.istore 6, 2) := by decide +kernel
theorem dX0_rest_27 : decode cX0_rest 27 = .ok (.iconst 0, 1) := by decide +kernel
theorem dX0_rest_28 : decode cX0_rest 28 = .ok (.istore 7, 2) := by decide +kernel
theorem dX0_rest_30 : decode cX0_rest 30 = .ok (.iload 7, 2) := by decide +kernel
theorem dX0_rest_32 : decode cX0_rest 32 = .ok (.iload 4, 2) := by decide +kernel
theorem dX0_rest_34 : decode cX0_rest 34 = .ok (.if_icmp .ge 27, 3) := by decide +kernel
theorem dX0_rest_37 : decode cX0_rest 37 = .ok (.iload 6, 2) := by decide +kernel
theorem dX0_rest_39 : decode cX0_rest 39 = .ok (.aload_n 0, 1) := by decide +kernel
theorem dX0_rest_40 : decode cX0_rest 40 = .ok (.getfield 22, 3) := by decide +kernel
theorem dX0_rest_43 : decode cX0_rest 43 = .ok (.iload 7, 2) := by decide +kernel
theorem dX0_rest_45 : decode cX0_rest 45 = .ok (.iaload, 1) := by decide +kernel
theorem dX0_rest_46 : decode cX0_rest 46 = .ok (.iload 5, 2) := by decide +kernel
theorem dX0_rest_48 : decode cX0_rest 48 = .ok (.isub, 1) := by decide +kernel
theorem dX0_rest_49 : decode cX0_rest 49 = .ok (.invokestatic 90, 3) := by decide +kernel
theorem dX0_rest_52 : decode cX0_rest 52 = .ok (.iadd, 1) := by decide +kernel
theorem dX0_rest_53 : decode cX0_rest 53 = .ok (.istore 6, 2) := by decide +kernel
theorem dX0_rest_55 : decode cX0_rest 55 = .ok (.iinc 7 1, 3) := by decide +kernel
theorem dX0_rest_58 : decode cX0_rest 58 = .ok (.goto (-28), 3) := by decide +kernel
theorem dX0_rest_61 : decode cX0_rest 61 = .ok (.iload 6, 2) := by decide +kernel
theorem dX0_rest_63 : decode cX0_rest 63 = .ok (.ireturn, 1) := by decide +kernel
theorem dX0_farther_0 : decode cX0_farther 0 = .ok (.aload_n 0, 1) := by decide +kernel
theorem dX0_farther_1 : decode cX0_farther 1 = .ok (.iload_n 1, 1) := by decide +kernel
theorem dX0_farther_2 : decode cX0_farther 2 = .ok (.iload_n 2, 1) := by decide +kernel
theorem dX0_farther_3 : decode cX0_farther 3 = .ok (.iconst 0, 1) := by decide +kernel
theorem dX0_farther_4 : decode cX0_farther 4 = .ok (.aload_n 0, 1) := by decide +kernel
theorem dX0_farther_5 : decode cX0_farther 5 = .ok (.getfield 22, 3) := by decide +kernel
theorem dX0_farther_8 : decode cX0_farther 8 = .ok (.invokevirtual 76, 3) := by decide +kernel
theorem dX0_farther_11 : decode cX0_farther 11 = .ok (.istore 4, 2) := by decide +kernel
theorem dX0_farther_13 : decode cX0_farther 13 = .ok (.aload_n 0, 1) := by decide +kernel
theorem dX0_farther_14 : decode cX0_farther 14 = .ok (.iload_n 1, 1) := by decide +kernel
theorem dX0_farther_15 : decode cX0_farther 15 = .ok (.iload_n 2, 1) := by decide +kernel
theorem dX0_farther_16 : decode cX0_farther 16 = .ok (.iconst 1, 1) := by decide +kernel
theorem dX0_farther_17 : decode cX0_farther 17 = .ok (.aload_n 0, 1) := by decide +kernel
theorem dX0_farther_18 : decode cX0_farther 18 = .ok (.getfield 25, 3) := by decide +kernel
theorem dX0_farther_21 : decode cX0_farther 21 = .ok (.invokevirtual 76, 3) := by decide +kernel
theorem dX0_farther_24 : decode cX0_farther 24 = .ok (.pop, 1) := by decide +kernel
theorem dX0_farther_25 : decode cX0_farther 25 = .ok (.aload_n 0, 1) := by decide +kernel
theorem dX0_farther_26 : decode cX0_farther 26 = .ok (.getfield 22, 3) := by decide +kernel
theorem dX0_farther_29 : decode cX0_farther 29 = .ok (.iload 4, 2) := by decide +kernel
theorem dX0_farther_31 : decode cX0_farther 31 = .ok (.invokestatic 80, 3) := by decide +kernel
theorem dX0_farther_34 : decode cX0_farther 34 = .ok (.istore 5, 2) := by decide +kernel
theorem dX0_farther_36 : decode cX0_farther 36 = .ok (.aload_n 0, 1) := by decide +kernel
theorem dX0_farther_37 : decode cX0_farther 37 = .ok (.getfield 25, 3) := by decide +kernel
theorem dX0_farther_40 : decode cX0_farther 40 = .ok (.iload 4, 2) := by decide +kernel
theorem dX0_farther_42 : decode cX0_farther 42 = .ok (.invokestatic 80, 3) := by decide +kernel
theorem dX0_farther_45 : decode cX0_farther 45 = .ok (.istore 6, 2) := by decide +kernel
theorem dX0_farther_47 : decode cX0_farther 47 = .ok (.iconst 0, 1) := by decide +kernel
theorem dX0_farther_48 : decode cX0_farther 48 = .ok (.istore 7, 2) := by decide +kernel
theorem dX0_farther_50 : decode cX0_farther 50 = .ok (.iconst 0, 1) := by decide +kernel
theorem dX0_farther_51 : decode cX0_farther 51 = .ok (.istore 8, 2) := by decide +kernel
theorem dX0_farther_53 : decode cX0_farther 53 = .ok (.iload 8, 2) := by decide +kernel
theorem dX0_farther_55 : decode cX0_farther 55 = .ok (.iload 4, 2) := by decide +kernel
theorem dX0_farther_57 : decode cX0_farther 57 = .ok (.if_icmp .ge 46, 3) := by decide +kernel
theorem dX0_farther_60 : decode cX0_farther 60 = .ok (.aload_n 0, 1) := by decide +kernel
theorem dX0_farther_61 : decode cX0_farther 61 = .ok (.getfield 22, 3) := by decide +kernel
theorem dX0_farther_64 : decode cX0_farther 64 = .ok (.iload 8, 2) := by decide +kernel
theorem dX0_farther_66 : decode cX0_farther 66 = .ok (.iaload, 1) := by decide +kernel
theorem dX0_farther_67 : decode cX0_farther 67 = .ok (.iload 5, 2) := by decide +kernel
theorem dX0_farther_69 : decode cX0_farther 69 = .ok (.isub, 1) := by decide +kernel
theorem dX0_farther_70 : decode cX0_farther 70 = .ok (.invokestatic 90, 3) := by decide +kernel
theorem dX0_farther_73 : decode cX0_farther 73 = .ok (.iload_n 3, 1) := by decide +kernel
theorem dX0_farther_74 : decode cX0_farther 74 = .ok (.if_icmp .gt 20, 3) := by decide +kernel
theorem dX0_farther_77 : decode cX0_farther 77 = .ok (.aload_n 0, 1) := by decide +kernel
theorem dX0_farther_78 : decode cX0_farther 78 = .ok (.getfield 25, 3) := by decide +kernel
theorem dX0_farther_81 : decode cX0_farther 81 = .ok (.iload 8, 2) := by decide +kernel
theorem dX0_farther_83 : decode cX0_farther 83 = .ok (.iaload, 1) := by decide +kernel
theorem dX0_farther_84 : decode cX0_farther 84 = .ok (.iload 6, 2) := by decide +kernel
theorem dX0_farther_86 : decode cX0_farther 86 = .ok (.isub, 1) := by decide +kernel
theorem dX0_farther_87 : decode cX0_farther 87 = .ok (.invokestatic 90, 3) := by decide +kernel
theorem dX0_farther_90 : decode cX0_farther 90 = .ok (.iload_n 3, 1) := by decide +kernel
theorem dX0_farther_91 : decode cX0_farther 91 = .ok (.if_icmp .le 6, 3) := by decide +kernel
theorem dX0_farther_94 : decode cX0_farther 94 = .ok (.iinc 7 1, 3) := by decide +kernel
theorem dX0_farther_97 : decode cX0_farther 97 = .ok (.iinc 8 1, 3) := by decide +kernel
theorem dX0_farther_100 : decode cX0_farther 100 = .ok (.goto (-47), 3) := by decide +kernel
theorem dX0_farther_103 : decode cX0_farther 103 = .ok (.iload 7, 2) := by decide +kernel
theorem dX0_farther_105 : decode cX0_farther 105 = .ok (.ireturn, 1) := by decide +kernel
theorem dX0_distance_0 : decode cX0_distance 0 = .ok (.iconst 0, 1) := by decide +kernel
theorem dX0_distance_1 : decode cX0_distance 1 = .ok (.istore 4, 2) := by decide +kernel
theorem dX0_distance_3 : decode cX0_distance 3 = .ok (.iconst 0, 1) := by decide +kernel
theorem dX0_distance_4 : decode cX0_distance 4 = .ok (.istore 5, 2) := by decide +kernel
theorem dX0_distance_6 : decode cX0_distance 6 = .ok (.iload 5, 2) := by decide +kernel
theorem dX0_distance_8 : decode cX0_distance 8 = .ok (.iconst 2, 1) := by decide +kernel
theorem dX0_distance_9 : decode cX0_distance 9 = .ok (.if_icmp .ge 47, 3) := by decide +kernel
theorem dX0_distance_12 : decode cX0_distance 12 = .ok (.aload_n 0, 1) := by decide +kernel
theorem dX0_distance_13 : decode cX0_distance 13 = .ok (.iload_n 2, 1) := by decide +kernel
theorem dX0_distance_14 : decode cX0_distance 14 = .ok (.iload_n 3, 1) := by decide +kernel
theorem dX0_distance_15 : decode cX0_distance 15 = .ok (.iload 5, 2) := by decide +kernel
theorem dX0_distance_17 : decode cX0_distance 17 = .ok (.invokevirtual 73, 3) := by decide +kernel
theorem dX0_distance_20 : decode cX0_distance 20 = .ok (.aload_n 0, 1) := by decide +kernel
theorem dX0_distance_21 : decode cX0_distance 21 = .ok (.iload_n 1, 1) := by decide +kernel
theorem dX0_distance_22 : decode cX0_distance 22 = .ok (.iload_n 3, 1) := by decide +kernel
theorem dX0_distance_23 : decode cX0_distance 23 = .ok (.iload 5, 2) := by decide +kernel
theorem dX0_distance_25 : decode cX0_distance 25 = .ok (.invokevirtual 73, 3) := by decide +kernel
theorem dX0_distance_28 : decode cX0_distance 28 = .ok (.isub, 1) := by decide +kernel
theorem dX0_distance_29 : decode cX0_distance 29 = .ok (.istore 6, 2) := by decide +kernel
theorem dX0_distance_31 : decode cX0_distance 31 = .ok (.iload 4, 2) := by decide +kernel
theorem dX0_distance_33 : decode cX0_distance 33 = .ok (.iload 6, 2) := by decide +kernel
theorem dX0_distance_35 : decode cX0_distance 35 = .ok (.aload_n 0, 1) := by decide +kernel
theorem dX0_distance_36 : decode cX0_distance 36 = .ok (.iload_n 1, 1) := by decide +kernel
theorem dX0_distance_37 : decode cX0_distance 37 = .ok (.iload_n 2, 1) := by decide +kernel
theorem dX0_distance_38 : decode cX0_distance 38 = .ok (.iload 5, 2) := by decide +kernel
theorem dX0_distance_40 : decode cX0_distance 40 = .ok (.invokevirtual 94, 3) := by decide +kernel
theorem dX0_distance_43 : decode cX0_distance 43 = .ok (.isub, 1) := by decide +kernel
theorem dX0_distance_44 : decode cX0_distance 44 = .ok (.invokestatic 90, 3) := by decide +kernel
theorem dX0_distance_47 : decode cX0_distance 47 = .ok (.iadd, 1) := by decide +kernel
theorem dX0_distance_48 : decode cX0_distance 48 = .ok (.istore 4, 2) := by decide +kernel
theorem dX0_distance_50 : decode cX0_distance 50 = .ok (.iinc 5 1, 3) := by decide +kernel
theorem dX0_distance_53 : decode cX0_distance 53 = .ok (.goto (-47), 3) := by decide +kernel
theorem dX0_distance_56 : decode cX0_distance 56 = .ok (.iload 4, 2) := by decide +kernel
theorem dX0_distance_58 : decode cX0_distance 58 = .ok (.ireturn, 1) := by decide +kernel
theorem dX1_init_0 : decode cX1_init 0 = .ok (.aload_n 0, 1) := by decide +kernel
theorem dX1_init_1 : decode cX1_init 1 = .ok (.invokespecial 3, 3) := by decide +kernel
theorem dX1_init_4 : decode cX1_init 4 = .ok (.aload_n 0, 1) := by decide +kernel
theorem dX1_init_5 : decode cX1_init 5 = .ok (.bipush 24, 2) := by decide +kernel
theorem dX1_init_7 : decode cX1_init 7 = .ok (.newarray .int, 2) := by decide +kernel
theorem dX1_init_9 : decode cX1_init 9 = .ok (.putfield 9, 3) := by decide +kernel
theorem dX1_init_12 : decode cX1_init 12 = .ok (.aload_n 0, 1) := by decide +kernel
theorem dX1_init_13 : decode cX1_init 13 = .ok (.bipush 24, 2) := by decide +kernel
theorem dX1_init_15 : decode cX1_init 15 = .ok (.newarray .int, 2) := by decide +kernel
theorem dX1_init_17 : decode cX1_init 17 = .ok (.putfield 15, 3) := by decide +kernel
theorem dX1_init_20 : decode cX1_init 20 = .ok (.aload_n 0, 1) := by decide +kernel
theorem dX1_init_21 : decode cX1_init 21 = .ok (.bipush 24, 2) := by decide +kernel
theorem dX1_init_23 : decode cX1_init 23 = .ok (.newarray .boolean, 2) := by decide +kernel
theorem dX1_init_25 : decode cX1_init 25 = .ok (.putfield 18, 3) := by decide +kernel
theorem dX1_init_28 : decode cX1_init 28 = .ok (.aload_n 0, 1) := by decide +kernel
theorem dX1_init_29 : decode cX1_init 29 = .ok (.bipush 24, 2) := by decide +kernel
theorem dX1_init_31 : decode cX1_init 31 = .ok (.newarray .int, 2) := by decide +kernel
theorem dX1_init_33 : decode cX1_init 33 = .ok (.putfield 22, 3) := by decide +kernel
theorem dX1_init_36 : decode cX1_init 36 = .ok (.aload_n 0, 1) := by decide +kernel
theorem dX1_init_37 : decode cX1_init 37 = .ok (.aload_n 1, 1) := by decide +kernel
theorem dX1_init_38 : decode cX1_init 38 = .ok (.putfield 25, 3) := by decide +kernel
theorem dX1_init_41 : decode cX1_init 41 = .ok (.aload_n 0, 1) := by decide +kernel
theorem dX1_init_42 : decode cX1_init 42 = .ok (.aload_n 2, 1) := by decide +kernel
theorem dX1_init_43 : decode cX1_init 43 = .ok (.putfield 29, 3) := by decide +kernel
theorem dX1_init_46 : decode cX1_init 46 = .ok (.return_, 1) := by decide +kernel
theorem dX1_isToldUpTo_0 : decode cX1_isToldUpTo 0 = .ok (.iload_n 1, 1) := by decide +kernel
theorem dX1_isToldUpTo_1 : decode cX1_isToldUpTo 1 = .ok (.iconst 0, 1) := by decide +kernel
theorem dX1_isToldUpTo_2 : decode cX1_isToldUpTo 2 = .ok (.aload_n 0, 1) := by decide +kernel
theorem dX1_isToldUpTo_3 : decode cX1_isToldUpTo 3 = .ok (.getfield 25, 3) := by decide +kernel
theorem dX1_isToldUpTo_6 : decode cX1_isToldUpTo 6 = .ok (.getfield 33, 3) := by decide +kernel
theorem dX1_isToldUpTo_9 : decode cX1_isToldUpTo 9 = .ok (.iconst 1, 1) := by decide +kernel
theorem dX1_isToldUpTo_10 : decode cX1_isToldUpTo 10 = .ok (.isub, 1) := by decide +kernel
theorem dX1_isToldUpTo_11 : decode cX1_isToldUpTo 11 = .ok (.invokestatic 39, 3) := by decide +kernel
theorem dX1_isToldUpTo_14 : decode cX1_isToldUpTo 14 = .ok (.ifCond .ne 5, 3) := by decide +kernel
theorem dX1_isToldUpTo_17 : decode cX1_isToldUpTo 17 = .ok (.iconst 0, 1) := by decide +kernel
theorem dX1_isToldUpTo_18 : decode cX1_isToldUpTo 18 = .ok (.ireturn, 1) := by decide +kernel
theorem dX1_isToldUpTo_19 : decode cX1_isToldUpTo 19 = .ok (.iconst 0, 1) := by decide +kernel
theorem dX1_isToldUpTo_20 : decode cX1_isToldUpTo 20 = .ok (.istore_n 3, 1) := by decide +kernel
theorem dX1_isToldUpTo_21 : decode cX1_isToldUpTo 21 = .ok (.iload_n 3, 1) := by decide +kernel
theorem dX1_isToldUpTo_22 : decode cX1_isToldUpTo 22 = .ok (.iload_n 1, 1) := by decide +kernel
theorem dX1_isToldUpTo_23 : decode cX1_isToldUpTo 23 = .ok (.if_icmp .gt 23, 3) := by decide +kernel
theorem dX1_isToldUpTo_26 : decode cX1_isToldUpTo 26 = .ok (.aload_n 0, 1) := by decide +kernel
theorem dX1_isToldUpTo_27 : decode cX1_isToldUpTo 27 = .ok (.getfield 29, 3) := by decide +kernel
theorem dX1_isToldUpTo_30 : decode cX1_isToldUpTo 30 = .ok (.iload_n 3, 1) := by decide +kernel
theorem dX1_isToldUpTo_31 : decode cX1_isToldUpTo 31 = .ok (.iload_n 2, 1) := by decide +kernel
theorem dX1_isToldUpTo_32 : decode cX1_isToldUpTo 32 = .ok (.invokevirtual 43, 3) := by decide +kernel
theorem dX1_isToldUpTo_35 : decode cX1_isToldUpTo 35 = .ok (.ifCond .ne 5, 3) := by decide +kernel
theorem dX1_isToldUpTo_38 : decode cX1_isToldUpTo 38 = .ok (.iconst 0, 1) := by decide +kernel
theorem dX1_isToldUpTo_39 : decode cX1_isToldUpTo 39 = .ok (.ireturn, 1) := by decide +kernel
theorem dX1_isToldUpTo_40 : decode cX1_isToldUpTo 40 = .ok (.iinc 3 1, 3) := by decide +kernel
theorem dX1_isToldUpTo_43 : decode cX1_isToldUpTo 43 = .ok (.goto (-22), 3) := by decide +kernel
theorem dX1_isToldUpTo_46 : decode cX1_isToldUpTo 46 = .ok (.iconst 1, 1) := by decide +kernel
theorem dX1_isToldUpTo_47 : decode cX1_isToldUpTo 47 = .ok (.ireturn, 1) := by decide +kernel
theorem dX1_section_0 : decode cX1_section 0 = .ok (.lconst 0, 1) := by decide +kernel
theorem dX1_section_1 : decode cX1_section 1 = .ok (.lstore 4, 2) := by decide +kernel
theorem dX1_section_3 : decode cX1_section 3 = .ok (.iconst 0, 1) := by decide +kernel
theorem dX1_section_4 : decode cX1_section 4 = .ok (.istore 6, 2) := by decide +kernel
theorem dX1_section_6 : decode cX1_section 6 = .ok (.iload 6, 2) := by decide +kernel
theorem dX1_section_8 : decode cX1_section 8 = .ok (.iload_n 3, 1) := by decide +kernel
theorem dX1_section_9 : decode cX1_section 9 = .ok (.if_icmp .ge 32, 3) := by decide +kernel
theorem dX1_section_12 : decode cX1_section 12 = .ok (.lload 4, 2) := by decide +kernel
theorem dX1_section_14 : decode cX1_section 14 = .ok (.aload_n 0, 1) := by decide +kernel
theorem dX1_section_15 : decode cX1_section 15 = .ok (.iload 6, 2) := by decide +kernel
theorem dX1_section_17 : decode cX1_section 17 = .ok (.iload_n 1, 1) := by decide +kernel
theorem dX1_section_18 : decode cX1_section 18 = .ok (.invokevirtual 49, 3) := by decide +kernel
theorem dX1_section_21 : decode cX1_section 21 = .ok (.aload_n 0, 1) := by decide +kernel
theorem dX1_section_22 : decode cX1_section 22 = .ok (.iload 6, 2) := by decide +kernel
theorem dX1_section_24 : decode cX1_section 24 = .ok (.iconst 1, 1) := by decide +kernel
theorem dX1_section_25 : decode cX1_section 25 = .ok (.iadd, 1) := by decide +kernel
theorem dX1_section_26 : decode cX1_section 26 = .ok (.iload_n 1, 1) := by decide +kernel
theorem dX1_section_27 : decode cX1_section 27 = .ok (.invokevirtual 49, 3) := by decide +kernel
theorem dX1_section_30 : decode cX1_section 30 = .ok (.iadd, 1) := by decide +kernel
theorem dX1_section_31 : decode cX1_section 31 = .ok (.i2l, 1) := by decide +kernel
theorem dX1_section_32 : decode cX1_section 32 = .ok (.ladd, 1) := by decide +kernel
theorem dX1_section_33 : decode cX1_section 33 = .ok (.lstore 4, 2) := by decide +kernel
theorem dX1_section_35 : decode cX1_section 35 = .ok (.iinc 6 1, 3) := by decide +kernel
theorem dX1_section_38 : decode cX1_section 38 = .ok (.goto (-32), 3) := by decide +kernel
theorem dX1_section_41 : decode cX1_section 41 = .ok (.lload 4, 2) := by decide +kernel
theorem dX1_section_43 : decode cX1_section 43 = .ok (.iload_n 2, 1) := by decide +kernel
theorem dX1_section_44 : decode cX1_section 44 = .ok (.i2l, 1) := by decide +kernel
theorem dX1_section_45 : decode cX1_section 45 = .ok (.lmul, 1) := by decide +kernel
theorem dX1_section_46 : decode cX1_section 46 = .ok (.lreturn, 1) := by decide +kernel
theorem dX1_breadth_0 : decode cX1_breadth 0 = .ok (.iconst 0, 1) := by decide +kernel
theorem dX1_breadth_1 : decode cX1_breadth 1 = .ok (.aload_n 0, 1) := by decide +kernel
theorem dX1_breadth_2 : decode cX1_breadth 2 = .ok (.getfield 29, 3) := by decide +kernel
theorem dX1_breadth_5 : decode cX1_breadth 5 = .ok (.iload_n 1, 1) := by decide +kernel
theorem dX1_breadth_6 : decode cX1_breadth 6 = .ok (.iload_n 2, 1) := by decide +kernel
theorem dX1_breadth_7 : decode cX1_breadth 7 = .ok (.invokevirtual 53, 3) := by decide +kernel
theorem dX1_breadth_10 : decode cX1_breadth 10 = .ok (.invokestatic 56, 3) := by decide +kernel
theorem dX1_breadth_13 : decode cX1_breadth 13 = .ok (.ireturn, 1) := by decide +kernel
theorem dX1_room_0 : decode cX1_room 0 = .ok (.lconst 0, 1) := by decide +kernel
theorem dX1_room_1 : decode cX1_room 1 = .ok (.lstore 4, 2) := by decide +kernel
theorem dX1_room_3 : decode cX1_room 3 = .ok (.iconst 0, 1) := by decide +kernel
theorem dX1_room_4 : decode cX1_room 4 = .ok (.istore 6, 2) := by decide +kernel
theorem dX1_room_6 : decode cX1_room 6 = .ok (.iload 6, 2) := by decide +kernel
theorem dX1_room_8 : decode cX1_room 8 = .ok (.iconst 1, 1) := by decide +kernel
theorem dX1_room_9 : decode cX1_room 9 = .ok (.iadd, 1) := by decide +kernel
theorem dX1_room_10 : decode cX1_room 10 = .ok (.aload_n 0, 1) := by decide +kernel
theorem dX1_room_11 : decode cX1_room 11 = .ok (.getfield 25, 3) := by decide +kernel
theorem dX1_room_14 : decode cX1_room 14 = .ok (.getfield 61, 3) := by decide +kernel
theorem dX1_room_17 : decode cX1_room 17 = .ok (.if_icmp .ge 33, 3) := by decide +kernel
theorem dX1_room_20 : decode cX1_room 20 = .ok (.lload 4, 2) := by decide +kernel
theorem dX1_room_22 : decode cX1_room 22 = .ok (.aload_n 0, 1) := by decide +kernel
theorem dX1_room_23 : decode cX1_room 23 = .ok (.iload 6, 2) := by decide +kernel
theorem dX1_room_25 : decode cX1_room 25 = .ok (.iload_n 1, 1) := by decide +kernel
theorem dX1_room_26 : decode cX1_room 26 = .ok (.iload_n 2, 1) := by decide +kernel
theorem dX1_room_27 : decode cX1_room 27 = .ok (.invokevirtual 64, 3) := by decide +kernel
theorem dX1_room_30 : decode cX1_room 30 = .ok (.aload_n 0, 1) := by decide +kernel
theorem dX1_room_31 : decode cX1_room 31 = .ok (.iload 6, 2) := by decide +kernel
theorem dX1_room_33 : decode cX1_room 33 = .ok (.iconst 1, 1) := by decide +kernel
theorem dX1_room_34 : decode cX1_room 34 = .ok (.iadd, 1) := by decide +kernel
theorem dX1_room_35 : decode cX1_room 35 = .ok (.iload_n 1, 1) := by decide +kernel
theorem dX1_room_36 : decode cX1_room 36 = .ok (.iload_n 2, 1) := by decide +kernel
theorem dX1_room_37 : decode cX1_room 37 = .ok (.invokevirtual 64, 3) := by decide +kernel
theorem dX1_room_40 : decode cX1_room 40 = .ok (.ladd, 1) := by decide +kernel
theorem dX1_room_41 : decode cX1_room 41 = .ok (.ladd, 1) := by decide +kernel
theorem dX1_room_42 : decode cX1_room 42 = .ok (.lstore 4, 2) := by decide +kernel
theorem dX1_room_44 : decode cX1_room 44 = .ok (.iinc 6 1, 3) := by decide +kernel
theorem dX1_room_47 : decode cX1_room 47 = .ok (.goto (-41), 3) := by decide +kernel
theorem dX1_room_50 : decode cX1_room 50 = .ok (.lload 4, 2) := by decide +kernel
theorem dX1_room_52 : decode cX1_room 52 = .ok (.iload_n 3, 1) := by decide +kernel
theorem dX1_room_53 : decode cX1_room 53 = .ok (.i2l, 1) := by decide +kernel
theorem dX1_room_54 : decode cX1_room 54 = .ok (.lmul, 1) := by decide +kernel
theorem dX1_room_55 : decode cX1_room 55 = .ok (.ldc2_w 68, 3) := by decide +kernel
theorem dX1_room_58 : decode cX1_room 58 = .ok (.ldiv, 1) := by decide +kernel
theorem dX1_room_59 : decode cX1_room 59 = .ok (.lreturn, 1) := by decide +kernel
theorem dX1_leastLine_0 : decode cX1_leastLine 0 = .ok (.iconst 0, 1) := by decide +kernel
theorem dX1_leastLine_1 : decode cX1_leastLine 1 = .ok (.istore 4, 2) := by decide +kernel
theorem dX1_leastLine_3 : decode cX1_leastLine 3 = .ok (.iload 4, 2) := by decide +kernel
theorem dX1_leastLine_5 : decode cX1_leastLine 5 = .ok (.aload_n 0, 1) := by decide +kernel
theorem dX1_leastLine_6 : decode cX1_leastLine 6 = .ok (.getfield 25, 3) := by decide +kernel
theorem dX1_leastLine_9 : decode cX1_leastLine 9 = .ok (.getfield 33, 3) := by decide +kernel
theorem dX1_leastLine_12 : decode cX1_leastLine 12 = .ok (.if_icmp .ge 26, 3) := by decide +kernel
theorem dX1_leastLine_15 : decode cX1_leastLine 15 = .ok (.aload_n 0, 1) := by decide +kernel
theorem dX1_leastLine_16 : decode cX1_leastLine 16 = .ok (.iload_n 1, 1) := by decide +kernel
theorem dX1_leastLine_17 : decode cX1_leastLine 17 = .ok (.iload 4, 2) := by decide +kernel
theorem dX1_leastLine_19 : decode cX1_leastLine 19 = .ok (.iload_n 3, 1) := by decide +kernel
theorem dX1_leastLine_20 : decode cX1_leastLine 20 = .ok (.invokevirtual 70, 3) := by decide +kernel
theorem dX1_leastLine_23 : decode cX1_leastLine 23 = .ok (.iload_n 2, 1) := by decide +kernel
theorem dX1_leastLine_24 : decode cX1_leastLine 24 = .ok (.i2l, 1) := by decide +kernel
theorem dX1_leastLine_25 : decode cX1_leastLine 25 = .ok (.lcmp, 1) := by decide +kernel
theorem dX1_leastLine_26 : decode cX1_leastLine 26 = .ok (.ifCond .lt 6, 3) := by decide +kernel
theorem dX1_leastLine_29 : decode cX1_leastLine 29 = .ok (.iload 4, 2) := by decide +kernel
theorem dX1_leastLine_31 : decode cX1_leastLine 31 = .ok (.ireturn, 1) := by decide +kernel
theorem dX1_leastLine_32 : decode cX1_leastLine 32 = .ok (.iinc 4 1, 3) := by decide +kernel
theorem dX1_leastLine_35 : decode cX1_leastLine 35 = .ok (.goto (-32), 3) := by decide +kernel
theorem dX1_leastLine_38 : decode cX1_leastLine 38 = .ok (.bipush (-2), 2) := by decide +kernel
theorem dX1_leastLine_40 : decode cX1_leastLine 40 = .ok (.ireturn, 1) := by decide +kernel
theorem dX1_whole_0 : decode cX1_whole 0 = .ok (.aload_n 0, 1) := by decide +kernel
theorem dX1_whole_1 : decode cX1_whole 1 = .ok (.iload_n 1, 1) := by decide +kernel
theorem dX1_whole_2 : decode cX1_whole 2 = .ok (.iload_n 2, 1) := by decide +kernel
theorem dX1_whole_3 : decode cX1_whole 3 = .ok (.invokevirtual 73, 3) := by decide +kernel
theorem dX1_whole_6 : decode cX1_whole 6 = .ok (.aload_n 0, 1) := by decide +kernel
theorem dX1_whole_7 : decode cX1_whole 7 = .ok (.getfield 25, 3) := by decide +kernel
theorem dX1_whole_10 : decode cX1_whole 10 = .ok (.invokevirtual 77, 3) := by decide +kernel
theorem dX1_whole_13 : decode cX1_whole 13 = .ok (.ifCond .eq 20, 3) := by decide +kernel
theorem dX1_whole_16 : decode cX1_whole 16 = .ok (.aload_n 0, 1) := by decide +kernel
theorem dX1_whole_17 : decode cX1_whole 17 = .ok (.getfield 9, 3) := by decide +kernel
theorem dX1_whole_20 : decode cX1_whole 20 = .ok (.aload_n 0, 1) := by decide +kernel
theorem dX1_whole_21 : decode cX1_whole 21 = .ok (.getfield 25, 3) := by decide +kernel
theorem dX1_whole_24 : decode cX1_whole 24 = .ok (.getfield 61, 3) := by decide +kernel
theorem dX1_whole_27 : decode cX1_whole 27 = .ok (.iconst 1, 1) := by decide +kernel
theorem dX1_whole_28 : decode cX1_whole 28 = .ok (.isub, 1) := by decide +kernel
theorem dX1_whole_29 : decode cX1_whole 29 = .ok (.iaload, 1) := by decide +kernel
theorem dX1_whole_30 : decode cX1_whole 30 = .ok (.goto 4, 3) := by decide +kernel
theorem dX1_whole_33 : decode cX1_whole 33 = .ok (.iconst 0, 1) := by decide +kernel
theorem dX1_whole_34 : decode cX1_whole 34 = .ok (.ireturn, 1) := by decide +kernel
theorem dX1_measure_0 : decode cX1_measure 0 = .ok (.iconst 1, 1) := by decide +kernel
theorem dX1_measure_1 : decode cX1_measure 1 = .ok (.istore_n 3, 1) := by decide +kernel
theorem dX1_measure_2 : decode cX1_measure 2 = .ok (.iload_n 3, 1) := by decide +kernel
theorem dX1_measure_3 : decode cX1_measure 3 = .ok (.aload_n 0, 1) := by decide +kernel
theorem dX1_measure_4 : decode cX1_measure 4 = .ok (.getfield 25, 3) := by decide +kernel
theorem dX1_measure_7 : decode cX1_measure 7 = .ok (.getfield 61, 3) := by decide +kernel
theorem dX1_measure_10 : decode cX1_measure 10 = .ok (.if_icmp .ge 59, 3) := by decide +kernel
theorem dX1_measure_13 : decode cX1_measure 13 = .ok (.aload_n 0, 1) := by decide +kernel
theorem dX1_measure_14 : decode cX1_measure 14 = .ok (.getfield 29, 3) := by decide +kernel
theorem dX1_measure_17 : decode cX1_measure 17 = .ok (.iload_n 1, 1) := by decide +kernel
theorem dX1_measure_18 : decode cX1_measure 18 = .ok (.iload_n 3, 1) := by decide +kernel
theorem dX1_measure_19 : decode cX1_measure 19 = .ok (.invokevirtual 53, 3) := by decide +kernel
theorem dX1_measure_22 : decode cX1_measure 22 = .ok (.aload_n 0, 1) := by decide +kernel
theorem dX1_measure_23 : decode cX1_measure 23 = .ok (.getfield 29, 3) := by decide +kernel
theorem dX1_measure_26 : decode cX1_measure 26 = .ok (.iload_n 1, 1) := by decide +kernel
theorem dX1_measure_27 : decode cX1_measure 27 = .ok (.iload_n 3, 1) := by decide +kernel
theorem dX1_measure_28 : decode cX1_measure 28 = .ok (.iconst 1, 1) := by decide +kernel
theorem dX1_measure_29 : decode cX1_measure 29 = .ok (.isub, 1) := by decide +kernel
theorem dX1_measure_30 : decode cX1_measure 30 = .ok (.invokevirtual 53, 3) := by decide +kernel
theorem dX1_measure_33 : decode cX1_measure 33 = .ok (.isub, 1) := by decide +kernel
theorem dX1_measure_34 : decode cX1_measure 34 = .ok (.istore 4, 2) := by decide +kernel
theorem dX1_measure_36 : decode cX1_measure 36 = .ok (.aload_n 0, 1) := by decide +kernel
theorem dX1_measure_37 : decode cX1_measure 37 = .ok (.getfield 9, 3) := by decide +kernel
theorem dX1_measure_40 : decode cX1_measure 40 = .ok (.iload_n 3, 1) := by decide +kernel
theorem dX1_measure_41 : decode cX1_measure 41 = .ok (.aload_n 0, 1) := by decide +kernel
theorem dX1_measure_42 : decode cX1_measure 42 = .ok (.getfield 9, 3) := by decide +kernel
theorem dX1_measure_45 : decode cX1_measure 45 = .ok (.iload_n 3, 1) := by decide +kernel
theorem dX1_measure_46 : decode cX1_measure 46 = .ok (.iconst 1, 1) := by decide +kernel
theorem dX1_measure_47 : decode cX1_measure 47 = .ok (.isub, 1) := by decide +kernel
theorem dX1_measure_48 : decode cX1_measure 48 = .ok (.iaload, 1) := by decide +kernel
theorem dX1_measure_49 : decode cX1_measure 49 = .ok (.iload_n 2, 1) := by decide +kernel
theorem dX1_measure_50 : decode cX1_measure 50 = .ok (.iload_n 2, 1) := by decide +kernel
theorem dX1_measure_51 : decode cX1_measure 51 = .ok (.imul, 1) := by decide +kernel
theorem dX1_measure_52 : decode cX1_measure 52 = .ok (.iload 4, 2) := by decide +kernel
theorem dX1_measure_54 : decode cX1_measure 54 = .ok (.iload 4, 2) := by decide +kernel
theorem dX1_measure_56 : decode cX1_measure 56 = .ok (.imul, 1) := by decide +kernel
theorem dX1_measure_57 : decode cX1_measure 57 = .ok (.iadd, 1) := by decide +kernel
theorem dX1_measure_58 : decode cX1_measure 58 = .ok (.invokestatic 81, 3) := by decide +kernel
theorem dX1_measure_61 : decode cX1_measure 61 = .ok (.iadd, 1) := by decide +kernel
theorem dX1_measure_62 : decode cX1_measure 62 = .ok (.iastore, 1) := by decide +kernel
theorem dX1_measure_63 : decode cX1_measure 63 = .ok (.iinc 3 1, 3) := by decide +kernel
theorem dX1_measure_66 : decode cX1_measure 66 = .ok (.goto (-64), 3) := by decide +kernel
theorem dX1_measure_69 : decode cX1_measure 69 = .ok (.return_, 1) := by decide +kernel
theorem dX1_layUpTo_0 : decode cX1_layUpTo 0 = .ok (.aload_n 0, 1) := by decide +kernel
theorem dX1_layUpTo_1 : decode cX1_layUpTo 1 = .ok (.iconst 0, 1) := by decide +kernel
theorem dX1_layUpTo_2 : decode cX1_layUpTo 2 = .ok (.putfield 85, 3) := by decide +kernel
theorem dX1_layUpTo_5 : decode cX1_layUpTo 5 = .ok (.iconst 0, 1) := by decide +kernel
theorem dX1_layUpTo_6 : decode cX1_layUpTo 6 = .ok (.istore 4, 2) := by decide +kernel
theorem dX1_layUpTo_8 : decode cX1_layUpTo 8 = .ok (.iload 4, 2) := by decide +kernel
theorem dX1_layUpTo_10 : decode cX1_layUpTo 10 = .ok (.iload_n 1, 1) := by decide +kernel
theorem dX1_layUpTo_11 : decode cX1_layUpTo 11 = .ok (.if_icmp .gt 44, 3) := by decide +kernel
theorem dX1_layUpTo_14 : decode cX1_layUpTo 14 = .ok (.aload_n 0, 1) := by decide +kernel
theorem dX1_layUpTo_15 : decode cX1_layUpTo 15 = .ok (.iload 4, 2) := by decide +kernel
theorem dX1_layUpTo_17 : decode cX1_layUpTo 17 = .ok (.iload_n 3, 1) := by decide +kernel
theorem dX1_layUpTo_18 : decode cX1_layUpTo 18 = .ok (.invokevirtual 73, 3) := by decide +kernel
theorem dX1_layUpTo_21 : decode cX1_layUpTo 21 = .ok (.aload_n 0, 1) := by decide +kernel
theorem dX1_layUpTo_22 : decode cX1_layUpTo 22 = .ok (.invokevirtual 88, 3) := by decide +kernel
theorem dX1_layUpTo_25 : decode cX1_layUpTo 25 = .ok (.aload_n 0, 1) := by decide +kernel
theorem dX1_layUpTo_26 : decode cX1_layUpTo 26 = .ok (.iload_n 2, 1) := by decide +kernel
theorem dX1_layUpTo_27 : decode cX1_layUpTo 27 = .ok (.invokevirtual 91, 3) := by decide +kernel
theorem dX1_layUpTo_30 : decode cX1_layUpTo 30 = .ok (.aload_n 0, 1) := by decide +kernel
theorem dX1_layUpTo_31 : decode cX1_layUpTo 31 = .ok (.getfield 15, 3) := by decide +kernel
theorem dX1_layUpTo_34 : decode cX1_layUpTo 34 = .ok (.iconst 0, 1) := by decide +kernel
theorem dX1_layUpTo_35 : decode cX1_layUpTo 35 = .ok (.iaload, 1) := by decide +kernel
theorem dX1_layUpTo_36 : decode cX1_layUpTo 36 = .ok (.sipush 1000, 3) := by decide +kernel
theorem dX1_layUpTo_39 : decode cX1_layUpTo 39 = .ok (.if_icmp .lt 5, 3) := by decide +kernel
theorem dX1_layUpTo_42 : decode cX1_layUpTo 42 = .ok (.iconst 0, 1) := by decide +kernel
theorem dX1_layUpTo_43 : decode cX1_layUpTo 43 = .ok (.ireturn, 1) := by decide +kernel
theorem dX1_layUpTo_44 : decode cX1_layUpTo 44 = .ok (.aload_n 0, 1) := by decide +kernel
theorem dX1_layUpTo_45 : decode cX1_layUpTo 45 = .ok (.iload_n 2, 1) := by decide +kernel
theorem dX1_layUpTo_46 : decode cX1_layUpTo 46 = .ok (.invokevirtual 95, 3) := by decide +kernel
theorem dX1_layUpTo_49 : decode cX1_layUpTo 49 = .ok (.iinc 4 1, 3) := by decide +kernel
theorem dX1_layUpTo_52 : decode cX1_layUpTo 52 = .ok (.goto (-44), 3) := by decide +kernel
theorem dX1_layUpTo_55 : decode cX1_layUpTo 55 = .ok (.iconst 1, 1) := by decide +kernel
theorem dX1_layUpTo_56 : decode cX1_layUpTo 56 = .ok (.ireturn, 1) := by decide +kernel
theorem dX1_barNearMeetings_0 : decode cX1_barNearMeetings 0 = .ok (.iconst 0, 1) := by decide +kernel
theorem dX1_barNearMeetings_1 : decode cX1_barNearMeetings 1 = .ok (.istore_n 1, 1) := by decide +kernel
theorem dX1_barNearMeetings_2 : decode cX1_barNearMeetings 2 = .ok (.iload_n 1, 1) := by decide +kernel
theorem dX1_barNearMeetings_3 : decode cX1_barNearMeetings 3 = .ok (.aload_n 0, 1) := by decide +kernel
theorem dX1_barNearMeetings_4 : decode cX1_barNearMeetings 4 = .ok (.getfield 25, 3) := by decide +kernel
theorem dX1_barNearMeetings_7 : decode cX1_barNearMeetings 7 = .ok (.getfield 61, 3) := by decide +kernel
theorem dX1_barNearMeetings_10 : decode cX1_barNearMeetings 10 = .ok (.if_icmp .ge 54, 3) := by decide +kernel
theorem dX1_barNearMeetings_13 : decode cX1_barNearMeetings 13 = .ok (.aload_n 0, 1) := by decide +kernel
theorem dX1_barNearMeetings_14 : decode cX1_barNearMeetings 14 = .ok (.getfield 18, 3) := by decide +kernel
theorem dX1_barNearMeetings_17 : decode cX1_barNearMeetings 17 = .ok (.iload_n 1, 1) := by decide +kernel
theorem dX1_barNearMeetings_18 : decode cX1_barNearMeetings 18 = .ok (.iconst 0, 1) := by decide +kernel
theorem dX1_barNearMeetings_19 : decode cX1_barNearMeetings 19 = .ok (.bastore, 1) := by decide +kernel
theorem dX1_barNearMeetings_20 : decode cX1_barNearMeetings 20 = .ok (.iconst 0, 1) := by decide +kernel
theorem dX1_barNearMeetings_21 : decode cX1_barNearMeetings 21 = .ok (.istore_n 2, 1) := by decide +kernel
theorem dX1_barNearMeetings_22 : decode cX1_barNearMeetings 22 = .ok (.iload_n 2, 1) := by decide +kernel
theorem dX1_barNearMeetings_23 : decode cX1_barNearMeetings 23 = .ok (.aload_n 0, 1) := by decide +kernel
theorem dX1_barNearMeetings_24 : decode cX1_barNearMeetings 24 = .ok (.getfield 85, 3) := by decide +kernel
theorem dX1_barNearMeetings_27 : decode cX1_barNearMeetings 27 = .ok (.if_icmp .ge 31, 3) := by decide +kernel
theorem dX1_barNearMeetings_30 : decode cX1_barNearMeetings 30 = .ok (.aload_n 0, 1) := by decide +kernel
theorem dX1_barNearMeetings_31 : decode cX1_barNearMeetings 31 = .ok (.getfield 22, 3) := by decide +kernel
theorem dX1_barNearMeetings_34 : decode cX1_barNearMeetings 34 = .ok (.iload_n 2, 1) := by decide +kernel
theorem dX1_barNearMeetings_35 : decode cX1_barNearMeetings 35 = .ok (.iaload, 1) := by decide +kernel
theorem dX1_barNearMeetings_36 : decode cX1_barNearMeetings 36 = .ok (.iload_n 1, 1) := by decide +kernel
theorem dX1_barNearMeetings_37 : decode cX1_barNearMeetings 37 = .ok (.isub, 1) := by decide +kernel
theorem dX1_barNearMeetings_38 : decode cX1_barNearMeetings 38 = .ok (.invokestatic 98, 3) := by decide +kernel
theorem dX1_barNearMeetings_41 : decode cX1_barNearMeetings 41 = .ok (.iconst 2, 1) := by decide +kernel
theorem dX1_barNearMeetings_42 : decode cX1_barNearMeetings 42 = .ok (.if_icmp .ge 10, 3) := by decide +kernel
theorem dX1_barNearMeetings_45 : decode cX1_barNearMeetings 45 = .ok (.aload_n 0, 1) := by decide +kernel
theorem dX1_barNearMeetings_46 : decode cX1_barNearMeetings 46 = .ok (.getfield 18, 3) := by decide +kernel
theorem dX1_barNearMeetings_49 : decode cX1_barNearMeetings 49 = .ok (.iload_n 1, 1) := by decide +kernel
theorem dX1_barNearMeetings_50 : decode cX1_barNearMeetings 50 = .ok (.iconst 1, 1) := by decide +kernel
theorem dX1_barNearMeetings_51 : decode cX1_barNearMeetings 51 = .ok (.bastore, 1) := by decide +kernel
theorem dX1_barNearMeetings_52 : decode cX1_barNearMeetings 52 = .ok (.iinc 2 1, 3) := by decide +kernel
theorem dX1_barNearMeetings_55 : decode cX1_barNearMeetings 55 = .ok (.goto (-33), 3) := by decide +kernel
theorem dX1_barNearMeetings_58 : decode cX1_barNearMeetings 58 = .ok (.iinc 1 1, 3) := by decide +kernel
theorem dX1_barNearMeetings_61 : decode cX1_barNearMeetings 61 = .ok (.goto (-59), 3) := by decide +kernel
theorem dX1_barNearMeetings_64 : decode cX1_barNearMeetings 64 = .ok (.return_, 1) := by decide +kernel
theorem dX1_reaches_0 : decode cX1_reaches 0 = .ok (.aload_n 0, 1) := by decide +kernel
theorem dX1_reaches_1 : decode cX1_reaches 1 = .ok (.getfield 9, 3) := by decide +kernel
theorem dX1_reaches_4 : decode cX1_reaches 4 = .ok (.iload_n 2, 1) := by decide +kernel
theorem dX1_reaches_5 : decode cX1_reaches 5 = .ok (.iaload, 1) := by decide +kernel
theorem dX1_reaches_6 : decode cX1_reaches 6 = .ok (.aload_n 0, 1) := by decide +kernel
theorem dX1_reaches_7 : decode cX1_reaches 7 = .ok (.getfield 9, 3) := by decide +kernel
theorem dX1_reaches_10 : decode cX1_reaches 10 = .ok (.iload_n 1, 1) := by decide +kernel
theorem dX1_reaches_11 : decode cX1_reaches 11 = .ok (.iaload, 1) := by decide +kernel
theorem dX1_reaches_12 : decode cX1_reaches 12 = .ok (.isub, 1) := by decide +kernel
theorem dX1_reaches_13 : decode cX1_reaches 13 = .ok (.iload_n 3, 1) := by decide +kernel
theorem dX1_reaches_14 : decode cX1_reaches 14 = .ok (.if_icmp .gt 7, 3) := by decide +kernel
theorem dX1_reaches_17 : decode cX1_reaches 17 = .ok (.iconst 1, 1) := by decide +kernel
theorem dX1_reaches_18 : decode cX1_reaches 18 = .ok (.goto 4, 3) := by decide +kernel
theorem dX1_reaches_21 : decode cX1_reaches 21 = .ok (.iconst 0, 1) := by decide +kernel
theorem dX1_reaches_22 : decode cX1_reaches 22 = .ok (.ireturn, 1) := by decide +kernel
theorem dX1_reckonNeeded_0 : decode cX1_reckonNeeded 0 = .ok (.aload_n 0, 1) := by decide +kernel
theorem dX1_reckonNeeded_1 : decode cX1_reckonNeeded 1 = .ok (.getfield 25, 3) := by decide +kernel
theorem dX1_reckonNeeded_4 : decode cX1_reckonNeeded 4 = .ok (.getfield 61, 3) := by decide +kernel
theorem dX1_reckonNeeded_7 : decode cX1_reckonNeeded 7 = .ok (.iconst 1, 1) := by decide +kernel
theorem dX1_reckonNeeded_8 : decode cX1_reckonNeeded 8 = .ok (.isub, 1) := by decide +kernel
theorem dX1_reckonNeeded_9 : decode cX1_reckonNeeded 9 = .ok (.istore_n 2, 1) := by decide +kernel
theorem dX1_reckonNeeded_10 : decode cX1_reckonNeeded 10 = .ok (.iload_n 2, 1) := by decide +kernel
theorem dX1_reckonNeeded_11 : decode cX1_reckonNeeded 11 = .ok (.iconst 1, 1) := by decide +kernel
theorem dX1_reckonNeeded_12 : decode cX1_reckonNeeded 12 = .ok (.isub, 1) := by decide +kernel
theorem dX1_reckonNeeded_13 : decode cX1_reckonNeeded 13 = .ok (.istore_n 3, 1) := by decide +kernel
theorem dX1_reckonNeeded_14 : decode cX1_reckonNeeded 14 = .ok (.iload_n 3, 1) := by decide +kernel
theorem dX1_reckonNeeded_15 : decode cX1_reckonNeeded 15 = .ok (.ifCond .lt 95, 3) := by decide +kernel
theorem dX1_reckonNeeded_18 : decode cX1_reckonNeeded 18 = .ok (.aload_n 0, 1) := by decide +kernel
theorem dX1_reckonNeeded_19 : decode cX1_reckonNeeded 19 = .ok (.iload_n 3, 1) := by decide +kernel
theorem dX1_reckonNeeded_20 : decode cX1_reckonNeeded 20 = .ok (.iload_n 2, 1) := by decide +kernel
theorem dX1_reckonNeeded_21 : decode cX1_reckonNeeded 21 = .ok (.iload_n 1, 1) := by decide +kernel
theorem dX1_reckonNeeded_22 : decode cX1_reckonNeeded 22 = .ok (.invokevirtual 101, 3) := by decide +kernel
theorem dX1_reckonNeeded_25 : decode cX1_reckonNeeded 25 = .ok (.ifCond .eq 7, 3) := by decide +kernel
theorem dX1_reckonNeeded_28 : decode cX1_reckonNeeded 28 = .ok (.iconst 0, 1) := by decide +kernel
theorem dX1_reckonNeeded_29 : decode cX1_reckonNeeded 29 = .ok (.goto 6, 3) := by decide +kernel
theorem dX1_reckonNeeded_32 : decode cX1_reckonNeeded 32 = .ok (.sipush 1000, 3) := by decide +kernel
theorem dX1_reckonNeeded_35 : decode cX1_reckonNeeded 35 = .ok (.istore 4, 2) := by decide +kernel
theorem dX1_reckonNeeded_37 : decode cX1_reckonNeeded 37 = .ok (.iload_n 3, 1) := by decide +kernel
theorem dX1_reckonNeeded_38 : decode cX1_reckonNeeded 38 = .ok (.iconst 1, 1) := by decide +kernel
theorem dX1_reckonNeeded_39 : decode cX1_reckonNeeded 39 = .ok (.iadd, 1) := by decide +kernel
theorem dX1_reckonNeeded_40 : decode cX1_reckonNeeded 40 = .ok (.istore 5, 2) := by decide +kernel
theorem dX1_reckonNeeded_42 : decode cX1_reckonNeeded 42 = .ok (.iload 5, 2) := by decide +kernel
theorem dX1_reckonNeeded_44 : decode cX1_reckonNeeded 44 = .ok (.iload_n 2, 1) := by decide +kernel
theorem dX1_reckonNeeded_45 : decode cX1_reckonNeeded 45 = .ok (.if_icmp .ge 51, 3) := by decide +kernel
theorem dX1_reckonNeeded_48 : decode cX1_reckonNeeded 48 = .ok (.iload 4, 2) := by decide +kernel
theorem dX1_reckonNeeded_50 : decode cX1_reckonNeeded 50 = .ok (.ifCond .le 46, 3) := by decide +kernel
theorem dX1_reckonNeeded_53 : decode cX1_reckonNeeded 53 = .ok (.aload_n 0, 1) := by decide +kernel
theorem dX1_reckonNeeded_54 : decode cX1_reckonNeeded 54 = .ok (.getfield 18, 3) := by decide +kernel
theorem dX1_reckonNeeded_57 : decode cX1_reckonNeeded 57 = .ok (.iload 5, 2) := by decide +kernel
theorem dX1_reckonNeeded_59 : decode cX1_reckonNeeded 59 = .ok (.baload, 1) := by decide +kernel
theorem dX1_reckonNeeded_60 : decode cX1_reckonNeeded 60 = .ok (.ifCond .ne 30, 3) := by decide +kernel
theorem dX1_reckonNeeded_63 : decode cX1_reckonNeeded 63 = .ok (.aload_n 0, 1) := by decide +kernel
theorem dX1_reckonNeeded_64 : decode cX1_reckonNeeded 64 = .ok (.iload_n 3, 1) := by decide +kernel
theorem dX1_reckonNeeded_65 : decode cX1_reckonNeeded 65 = .ok (.iload 5, 2) := by decide +kernel
theorem dX1_reckonNeeded_67 : decode cX1_reckonNeeded 67 = .ok (.iload_n 1, 1) := by decide +kernel
theorem dX1_reckonNeeded_68 : decode cX1_reckonNeeded 68 = .ok (.invokevirtual 101, 3) := by decide +kernel
theorem dX1_reckonNeeded_71 : decode cX1_reckonNeeded 71 = .ok (.ifCond .eq 19, 3) := by decide +kernel
theorem dX1_reckonNeeded_74 : decode cX1_reckonNeeded 74 = .ok (.iload 4, 2) := by decide +kernel
theorem dX1_reckonNeeded_76 : decode cX1_reckonNeeded 76 = .ok (.aload_n 0, 1) := by decide +kernel
theorem dX1_reckonNeeded_77 : decode cX1_reckonNeeded 77 = .ok (.getfield 15, 3) := by decide +kernel
theorem dX1_reckonNeeded_80 : decode cX1_reckonNeeded 80 = .ok (.iload 5, 2) := by decide +kernel
theorem dX1_reckonNeeded_82 : decode cX1_reckonNeeded 82 = .ok (.iaload, 1) := by decide +kernel
theorem dX1_reckonNeeded_83 : decode cX1_reckonNeeded 83 = .ok (.iconst 1, 1) := by decide +kernel
theorem dX1_reckonNeeded_84 : decode cX1_reckonNeeded 84 = .ok (.iadd, 1) := by decide +kernel
theorem dX1_reckonNeeded_85 : decode cX1_reckonNeeded 85 = .ok (.invokestatic 104, 3) := by decide +kernel
theorem dX1_reckonNeeded_88 : decode cX1_reckonNeeded 88 = .ok (.istore 4, 2) := by decide +kernel
theorem dX1_reckonNeeded_90 : decode cX1_reckonNeeded 90 = .ok (.iinc 5 1, 3) := by decide +kernel
theorem dX1_reckonNeeded_93 : decode cX1_reckonNeeded 93 = .ok (.goto (-51), 3) := by decide +kernel
theorem dX1_reckonNeeded_96 : decode cX1_reckonNeeded 96 = .ok (.aload_n 0, 1) := by decide +kernel
theorem dX1_reckonNeeded_97 : decode cX1_reckonNeeded 97 = .ok (.getfield 15, 3) := by decide +kernel
theorem dX1_reckonNeeded_100 : decode cX1_reckonNeeded 100 = .ok (.iload_n 3, 1) := by decide +kernel
theorem dX1_reckonNeeded_101 : decode cX1_reckonNeeded 101 = .ok (.iload 4, 2) := by decide +kernel
theorem dX1_reckonNeeded_103 : decode cX1_reckonNeeded 103 = .ok (.iastore, 1) := by decide +kernel
theorem dX1_reckonNeeded_104 : decode cX1_reckonNeeded 104 = .ok (.iinc 3 (-1), 3) := by decide +kernel
theorem dX1_reckonNeeded_107 : decode cX1_reckonNeeded 107 = .ok (.goto (-93), 3) := by decide +kernel
theorem dX1_reckonNeeded_110 : decode cX1_reckonNeeded 110 = .ok (.return_, 1) := by decide +kernel
theorem dX1_joinPlanks_0 : decode cX1_joinPlanks 0 = .ok (.aload_n 0, 1) := by decide +kernel
theorem dX1_joinPlanks_1 : decode cX1_joinPlanks 1 = .ok (.iconst 0, 1) := by decide +kernel
theorem dX1_joinPlanks_2 : decode cX1_joinPlanks 2 = .ok (.putfield 85, 3) := by decide +kernel
theorem dX1_joinPlanks_5 : decode cX1_joinPlanks 5 = .ok (.iconst 0, 1) := by decide +kernel
theorem dX1_joinPlanks_6 : decode cX1_joinPlanks 6 = .ok (.istore_n 2, 1) := by decide +kernel
theorem dX1_joinPlanks_7 : decode cX1_joinPlanks 7 = .ok (.iconst 1, 1) := by decide +kernel
theorem dX1_joinPlanks_8 : decode cX1_joinPlanks 8 = .ok (.istore_n 3, 1) := by decide +kernel
theorem dX1_joinPlanks_9 : decode cX1_joinPlanks 9 = .ok (.iload_n 3, 1) := by decide +kernel
theorem dX1_joinPlanks_10 : decode cX1_joinPlanks 10 = .ok (.aload_n 0, 1) := by decide +kernel
theorem dX1_joinPlanks_11 : decode cX1_joinPlanks 11 = .ok (.getfield 25, 3) := by decide +kernel
theorem dX1_joinPlanks_14 : decode cX1_joinPlanks 14 = .ok (.getfield 61, 3) := by decide +kernel
theorem dX1_joinPlanks_17 : decode cX1_joinPlanks 17 = .ok (.iconst 1, 1) := by decide +kernel
theorem dX1_joinPlanks_18 : decode cX1_joinPlanks 18 = .ok (.isub, 1) := by decide +kernel
theorem dX1_joinPlanks_19 : decode cX1_joinPlanks 19 = .ok (.if_icmp .ge 76, 3) := by decide +kernel
theorem dX1_joinPlanks_22 : decode cX1_joinPlanks 22 = .ok (.aload_n 0, 1) := by decide +kernel
theorem dX1_joinPlanks_23 : decode cX1_joinPlanks 23 = .ok (.getfield 15, 3) := by decide +kernel
theorem dX1_joinPlanks_26 : decode cX1_joinPlanks 26 = .ok (.iload_n 2, 1) := by decide +kernel
theorem dX1_joinPlanks_27 : decode cX1_joinPlanks 27 = .ok (.iaload, 1) := by decide +kernel
theorem dX1_joinPlanks_28 : decode cX1_joinPlanks 28 = .ok (.ifCond .le 67, 3) := by decide +kernel
theorem dX1_joinPlanks_31 : decode cX1_joinPlanks 31 = .ok (.aload_n 0, 1) := by decide +kernel
theorem dX1_joinPlanks_32 : decode cX1_joinPlanks 32 = .ok (.getfield 18, 3) := by decide +kernel
theorem dX1_joinPlanks_35 : decode cX1_joinPlanks 35 = .ok (.iload_n 3, 1) := by decide +kernel
theorem dX1_joinPlanks_36 : decode cX1_joinPlanks 36 = .ok (.baload, 1) := by decide +kernel
theorem dX1_joinPlanks_37 : decode cX1_joinPlanks 37 = .ok (.ifCond .ne 52, 3) := by decide +kernel
theorem dX1_joinPlanks_40 : decode cX1_joinPlanks 40 = .ok (.aload_n 0, 1) := by decide +kernel
theorem dX1_joinPlanks_41 : decode cX1_joinPlanks 41 = .ok (.iload_n 2, 1) := by decide +kernel
theorem dX1_joinPlanks_42 : decode cX1_joinPlanks 42 = .ok (.iload_n 3, 1) := by decide +kernel
theorem dX1_joinPlanks_43 : decode cX1_joinPlanks 43 = .ok (.iload_n 1, 1) := by decide +kernel
theorem dX1_joinPlanks_44 : decode cX1_joinPlanks 44 = .ok (.invokevirtual 101, 3) := by decide +kernel
theorem dX1_joinPlanks_47 : decode cX1_joinPlanks 47 = .ok (.ifCond .eq 42, 3) := by decide +kernel
theorem dX1_joinPlanks_50 : decode cX1_joinPlanks 50 = .ok (.aload_n 0, 1) := by decide +kernel
theorem dX1_joinPlanks_51 : decode cX1_joinPlanks 51 = .ok (.getfield 15, 3) := by decide +kernel
theorem dX1_joinPlanks_54 : decode cX1_joinPlanks 54 = .ok (.iload_n 3, 1) := by decide +kernel
theorem dX1_joinPlanks_55 : decode cX1_joinPlanks 55 = .ok (.iaload, 1) := by decide +kernel
theorem dX1_joinPlanks_56 : decode cX1_joinPlanks 56 = .ok (.aload_n 0, 1) := by decide +kernel
theorem dX1_joinPlanks_57 : decode cX1_joinPlanks 57 = .ok (.getfield 15, 3) := by decide +kernel
theorem dX1_joinPlanks_60 : decode cX1_joinPlanks 60 = .ok (.iload_n 2, 1) := by decide +kernel
theorem dX1_joinPlanks_61 : decode cX1_joinPlanks 61 = .ok (.iaload, 1) := by decide +kernel
theorem dX1_joinPlanks_62 : decode cX1_joinPlanks 62 = .ok (.iconst 1, 1) := by decide +kernel
theorem dX1_joinPlanks_63 : decode cX1_joinPlanks 63 = .ok (.isub, 1) := by decide +kernel
theorem dX1_joinPlanks_64 : decode cX1_joinPlanks 64 = .ok (.if_icmp .ne 25, 3) := by decide +kernel
theorem dX1_joinPlanks_67 : decode cX1_joinPlanks 67 = .ok (.aload_n 0, 1) := by decide +kernel
theorem dX1_joinPlanks_68 : decode cX1_joinPlanks 68 = .ok (.getfield 22, 3) := by decide +kernel
theorem dX1_joinPlanks_71 : decode cX1_joinPlanks 71 = .ok (.aload_n 0, 1) := by decide +kernel
theorem dX1_joinPlanks_72 : decode cX1_joinPlanks 72 = .ok (.getfield 85, 3) := by decide +kernel
theorem dX1_joinPlanks_75 : decode cX1_joinPlanks 75 = .ok (.iload_n 3, 1) := by decide +kernel
theorem dX1_joinPlanks_76 : decode cX1_joinPlanks 76 = .ok (.iastore, 1) := by decide +kernel
theorem dX1_joinPlanks_77 : decode cX1_joinPlanks 77 = .ok (.aload_n 0, 1) := by decide +kernel
theorem dX1_joinPlanks_78 : decode cX1_joinPlanks 78 = .ok (.dup, 1) := by decide +kernel
theorem dX1_joinPlanks_79 : decode cX1_joinPlanks 79 = .ok (.getfield 85, 3) := by decide +kernel
theorem dX1_joinPlanks_82 : decode cX1_joinPlanks 82 = .ok (.iconst 1, 1) := by decide +kernel
theorem dX1_joinPlanks_83 : decode cX1_joinPlanks 83 = .ok (.iadd, 1) := by decide +kernel
theorem dX1_joinPlanks_84 : decode cX1_joinPlanks 84 = .ok (.putfield 85, 3) := by decide +kernel
theorem dX1_joinPlanks_87 : decode cX1_joinPlanks 87 = .ok (.iload_n 3, 1) := by decide +kernel
theorem dX1_joinPlanks_88 : decode cX1_joinPlanks 88 = .ok (.istore_n 2, 1) := by decide +kernel
theorem dX1_joinPlanks_89 : decode cX1_joinPlanks 89 = .ok (.iinc 3 1, 3) := by decide +kernel
theorem dX1_joinPlanks_92 : decode cX1_joinPlanks 92 = .ok (.goto (-83), 3) := by decide +kernel
theorem dX1_joinPlanks_95 : decode cX1_joinPlanks 95 = .ok (.return_, 1) := by decide +kernel
theorem dX2_init_0 : decode cX2_init 0 = .ok (.aload_n 0, 1) := by decide +kernel
theorem dX2_init_1 : decode cX2_init 1 = .ok (.invokespecial 5, 3) := by decide +kernel
theorem dX2_init_4 : decode cX2_init 4 = .ok (.aload_n 0, 1) := by decide +kernel
theorem dX2_init_5 : decode cX2_init 5 = .ok (.bipush 24, 2) := by decide +kernel
theorem dX2_init_7 : decode cX2_init 7 = .ok (.newarray .int, 2) := by decide +kernel
theorem dX2_init_9 : decode cX2_init 9 = .ok (.putfield 11, 3) := by decide +kernel
theorem dX2_init_12 : decode cX2_init 12 = .ok (.aload_n 0, 1) := by decide +kernel
theorem dX2_init_13 : decode cX2_init 13 = .ok (.bipush 24, 2) := by decide +kernel
theorem dX2_init_15 : decode cX2_init 15 = .ok (.newarray .int, 2) := by decide +kernel
theorem dX2_init_17 : decode cX2_init 17 = .ok (.putfield 15, 3) := by decide +kernel
theorem dX2_init_20 : decode cX2_init 20 = .ok (.aload_n 0, 1) := by decide +kernel
theorem dX2_init_21 : decode cX2_init 21 = .ok (.bipush 24, 2) := by decide +kernel
theorem dX2_init_23 : decode cX2_init 23 = .ok (.newarray .boolean, 2) := by decide +kernel
theorem dX2_init_25 : decode cX2_init 25 = .ok (.putfield 18, 3) := by decide +kernel
theorem dX2_init_28 : decode cX2_init 28 = .ok (.aload_n 0, 1) := by decide +kernel
theorem dX2_init_29 : decode cX2_init 29 = .ok (.sipush 192, 3) := by decide +kernel
theorem dX2_init_32 : decode cX2_init 32 = .ok (.newarray .int, 2) := by decide +kernel
theorem dX2_init_34 : decode cX2_init 34 = .ok (.putfield 22, 3) := by decide +kernel
theorem dX2_init_37 : decode cX2_init 37 = .ok (.aload_n 0, 1) := by decide +kernel
theorem dX2_init_38 : decode cX2_init 38 = .ok (.bipush 8, 2) := by decide +kernel
theorem dX2_init_40 : decode cX2_init 40 = .ok (.newarray .long, 2) := by decide +kernel
theorem dX2_init_42 : decode cX2_init 42 = .ok (.putfield 25, 3) := by decide +kernel
theorem dX2_init_45 : decode cX2_init 45 = .ok (.aload_n 0, 1) := by decide +kernel
theorem dX2_init_46 : decode cX2_init 46 = .ok (.bipush 8, 2) := by decide +kernel
theorem dX2_init_48 : decode cX2_init 48 = .ok (.newarray .boolean, 2) := by decide +kernel
theorem dX2_init_50 : decode cX2_init 50 = .ok (.putfield 29, 3) := by decide +kernel
theorem dX2_init_53 : decode cX2_init 53 = .ok (.aload_n 0, 1) := by decide +kernel
theorem dX2_init_54 : decode cX2_init 54 = .ok (.bipush 8, 2) := by decide +kernel
theorem dX2_init_56 : decode cX2_init 56 = .ok (.newarray .int, 2) := by decide +kernel
theorem dX2_init_58 : decode cX2_init 58 = .ok (.putfield 32, 3) := by decide +kernel
theorem dX2_init_61 : decode cX2_init 61 = .ok (.aload_n 0, 1) := by decide +kernel
theorem dX2_init_62 : decode cX2_init 62 = .ok (.bipush 8, 2) := by decide +kernel
theorem dX2_init_64 : decode cX2_init 64 = .ok (.newarray .int, 2) := by decide +kernel
theorem dX2_init_66 : decode cX2_init 66 = .ok (.putfield 35, 3) := by decide +kernel
theorem dX2_init_69 : decode cX2_init 69 = .ok (.aload_n 0, 1) := by decide +kernel
theorem dX2_init_70 : decode cX2_init 70 = .ok (.ldc 38, 2) := by decide +kernel
theorem dX2_init_72 : decode cX2_init 72 = .ok (.newarray .byte, 2) := by decide +kernel
theorem dX2_init_74 : decode cX2_init 74 = .ok (.putfield 39, 3) := by decide +kernel
theorem dX2_init_77 : decode cX2_init 77 = .ok (.aload_n 0, 1) := by decide +kernel
theorem dX2_init_78 : decode cX2_init 78 = .ok (.sipush 3721, 3) := by decide +kernel
theorem dX2_init_81 : decode cX2_init 81 = .ok (.newarray .long, 2) := by decide +kernel
theorem dX2_init_83 : decode cX2_init 83 = .ok (.putfield 43, 3) := by decide +kernel
theorem dX2_init_86 : decode cX2_init 86 = .ok (.aload_n 0, 1) := by decide +kernel
theorem dX2_init_87 : decode cX2_init 87 = .ok (.sipush 3721, 3) := by decide +kernel
theorem dX2_init_90 : decode cX2_init 90 = .ok (.newarray .long, 2) := by decide +kernel
theorem dX2_init_92 : decode cX2_init 92 = .ok (.putfield 46, 3) := by decide +kernel
theorem dX2_init_95 : decode cX2_init 95 = .ok (.aload_n 0, 1) := by decide +kernel
theorem dX2_init_96 : decode cX2_init 96 = .ok (.aload_n 1, 1) := by decide +kernel
theorem dX2_init_97 : decode cX2_init 97 = .ok (.putfield 49, 3) := by decide +kernel
theorem dX2_init_100 : decode cX2_init 100 = .ok (.return_, 1) := by decide +kernel
theorem dX2_lineAt_0 : decode cX2_lineAt 0 = .ok (.aload_n 0, 1) := by decide +kernel
theorem dX2_lineAt_1 : decode cX2_lineAt 1 = .ok (.getfield 22, 3) := by decide +kernel
theorem dX2_lineAt_4 : decode cX2_lineAt 4 = .ok (.iload_n 1, 1) := by decide +kernel
theorem dX2_lineAt_5 : decode cX2_lineAt 5 = .ok (.bipush 24, 2) := by decide +kernel
theorem dX2_lineAt_7 : decode cX2_lineAt 7 = .ok (.imul, 1) := by decide +kernel
theorem dX2_lineAt_8 : decode cX2_lineAt 8 = .ok (.iload_n 2, 1) := by decide +kernel
theorem dX2_lineAt_9 : decode cX2_lineAt 9 = .ok (.iadd, 1) := by decide +kernel
theorem dX2_lineAt_10 : decode cX2_lineAt 10 = .ok (.iaload, 1) := by decide +kernel
theorem dX2_lineAt_11 : decode cX2_lineAt 11 = .ok (.ireturn, 1) := by decide +kernel
theorem dX2_fits_0 : decode cX2_fits 0 = .ok (.iload_n 1, 1) := by decide +kernel
theorem dX2_fits_1 : decode cX2_fits 1 = .ok (.iconst 0, 1) := by decide +kernel
theorem dX2_fits_2 : decode cX2_fits 2 = .ok (.aload_n 0, 1) := by decide +kernel
theorem dX2_fits_3 : decode cX2_fits 3 = .ok (.getfield 49, 3) := by decide +kernel
theorem dX2_fits_6 : decode cX2_fits 6 = .ok (.getfield 53, 3) := by decide +kernel
theorem dX2_fits_9 : decode cX2_fits 9 = .ok (.iconst 1, 1) := by decide +kernel
theorem dX2_fits_10 : decode cX2_fits 10 = .ok (.isub, 1) := by decide +kernel
theorem dX2_fits_11 : decode cX2_fits 11 = .ok (.invokestatic 59, 3) := by decide +kernel
theorem dX2_fits_14 : decode cX2_fits 14 = .ok (.ifCond .eq 13, 3) := by decide +kernel
theorem dX2_fits_17 : decode cX2_fits 17 = .ok (.iload_n 2, 1) := by decide +kernel
theorem dX2_fits_18 : decode cX2_fits 18 = .ok (.iconst 0, 1) := by decide +kernel
theorem dX2_fits_19 : decode cX2_fits 19 = .ok (.bipush 40, 2) := by decide +kernel
theorem dX2_fits_21 : decode cX2_fits 21 = .ok (.invokestatic 59, 3) := by decide +kernel
theorem dX2_fits_24 : decode cX2_fits 24 = .ok (.ifCond .ne 5, 3) := by decide +kernel
theorem dX2_fits_27 : decode cX2_fits 27 = .ok (.iconst 0, 1) := by decide +kernel
theorem dX2_fits_28 : decode cX2_fits 28 = .ok (.ireturn, 1) := by decide +kernel
theorem dX2_fits_29 : decode cX2_fits 29 = .ok (.aload_n 0, 1) := by decide +kernel
theorem dX2_fits_30 : decode cX2_fits 30 = .ok (.getfield 32, 3) := by decide +kernel
theorem dX2_fits_33 : decode cX2_fits 33 = .ok (.iload_n 1, 1) := by decide +kernel
theorem dX2_fits_34 : decode cX2_fits 34 = .ok (.iaload, 1) := by decide +kernel
theorem dX2_fits_35 : decode cX2_fits 35 = .ok (.iload_n 2, 1) := by decide +kernel
theorem dX2_fits_36 : decode cX2_fits 36 = .ok (.if_icmp .ne 21, 3) := by decide +kernel
theorem dX2_fits_39 : decode cX2_fits 39 = .ok (.aload_n 0, 1) := by decide +kernel
theorem dX2_fits_40 : decode cX2_fits 40 = .ok (.getfield 35, 3) := by decide +kernel
theorem dX2_fits_43 : decode cX2_fits 43 = .ok (.iload_n 1, 1) := by decide +kernel
theorem dX2_fits_44 : decode cX2_fits 44 = .ok (.iaload, 1) := by decide +kernel
theorem dX2_fits_45 : decode cX2_fits 45 = .ok (.aload_n 0, 1) := by decide +kernel
theorem dX2_fits_46 : decode cX2_fits 46 = .ok (.getfield 49, 3) := by decide +kernel
theorem dX2_fits_49 : decode cX2_fits 49 = .ok (.getfield 63, 3) := by decide +kernel
theorem dX2_fits_52 : decode cX2_fits 52 = .ok (.iload_n 1, 1) := by decide +kernel
theorem dX2_fits_53 : decode cX2_fits 53 = .ok (.iaload, 1) := by decide +kernel
theorem dX2_fits_54 : decode cX2_fits 54 = .ok (.if_icmp .eq 51, 3) := by decide +kernel
theorem dX2_fits_57 : decode cX2_fits 57 = .ok (.aload_n 0, 1) := by decide +kernel
theorem dX2_fits_58 : decode cX2_fits 58 = .ok (.getfield 32, 3) := by decide +kernel
theorem dX2_fits_61 : decode cX2_fits 61 = .ok (.iload_n 1, 1) := by decide +kernel
theorem dX2_fits_62 : decode cX2_fits 62 = .ok (.iload_n 2, 1) := by decide +kernel
theorem dX2_fits_63 : decode cX2_fits 63 = .ok (.iastore, 1) := by decide +kernel
theorem dX2_fits_64 : decode cX2_fits 64 = .ok (.aload_n 0, 1) := by decide +kernel
theorem dX2_fits_65 : decode cX2_fits 65 = .ok (.getfield 35, 3) := by decide +kernel
theorem dX2_fits_68 : decode cX2_fits 68 = .ok (.iload_n 1, 1) := by decide +kernel
theorem dX2_fits_69 : decode cX2_fits 69 = .ok (.aload_n 0, 1) := by decide +kernel
theorem dX2_fits_70 : decode cX2_fits 70 = .ok (.getfield 49, 3) := by decide +kernel
theorem dX2_fits_73 : decode cX2_fits 73 = .ok (.getfield 63, 3) := by decide +kernel
theorem dX2_fits_76 : decode cX2_fits 76 = .ok (.iload_n 1, 1) := by decide +kernel
theorem dX2_fits_77 : decode cX2_fits 77 = .ok (.iaload, 1) := by decide +kernel
theorem dX2_fits_78 : decode cX2_fits 78 = .ok (.iastore, 1) := by decide +kernel
theorem dX2_fits_79 : decode cX2_fits 79 = .ok (.aload_n 0, 1) := by decide +kernel
theorem dX2_fits_80 : decode cX2_fits 80 = .ok (.getfield 29, 3) := by decide +kernel
theorem dX2_fits_83 : decode cX2_fits 83 = .ok (.iload_n 1, 1) := by decide +kernel
theorem dX2_fits_84 : decode cX2_fits 84 = .ok (.aload_n 0, 1) := by decide +kernel
theorem dX2_fits_85 : decode cX2_fits 85 = .ok (.iload_n 1, 1) := by decide +kernel
theorem dX2_fits_86 : decode cX2_fits 86 = .ok (.iload_n 2, 1) := by decide +kernel
theorem dX2_fits_87 : decode cX2_fits 87 = .ok (.invokevirtual 66, 3) := by decide +kernel
theorem dX2_fits_90 : decode cX2_fits 90 = .ok (.bastore, 1) := by decide +kernel
theorem dX2_fits_91 : decode cX2_fits 91 = .ok (.aload_n 0, 1) := by decide +kernel
theorem dX2_fits_92 : decode cX2_fits 92 = .ok (.getfield 29, 3) := by decide +kernel
theorem dX2_fits_95 : decode cX2_fits 95 = .ok (.iload_n 1, 1) := by decide +kernel
theorem dX2_fits_96 : decode cX2_fits 96 = .ok (.baload, 1) := by decide +kernel
theorem dX2_fits_97 : decode cX2_fits 97 = .ok (.ifCond .eq 8, 3) := by decide +kernel
theorem dX2_fits_100 : decode cX2_fits 100 = .ok (.aload_n 0, 1) := by decide +kernel
theorem dX2_fits_101 : decode cX2_fits 101 = .ok (.iload_n 1, 1) := by decide +kernel
theorem dX2_fits_102 : decode cX2_fits 102 = .ok (.invokevirtual 70, 3) := by decide +kernel
theorem dX2_fits_105 : decode cX2_fits 105 = .ok (.aload_n 0, 1) := by decide +kernel
theorem dX2_fits_106 : decode cX2_fits 106 = .ok (.getfield 29, 3) := by decide +kernel
theorem dX2_fits_109 : decode cX2_fits 109 = .ok (.iload_n 1, 1) := by decide +kernel
theorem dX2_fits_110 : decode cX2_fits 110 = .ok (.baload, 1) := by decide +kernel
theorem dX2_fits_111 : decode cX2_fits 111 = .ok (.ireturn, 1) := by decide +kernel
theorem dX2_spread_0 : decode cX2_spread 0 = .ok (.iload_n 1, 1) := by decide +kernel
theorem dX2_spread_1 : decode cX2_spread 1 = .ok (.iconst 0, 1) := by decide +kernel
theorem dX2_spread_2 : decode cX2_spread 2 = .ok (.aload_n 0, 1) := by decide +kernel
theorem dX2_spread_3 : decode cX2_spread 3 = .ok (.getfield 49, 3) := by decide +kernel
theorem dX2_spread_6 : decode cX2_spread 6 = .ok (.getfield 53, 3) := by decide +kernel
theorem dX2_spread_9 : decode cX2_spread 9 = .ok (.iconst 1, 1) := by decide +kernel
theorem dX2_spread_10 : decode cX2_spread 10 = .ok (.isub, 1) := by decide +kernel
theorem dX2_spread_11 : decode cX2_spread 11 = .ok (.invokestatic 59, 3) := by decide +kernel
theorem dX2_spread_14 : decode cX2_spread 14 = .ok (.ifCond .eq 13, 3) := by decide +kernel
theorem dX2_spread_17 : decode cX2_spread 17 = .ok (.iload_n 2, 1) := by decide +kernel
theorem dX2_spread_18 : decode cX2_spread 18 = .ok (.iconst 0, 1) := by decide +kernel
theorem dX2_spread_19 : decode cX2_spread 19 = .ok (.bipush 40, 2) := by decide +kernel
theorem dX2_spread_21 : decode cX2_spread 21 = .ok (.invokestatic 59, 3) := by decide +kernel
theorem dX2_spread_24 : decode cX2_spread 24 = .ok (.ifCond .ne 5, 3) := by decide +kernel
theorem dX2_spread_27 : decode cX2_spread 27 = .ok (.iconst 0, 1) := by decide +kernel
theorem dX2_spread_28 : decode cX2_spread 28 = .ok (.ireturn, 1) := by decide +kernel
theorem dX2_spread_29 : decode cX2_spread 29 = .ok (.iconst 0, 1) := by decide +kernel
theorem dX2_spread_30 : decode cX2_spread 30 = .ok (.istore_n 3, 1) := by decide +kernel
theorem dX2_spread_31 : decode cX2_spread 31 = .ok (.iconst 0, 1) := by decide +kernel
theorem dX2_spread_32 : decode cX2_spread 32 = .ok (.istore 4, 2) := by decide +kernel
theorem dX2_spread_34 : decode cX2_spread 34 = .ok (.iload 4, 2) := by decide +kernel
theorem dX2_spread_36 : decode cX2_spread 36 = .ok (.aload_n 0, 1) := by decide +kernel
theorem dX2_spread_37 : decode cX2_spread 37 = .ok (.getfield 49, 3) := by decide +kernel
theorem dX2_spread_40 : decode cX2_spread 40 = .ok (.getfield 74, 3) := by decide +kernel
theorem dX2_spread_43 : decode cX2_spread 43 = .ok (.if_icmp .ge 37, 3) := by decide +kernel
theorem dX2_spread_46 : decode cX2_spread 46 = .ok (.aload_n 0, 1) := by decide +kernel
theorem dX2_spread_47 : decode cX2_spread 47 = .ok (.iload_n 1, 1) := by decide +kernel
theorem dX2_spread_48 : decode cX2_spread 48 = .ok (.iload 4, 2) := by decide +kernel
theorem dX2_spread_50 : decode cX2_spread 50 = .ok (.iload_n 2, 1) := by decide +kernel
theorem dX2_spread_51 : decode cX2_spread 51 = .ok (.invokevirtual 77, 3) := by decide +kernel
theorem dX2_spread_54 : decode cX2_spread 54 = .ok (.iload_n 3, 1) := by decide +kernel
theorem dX2_spread_55 : decode cX2_spread 55 = .ok (.ifCond .ne 13, 3) := by decide +kernel
theorem dX2_spread_58 : decode cX2_spread 58 = .ok (.aload_n 0, 1) := by decide +kernel
theorem dX2_spread_59 : decode cX2_spread 59 = .ok (.getfield 18, 3) := by decide +kernel
theorem dX2_spread_62 : decode cX2_spread 62 = .ok (.iload 4, 2) := by decide +kernel
theorem dX2_spread_64 : decode cX2_spread 64 = .ok (.baload, 1) := by decide +kernel
theorem dX2_spread_65 : decode cX2_spread 65 = .ok (.ifCond .eq 7, 3) := by decide +kernel
theorem dX2_spread_68 : decode cX2_spread 68 = .ok (.iconst 1, 1) := by decide +kernel
theorem dX2_spread_69 : decode cX2_spread 69 = .ok (.goto 4, 3) := by decide +kernel
theorem dX2_spread_72 : decode cX2_spread 72 = .ok (.iconst 0, 1) := by decide +kernel
theorem dX2_spread_73 : decode cX2_spread 73 = .ok (.istore_n 3, 1) := by decide +kernel
theorem dX2_spread_74 : decode cX2_spread 74 = .ok (.iinc 4 1, 3) := by decide +kernel
theorem dX2_spread_77 : decode cX2_spread 77 = .ok (.goto (-43), 3) := by decide +kernel
theorem dX2_spread_80 : decode cX2_spread 80 = .ok (.iload_n 3, 1) := by decide +kernel
theorem dX2_spread_81 : decode cX2_spread 81 = .ok (.ifCond .ne 5, 3) := by decide +kernel
theorem dX2_spread_84 : decode cX2_spread 84 = .ok (.iconst 0, 1) := by decide +kernel
theorem dX2_spread_85 : decode cX2_spread 85 = .ok (.ireturn, 1) := by decide +kernel
theorem dX2_spread_86 : decode cX2_spread 86 = .ok (.iconst 1, 1) := by decide +kernel
theorem dX2_spread_87 : decode cX2_spread 87 = .ok (.istore 4, 2) := by decide +kernel
theorem dX2_spread_89 : decode cX2_spread 89 = .ok (.iconst 0, 1) := by decide +kernel
theorem dX2_spread_90 : decode cX2_spread 90 = .ok (.istore 5, 2) := by decide +kernel
theorem dX2_spread_92 : decode cX2_spread 92 = .ok (.iload 5, 2) := by decide +kernel
theorem dX2_spread_94 : decode cX2_spread 94 = .ok (.aload_n 0, 1) := by decide +kernel
theorem dX2_spread_95 : decode cX2_spread 95 = .ok (.getfield 49, 3) := by decide +kernel
theorem dX2_spread_98 : decode cX2_spread 98 = .ok (.getfield 74, 3) := by decide +kernel
theorem dX2_spread_101 : decode cX2_spread 101 = .ok (.if_icmp .ge 47, 3) := by decide +kernel
theorem dX2_spread_104 : decode cX2_spread 104 = .ok (.aload_n 0, 1) := by decide +kernel
theorem dX2_spread_105 : decode cX2_spread 105 = .ok (.iload 5, 2) := by decide +kernel
theorem dX2_spread_107 : decode cX2_spread 107 = .ok (.invokevirtual 81, 3) := by decide +kernel
theorem dX2_spread_110 : decode cX2_spread 110 = .ok (.iload 4, 2) := by decide +kernel
theorem dX2_spread_112 : decode cX2_spread 112 = .ok (.ifCond .eq 27, 3) := by decide +kernel
theorem dX2_spread_115 : decode cX2_spread 115 = .ok (.aload_n 0, 1) := by decide +kernel
theorem dX2_spread_116 : decode cX2_spread 116 = .ok (.getfield 15, 3) := by decide +kernel
theorem dX2_spread_119 : decode cX2_spread 119 = .ok (.iload 5, 2) := by decide +kernel
theorem dX2_spread_121 : decode cX2_spread 121 = .ok (.iaload, 1) := by decide +kernel
theorem dX2_spread_122 : decode cX2_spread 122 = .ok (.aload_n 0, 1) := by decide +kernel
theorem dX2_spread_123 : decode cX2_spread 123 = .ok (.getfield 11, 3) := by decide +kernel
theorem dX2_spread_126 : decode cX2_spread 126 = .ok (.iload 5, 2) := by decide +kernel
theorem dX2_spread_128 : decode cX2_spread 128 = .ok (.iaload, 1) := by decide +kernel
theorem dX2_spread_129 : decode cX2_spread 129 = .ok (.isub, 1) := by decide +kernel
theorem dX2_spread_130 : decode cX2_spread 130 = .ok (.bipush 60, 2) := by decide +kernel
theorem dX2_spread_132 : decode cX2_spread 132 = .ok (.if_icmp .gt 7, 3) := by decide +kernel
theorem dX2_spread_135 : decode cX2_spread 135 = .ok (.iconst 1, 1) := by decide +kernel
theorem dX2_spread_136 : decode cX2_spread 136 = .ok (.goto 4, 3) := by decide +kernel
theorem dX2_spread_139 : decode cX2_spread 139 = .ok (.iconst 0, 1) := by decide +kernel
theorem dX2_spread_140 : decode cX2_spread 140 = .ok (.istore 4, 2) := by decide +kernel
theorem dX2_spread_142 : decode cX2_spread 142 = .ok (.iinc 5 1, 3) := by decide +kernel
theorem dX2_spread_145 : decode cX2_spread 145 = .ok (.goto (-53), 3) := by decide +kernel
theorem dX2_spread_148 : decode cX2_spread 148 = .ok (.iload 4, 2) := by decide +kernel
theorem dX2_spread_150 : decode cX2_spread 150 = .ok (.ireturn, 1) := by decide +kernel
theorem dX2_look_0 : decode cX2_look 0 = .ok (.sipush 3001, 3) := by decide +kernel
theorem dX2_look_3 : decode cX2_look 3 = .ok (.istore 4, 2) := by decide +kernel
theorem dX2_look_5 : decode cX2_look 5 = .ok (.sipush (-3001), 3) := by decide +kernel
theorem dX2_look_8 : decode cX2_look 8 = .ok (.istore 5, 2) := by decide +kernel
theorem dX2_look_10 : decode cX2_look 10 = .ok (.iconst 0, 1) := by decide +kernel
theorem dX2_look_11 : decode cX2_look 11 = .ok (.istore 6, 2) := by decide +kernel
theorem dX2_look_13 : decode cX2_look 13 = .ok (.iload 6, 2) := by decide +kernel
theorem dX2_look_15 : decode cX2_look 15 = .ok (.iconst 2, 1) := by decide +kernel
theorem dX2_look_16 : decode cX2_look 16 = .ok (.if_icmp .ge 74, 3) := by decide +kernel
theorem dX2_look_19 : decode cX2_look 19 = .ok (.aload_n 0, 1) := by decide +kernel
theorem dX2_look_20 : decode cX2_look 20 = .ok (.getfield 49, 3) := by decide +kernel
theorem dX2_look_23 : decode cX2_look 23 = .ok (.iload_n 2, 1) := by decide +kernel
theorem dX2_look_24 : decode cX2_look 24 = .ok (.iload_n 1, 1) := by decide +kernel
theorem dX2_look_25 : decode cX2_look 25 = .ok (.iload 6, 2) := by decide +kernel
theorem dX2_look_27 : decode cX2_look 27 = .ok (.invokevirtual 84, 3) := by decide +kernel
theorem dX2_look_30 : decode cX2_look 30 = .ok (.istore 7, 2) := by decide +kernel
theorem dX2_look_32 : decode cX2_look 32 = .ok (.iload 7, 2) := by decide +kernel
theorem dX2_look_34 : decode cX2_look 34 = .ok (.ifCond .lt 50, 3) := by decide +kernel
theorem dX2_look_37 : decode cX2_look 37 = .ok (.aload_n 0, 1) := by decide +kernel
theorem dX2_look_38 : decode cX2_look 38 = .ok (.getfield 49, 3) := by decide +kernel
theorem dX2_look_41 : decode cX2_look 41 = .ok (.iload 7, 2) := by decide +kernel
theorem dX2_look_43 : decode cX2_look 43 = .ok (.iload_n 2, 1) := by decide +kernel
theorem dX2_look_44 : decode cX2_look 44 = .ok (.invokevirtual 88, 3) := by decide +kernel
theorem dX2_look_47 : decode cX2_look 47 = .ok (.ifCond .eq 37, 3) := by decide +kernel
theorem dX2_look_50 : decode cX2_look 50 = .ok (.iload 4, 2) := by decide +kernel
theorem dX2_look_52 : decode cX2_look 52 = .ok (.aload_n 0, 1) := by decide +kernel
theorem dX2_look_53 : decode cX2_look 53 = .ok (.getfield 49, 3) := by decide +kernel
theorem dX2_look_56 : decode cX2_look 56 = .ok (.getfield 90, 3) := by decide +kernel
theorem dX2_look_59 : decode cX2_look 59 = .ok (.iload 7, 2) := by decide +kernel
theorem dX2_look_61 : decode cX2_look 61 = .ok (.iaload, 1) := by decide +kernel
theorem dX2_look_62 : decode cX2_look 62 = .ok (.invokestatic 93, 3) := by decide +kernel
theorem dX2_look_65 : decode cX2_look 65 = .ok (.istore 4, 2) := by decide +kernel
theorem dX2_look_67 : decode cX2_look 67 = .ok (.iload 5, 2) := by decide +kernel
theorem dX2_look_69 : decode cX2_look 69 = .ok (.aload_n 0, 1) := by decide +kernel
theorem dX2_look_70 : decode cX2_look 70 = .ok (.getfield 49, 3) := by decide +kernel
theorem dX2_look_73 : decode cX2_look 73 = .ok (.getfield 90, 3) := by decide +kernel
theorem dX2_look_76 : decode cX2_look 76 = .ok (.iload 7, 2) := by decide +kernel
theorem dX2_look_78 : decode cX2_look 78 = .ok (.iaload, 1) := by decide +kernel
theorem dX2_look_79 : decode cX2_look 79 = .ok (.invokestatic 99, 3) := by decide +kernel
theorem dX2_look_82 : decode cX2_look 82 = .ok (.istore 5, 2) := by decide +kernel
theorem dX2_look_84 : decode cX2_look 84 = .ok (.iinc 6 1, 3) := by decide +kernel
theorem dX2_look_87 : decode cX2_look 87 = .ok (.goto (-74), 3) := by decide +kernel
theorem dX2_look_90 : decode cX2_look 90 = .ok (.aload_n 0, 1) := by decide +kernel
theorem dX2_look_91 : decode cX2_look 91 = .ok (.getfield 18, 3) := by decide +kernel
theorem dX2_look_94 : decode cX2_look 94 = .ok (.iload_n 2, 1) := by decide +kernel
theorem dX2_look_95 : decode cX2_look 95 = .ok (.iload 4, 2) := by decide +kernel
theorem dX2_look_97 : decode cX2_look 97 = .ok (.iload 5, 2) := by decide +kernel
theorem dX2_look_99 : decode cX2_look 99 = .ok (.if_icmp .gt 7, 3) := by decide +kernel
theorem dX2_look_102 : decode cX2_look 102 = .ok (.iconst 1, 1) := by decide +kernel
theorem dX2_look_103 : decode cX2_look 103 = .ok (.goto 4, 3) := by decide +kernel
theorem dX2_look_106 : decode cX2_look 106 = .ok (.iconst 0, 1) := by decide +kernel
theorem dX2_look_107 : decode cX2_look 107 = .ok (.bastore, 1) := by decide +kernel
theorem dX2_look_108 : decode cX2_look 108 = .ok (.aload_n 0, 1) := by decide +kernel
theorem dX2_look_109 : decode cX2_look 109 = .ok (.getfield 11, 3) := by decide +kernel
theorem dX2_look_112 : decode cX2_look 112 = .ok (.iload_n 2, 1) := by decide +kernel
theorem dX2_look_113 : decode cX2_look 113 = .ok (.iload 4, 2) := by decide +kernel
theorem dX2_look_115 : decode cX2_look 115 = .ok (.iload_n 3, 1) := by decide +kernel
theorem dX2_look_116 : decode cX2_look 116 = .ok (.isub, 1) := by decide +kernel
theorem dX2_look_117 : decode cX2_look 117 = .ok (.iastore, 1) := by decide +kernel
theorem dX2_look_118 : decode cX2_look 118 = .ok (.aload_n 0, 1) := by decide +kernel
theorem dX2_look_119 : decode cX2_look 119 = .ok (.getfield 15, 3) := by decide +kernel
theorem dX2_look_122 : decode cX2_look 122 = .ok (.iload_n 2, 1) := by decide +kernel
theorem dX2_look_123 : decode cX2_look 123 = .ok (.iload 5, 2) := by decide +kernel
theorem dX2_look_125 : decode cX2_look 125 = .ok (.iload_n 3, 1) := by decide +kernel
theorem dX2_look_126 : decode cX2_look 126 = .ok (.iadd, 1) := by decide +kernel
theorem dX2_look_127 : decode cX2_look 127 = .ok (.iastore, 1) := by decide +kernel
theorem dX2_look_128 : decode cX2_look 128 = .ok (.return_, 1) := by decide +kernel
theorem dX2_bridge_0 : decode cX2_bridge 0 = .ok (.aload_n 0, 1) := by decide +kernel
theorem dX2_bridge_1 : decode cX2_bridge 1 = .ok (.getfield 18, 3) := by decide +kernel
theorem dX2_bridge_4 : decode cX2_bridge 4 = .ok (.iload_n 1, 1) := by decide +kernel
theorem dX2_bridge_5 : decode cX2_bridge 5 = .ok (.baload, 1) := by decide +kernel
theorem dX2_bridge_6 : decode cX2_bridge 6 = .ok (.ifCond .eq 4, 3) := by decide +kernel
theorem dX2_bridge_9 : decode cX2_bridge 9 = .ok (.return_, 1) := by decide +kernel
theorem dX2_bridge_10 : decode cX2_bridge 10 = .ok (.iload_n 1, 1) := by decide +kernel
theorem dX2_bridge_11 : decode cX2_bridge 11 = .ok (.istore_n 2, 1) := by decide +kernel
theorem dX2_bridge_12 : decode cX2_bridge 12 = .ok (.iload_n 2, 1) := by decide +kernel
theorem dX2_bridge_13 : decode cX2_bridge 13 = .ok (.ifCond .lt 18, 3) := by decide +kernel
theorem dX2_bridge_16 : decode cX2_bridge 16 = .ok (.aload_n 0, 1) := by decide +kernel
theorem dX2_bridge_17 : decode cX2_bridge 17 = .ok (.getfield 18, 3) := by decide +kernel
theorem dX2_bridge_20 : decode cX2_bridge 20 = .ok (.iload_n 2, 1) := by decide +kernel
theorem dX2_bridge_21 : decode cX2_bridge 21 = .ok (.baload, 1) := by decide +kernel
theorem dX2_bridge_22 : decode cX2_bridge 22 = .ok (.ifCond .ne 9, 3) := by decide +kernel
theorem dX2_bridge_25 : decode cX2_bridge 25 = .ok (.iinc 2 (-1), 3) := by decide +kernel
theorem dX2_bridge_28 : decode cX2_bridge 28 = .ok (.goto (-16), 3) := by decide +kernel
theorem dX2_bridge_31 : decode cX2_bridge 31 = .ok (.iload_n 1, 1) := by decide +kernel
theorem dX2_bridge_32 : decode cX2_bridge 32 = .ok (.istore_n 3, 1) := by decide +kernel
theorem dX2_bridge_33 : decode cX2_bridge 33 = .ok (.iload_n 3, 1) := by decide +kernel
theorem dX2_bridge_34 : decode cX2_bridge 34 = .ok (.aload_n 0, 1) := by decide +kernel
theorem dX2_bridge_35 : decode cX2_bridge 35 = .ok (.getfield 49, 3) := by decide +kernel
theorem dX2_bridge_38 : decode cX2_bridge 38 = .ok (.getfield 74, 3) := by decide +kernel
theorem dX2_bridge_41 : decode cX2_bridge 41 = .ok (.if_icmp .ge 18, 3) := by decide +kernel
theorem dX2_bridge_44 : decode cX2_bridge 44 = .ok (.aload_n 0, 1) := by decide +kernel
theorem dX2_bridge_45 : decode cX2_bridge 45 = .ok (.getfield 18, 3) := by decide +kernel
theorem dX2_bridge_48 : decode cX2_bridge 48 = .ok (.iload_n 3, 1) := by decide +kernel
theorem dX2_bridge_49 : decode cX2_bridge 49 = .ok (.baload, 1) := by decide +kernel
theorem dX2_bridge_50 : decode cX2_bridge 50 = .ok (.ifCond .ne 9, 3) := by decide +kernel
theorem dX2_bridge_53 : decode cX2_bridge 53 = .ok (.iinc 3 1, 3) := by decide +kernel
theorem dX2_bridge_56 : decode cX2_bridge 56 = .ok (.goto (-23), 3) := by decide +kernel
theorem dX2_bridge_59 : decode cX2_bridge 59 = .ok (.iload_n 2, 1) := by decide +kernel
theorem dX2_bridge_60 : decode cX2_bridge 60 = .ok (.ifCond .lt 7, 3) := by decide +kernel
theorem dX2_bridge_63 : decode cX2_bridge 63 = .ok (.iload_n 2, 1) := by decide +kernel
theorem dX2_bridge_64 : decode cX2_bridge 64 = .ok (.goto 4, 3) := by decide +kernel
theorem dX2_bridge_67 : decode cX2_bridge 67 = .ok (.iload_n 3, 1) := by decide +kernel
theorem dX2_bridge_68 : decode cX2_bridge 68 = .ok (.istore 4, 2) := by decide +kernel
theorem dX2_bridge_70 : decode cX2_bridge 70 = .ok (.iload_n 3, 1) := by decide +kernel
theorem dX2_bridge_71 : decode cX2_bridge 71 = .ok (.aload_n 0, 1) := by decide +kernel
theorem dX2_bridge_72 : decode cX2_bridge 72 = .ok (.getfield 49, 3) := by decide +kernel
theorem dX2_bridge_75 : decode cX2_bridge 75 = .ok (.getfield 74, 3) := by decide +kernel
theorem dX2_bridge_78 : decode cX2_bridge 78 = .ok (.if_icmp .ge 7, 3) := by decide +kernel
theorem dX2_bridge_81 : decode cX2_bridge 81 = .ok (.iload_n 3, 1) := by decide +kernel
theorem dX2_bridge_82 : decode cX2_bridge 82 = .ok (.goto 4, 3) := by decide +kernel
theorem dX2_bridge_85 : decode cX2_bridge 85 = .ok (.iload_n 2, 1) := by decide +kernel
theorem dX2_bridge_86 : decode cX2_bridge 86 = .ok (.istore 5, 2) := by decide +kernel
theorem dX2_bridge_88 : decode cX2_bridge 88 = .ok (.iload 4, 2) := by decide +kernel
theorem dX2_bridge_90 : decode cX2_bridge 90 = .ok (.aload_n 0, 1) := by decide +kernel
theorem dX2_bridge_91 : decode cX2_bridge 91 = .ok (.getfield 49, 3) := by decide +kernel
theorem dX2_bridge_94 : decode cX2_bridge 94 = .ok (.getfield 74, 3) := by decide +kernel
theorem dX2_bridge_97 : decode cX2_bridge 97 = .ok (.if_icmp .ge 54, 3) := by decide +kernel
theorem dX2_bridge_100 : decode cX2_bridge 100 = .ok (.iload 5, 2) := by decide +kernel
theorem dX2_bridge_102 : decode cX2_bridge 102 = .ok (.ifCond .lt 49, 3) := by decide +kernel
theorem dX2_bridge_105 : decode cX2_bridge 105 = .ok (.aload_n 0, 1) := by decide +kernel
theorem dX2_bridge_106 : decode cX2_bridge 106 = .ok (.getfield 11, 3) := by decide +kernel
theorem dX2_bridge_109 : decode cX2_bridge 109 = .ok (.iload_n 1, 1) := by decide +kernel
theorem dX2_bridge_110 : decode cX2_bridge 110 = .ok (.aload_n 0, 1) := by decide +kernel
theorem dX2_bridge_111 : decode cX2_bridge 111 = .ok (.getfield 11, 3) := by decide +kernel
theorem dX2_bridge_114 : decode cX2_bridge 114 = .ok (.iload 4, 2) := by decide +kernel
theorem dX2_bridge_116 : decode cX2_bridge 116 = .ok (.iaload, 1) := by decide +kernel
theorem dX2_bridge_117 : decode cX2_bridge 117 = .ok (.aload_n 0, 1) := by decide +kernel
theorem dX2_bridge_118 : decode cX2_bridge 118 = .ok (.getfield 11, 3) := by decide +kernel
theorem dX2_bridge_121 : decode cX2_bridge 121 = .ok (.iload 5, 2) := by decide +kernel
theorem dX2_bridge_123 : decode cX2_bridge 123 = .ok (.iaload, 1) := by decide +kernel
theorem dX2_bridge_124 : decode cX2_bridge 124 = .ok (.invokestatic 93, 3) := by decide +kernel
theorem dX2_bridge_127 : decode cX2_bridge 127 = .ok (.iastore, 1) := by decide +kernel
theorem dX2_bridge_128 : decode cX2_bridge 128 = .ok (.aload_n 0, 1) := by decide +kernel
theorem dX2_bridge_129 : decode cX2_bridge 129 = .ok (.getfield 15, 3) := by decide +kernel
theorem dX2_bridge_132 : decode cX2_bridge 132 = .ok (.iload_n 1, 1) := by decide +kernel
theorem dX2_bridge_133 : decode cX2_bridge 133 = .ok (.aload_n 0, 1) := by decide +kernel
theorem dX2_bridge_134 : decode cX2_bridge 134 = .ok (.getfield 15, 3) := by decide +kernel
theorem dX2_bridge_137 : decode cX2_bridge 137 = .ok (.iload 4, 2) := by decide +kernel
theorem dX2_bridge_139 : decode cX2_bridge 139 = .ok (.iaload, 1) := by decide +kernel
theorem dX2_bridge_140 : decode cX2_bridge 140 = .ok (.aload_n 0, 1) := by decide +kernel
theorem dX2_bridge_141 : decode cX2_bridge 141 = .ok (.getfield 15, 3) := by decide +kernel
theorem dX2_bridge_144 : decode cX2_bridge 144 = .ok (.iload 5, 2) := by decide +kernel
theorem dX2_bridge_146 : decode cX2_bridge 146 = .ok (.iaload, 1) := by decide +kernel
theorem dX2_bridge_147 : decode cX2_bridge 147 = .ok (.invokestatic 99, 3) := by decide +kernel
theorem dX2_bridge_150 : decode cX2_bridge 150 = .ok (.iastore, 1) := by decide +kernel
theorem dX2_bridge_151 : decode cX2_bridge 151 = .ok (.return_, 1) := by decide +kernel
theorem dX2_wide_0 : decode cX2_wide 0 = .ok (.aload_n 0, 1) := by decide +kernel
theorem dX2_wide_1 : decode cX2_wide 1 = .ok (.getfield 15, 3) := by decide +kernel
theorem dX2_wide_4 : decode cX2_wide 4 = .ok (.iload_n 1, 1) := by decide +kernel
theorem dX2_wide_5 : decode cX2_wide 5 = .ok (.iaload, 1) := by decide +kernel
theorem dX2_wide_6 : decode cX2_wide 6 = .ok (.aload_n 0, 1) := by decide +kernel
theorem dX2_wide_7 : decode cX2_wide 7 = .ok (.getfield 11, 3) := by decide +kernel
theorem dX2_wide_10 : decode cX2_wide 10 = .ok (.iload_n 1, 1) := by decide +kernel
theorem dX2_wide_11 : decode cX2_wide 11 = .ok (.iaload, 1) := by decide +kernel
theorem dX2_wide_12 : decode cX2_wide 12 = .ok (.isub, 1) := by decide +kernel
theorem dX2_wide_13 : decode cX2_wide 13 = .ok (.iconst 1, 1) := by decide +kernel
theorem dX2_wide_14 : decode cX2_wide 14 = .ok (.iadd, 1) := by decide +kernel
theorem dX2_wide_15 : decode cX2_wide 15 = .ok (.ireturn, 1) := by decide +kernel
theorem dX2_lay_0 : decode cX2_lay 0 = .ok (.aload_n 0, 1) := by decide +kernel
theorem dX2_lay_1 : decode cX2_lay 1 = .ok (.getfield 46, 3) := by decide +kernel
theorem dX2_lay_4 : decode cX2_lay 4 = .ok (.lconst 0, 1) := by decide +kernel
theorem dX2_lay_5 : decode cX2_lay 5 = .ok (.invokestatic 102, 3) := by decide +kernel
theorem dX2_lay_8 : decode cX2_lay 8 = .ok (.aload_n 0, 1) := by decide +kernel
theorem dX2_lay_9 : decode cX2_lay 9 = .ok (.getfield 49, 3) := by decide +kernel
theorem dX2_lay_12 : decode cX2_lay 12 = .ok (.getfield 74, 3) := by decide +kernel
theorem dX2_lay_15 : decode cX2_lay 15 = .ok (.iconst 3, 1) := by decide +kernel
theorem dX2_lay_16 : decode cX2_lay 16 = .ok (.isub, 1) := by decide +kernel
theorem dX2_lay_17 : decode cX2_lay 17 = .ok (.istore_n 2, 1) := by decide +kernel
theorem dX2_lay_18 : decode cX2_lay 18 = .ok (.iload_n 2, 1) := by decide +kernel
theorem dX2_lay_19 : decode cX2_lay 19 = .ok (.ifCond .lt 52, 3) := by decide +kernel
theorem dX2_lay_22 : decode cX2_lay 22 = .ok (.iconst 0, 1) := by decide +kernel
theorem dX2_lay_23 : decode cX2_lay 23 = .ok (.istore_n 3, 1) := by decide +kernel
theorem dX2_lay_24 : decode cX2_lay 24 = .ok (.iload_n 3, 1) := by decide +kernel
theorem dX2_lay_25 : decode cX2_lay 25 = .ok (.aload_n 0, 1) := by decide +kernel
theorem dX2_lay_26 : decode cX2_lay 26 = .ok (.iload_n 2, 1) := by decide +kernel
theorem dX2_lay_27 : decode cX2_lay 27 = .ok (.iconst 1, 1) := by decide +kernel
theorem dX2_lay_28 : decode cX2_lay 28 = .ok (.iadd, 1) := by decide +kernel
theorem dX2_lay_29 : decode cX2_lay 29 = .ok (.invokevirtual 108, 3) := by decide +kernel
theorem dX2_lay_32 : decode cX2_lay 32 = .ok (.if_icmp .ge 15, 3) := by decide +kernel
theorem dX2_lay_35 : decode cX2_lay 35 = .ok (.aload_n 0, 1) := by decide +kernel
theorem dX2_lay_36 : decode cX2_lay 36 = .ok (.iload_n 2, 1) := by decide +kernel
theorem dX2_lay_37 : decode cX2_lay 37 = .ok (.iload_n 3, 1) := by decide +kernel
theorem dX2_lay_38 : decode cX2_lay 38 = .ok (.invokevirtual 112, 3) := by decide +kernel
theorem dX2_lay_41 : decode cX2_lay 41 = .ok (.iinc 3 1, 3) := by decide +kernel
theorem dX2_lay_44 : decode cX2_lay 44 = .ok (.goto (-20), 3) := by decide +kernel
theorem dX2_lay_47 : decode cX2_lay 47 = .ok (.aload_n 0, 1) := by decide +kernel
theorem dX2_lay_48 : decode cX2_lay 48 = .ok (.getfield 43, 3) := by decide +kernel
theorem dX2_lay_51 : decode cX2_lay 51 = .ok (.astore_n 3, 1) := by decide +kernel
theorem dX2_lay_52 : decode cX2_lay 52 = .ok (.aload_n 0, 1) := by decide +kernel
theorem dX2_lay_53 : decode cX2_lay 53 = .ok (.aload_n 0, 1) := by decide +kernel
theorem dX2_lay_54 : decode cX2_lay 54 = .ok (.getfield 46, 3) := by decide +kernel
theorem dX2_lay_57 : decode cX2_lay 57 = .ok (.putfield 43, 3) := by decide +kernel
theorem dX2_lay_60 : decode cX2_lay 60 = .ok (.aload_n 0, 1) := by decide +kernel
theorem dX2_lay_61 : decode cX2_lay 61 = .ok (.aload_n 3, 1) := by decide +kernel
theorem dX2_lay_62 : decode cX2_lay 62 = .ok (.putfield 46, 3) := by decide +kernel
theorem dX2_lay_65 : decode cX2_lay 65 = .ok (.iinc 2 (-1), 3) := by decide +kernel
theorem dX2_lay_68 : decode cX2_lay 68 = .ok (.goto (-50), 3) := by decide +kernel
theorem dX2_lay_71 : decode cX2_lay 71 = .ok (.aload_n 0, 1) := by decide +kernel
theorem dX2_lay_72 : decode cX2_lay 72 = .ok (.iload_n 1, 1) := by decide +kernel
theorem dX2_lay_73 : decode cX2_lay 73 = .ok (.invokevirtual 116, 3) := by decide +kernel
theorem dX2_lay_76 : decode cX2_lay 76 = .ok (.return_, 1) := by decide +kernel
theorem dX2_bend_0 : decode cX2_bend 0 = .ok (.aload_n 0, 1) := by decide +kernel
theorem dX2_bend_1 : decode cX2_bend 1 = .ok (.iload_n 1, 1) := by decide +kernel
theorem dX2_bend_2 : decode cX2_bend 2 = .ok (.invokevirtual 108, 3) := by decide +kernel
theorem dX2_bend_5 : decode cX2_bend 5 = .ok (.istore_n 3, 1) := by decide +kernel
theorem dX2_bend_6 : decode cX2_bend 6 = .ok (.bipush 32, 2) := by decide +kernel
theorem dX2_bend_8 : decode cX2_bend 8 = .ok (.istore 4, 2) := by decide +kernel
theorem dX2_bend_10 : decode cX2_bend 10 = .ok (.iload 4, 2) := by decide +kernel
theorem dX2_bend_12 : decode cX2_bend 12 = .ok (.iconst 1, 1) := by decide +kernel
theorem dX2_bend_13 : decode cX2_bend 13 = .ok (.if_icmp .lt 120, 3) := by decide +kernel
theorem dX2_bend_16 : decode cX2_bend 16 = .ok (.iload 4, 2) := by decide +kernel
theorem dX2_bend_18 : decode cX2_bend 18 = .ok (.istore 5, 2) := by decide +kernel
theorem dX2_bend_20 : decode cX2_bend 20 = .ok (.iload 5, 2) := by decide +kernel
theorem dX2_bend_22 : decode cX2_bend 22 = .ok (.iload_n 3, 1) := by decide +kernel
theorem dX2_bend_23 : decode cX2_bend 23 = .ok (.if_icmp .gt 101, 3) := by decide +kernel
theorem dX2_bend_26 : decode cX2_bend 26 = .ok (.iload 5, 2) := by decide +kernel
theorem dX2_bend_28 : decode cX2_bend 28 = .ok (.iload 4, 2) := by decide +kernel
theorem dX2_bend_30 : decode cX2_bend 30 = .ok (.iadd, 1) := by decide +kernel
theorem dX2_bend_31 : decode cX2_bend 31 = .ok (.iload_n 3, 1) := by decide +kernel
theorem dX2_bend_32 : decode cX2_bend 32 = .ok (.if_icmp .gt 24, 3) := by decide +kernel
theorem dX2_bend_35 : decode cX2_bend 35 = .ok (.aload_n 0, 1) := by decide +kernel
theorem dX2_bend_36 : decode cX2_bend 36 = .ok (.getfield 39, 3) := by decide +kernel
theorem dX2_bend_39 : decode cX2_bend 39 = .ok (.aload_n 0, 1) := by decide +kernel
theorem dX2_bend_40 : decode cX2_bend 40 = .ok (.iload_n 1, 1) := by decide +kernel
theorem dX2_bend_41 : decode cX2_bend 41 = .ok (.iload 5, 2) := by decide +kernel
theorem dX2_bend_43 : decode cX2_bend 43 = .ok (.iload 4, 2) := by decide +kernel
theorem dX2_bend_45 : decode cX2_bend 45 = .ok (.iadd, 1) := by decide +kernel
theorem dX2_bend_46 : decode cX2_bend 46 = .ok (.iconst 1, 1) := by decide +kernel
theorem dX2_bend_47 : decode cX2_bend 47 = .ok (.isub, 1) := by decide +kernel
theorem dX2_bend_48 : decode cX2_bend 48 = .ok (.iload_n 2, 1) := by decide +kernel
theorem dX2_bend_49 : decode cX2_bend 49 = .ok (.invokevirtual 119, 3) := by decide +kernel
theorem dX2_bend_52 : decode cX2_bend 52 = .ok (.baload, 1) := by decide +kernel
theorem dX2_bend_53 : decode cX2_bend 53 = .ok (.goto 4, 3) := by decide +kernel
theorem dX2_bend_56 : decode cX2_bend 56 = .ok (.iconst 0, 1) := by decide +kernel
theorem dX2_bend_57 : decode cX2_bend 57 = .ok (.istore 6, 2) := by decide +kernel
theorem dX2_bend_59 : decode cX2_bend 59 = .ok (.iload 5, 2) := by decide +kernel
theorem dX2_bend_61 : decode cX2_bend 61 = .ok (.iload 4, 2) := by decide +kernel
theorem dX2_bend_63 : decode cX2_bend 63 = .ok (.if_icmp .le 24, 3) := by decide +kernel
theorem dX2_bend_66 : decode cX2_bend 66 = .ok (.aload_n 0, 1) := by decide +kernel
theorem dX2_bend_67 : decode cX2_bend 67 = .ok (.getfield 39, 3) := by decide +kernel
theorem dX2_bend_70 : decode cX2_bend 70 = .ok (.aload_n 0, 1) := by decide +kernel
theorem dX2_bend_71 : decode cX2_bend 71 = .ok (.iload_n 1, 1) := by decide +kernel
theorem dX2_bend_72 : decode cX2_bend 72 = .ok (.iload 5, 2) := by decide +kernel
theorem dX2_bend_74 : decode cX2_bend 74 = .ok (.iload 4, 2) := by decide +kernel
theorem dX2_bend_76 : decode cX2_bend 76 = .ok (.isub, 1) := by decide +kernel
theorem dX2_bend_77 : decode cX2_bend 77 = .ok (.iconst 1, 1) := by decide +kernel
theorem dX2_bend_78 : decode cX2_bend 78 = .ok (.isub, 1) := by decide +kernel
theorem dX2_bend_79 : decode cX2_bend 79 = .ok (.iload_n 2, 1) := by decide +kernel
theorem dX2_bend_80 : decode cX2_bend 80 = .ok (.invokevirtual 119, 3) := by decide +kernel
theorem dX2_bend_83 : decode cX2_bend 83 = .ok (.baload, 1) := by decide +kernel
theorem dX2_bend_84 : decode cX2_bend 84 = .ok (.goto 12, 3) := by decide +kernel
theorem dX2_bend_87 : decode cX2_bend 87 = .ok (.aload_n 0, 1) := by decide +kernel
theorem dX2_bend_88 : decode cX2_bend 88 = .ok (.iload_n 1, 1) := by decide +kernel
theorem dX2_bend_89 : decode cX2_bend 89 = .ok (.iconst 2, 1) := by decide +kernel
theorem dX2_bend_90 : decode cX2_bend 90 = .ok (.iadd, 1) := by decide +kernel
theorem dX2_bend_91 : decode cX2_bend 91 = .ok (.invokevirtual 108, 3) := by decide +kernel
theorem dX2_bend_94 : decode cX2_bend 94 = .ok (.iconst 1, 1) := by decide +kernel
theorem dX2_bend_95 : decode cX2_bend 95 = .ok (.isub, 1) := by decide +kernel
theorem dX2_bend_96 : decode cX2_bend 96 = .ok (.istore 7, 2) := by decide +kernel
theorem dX2_bend_98 : decode cX2_bend 98 = .ok (.aload_n 0, 1) := by decide +kernel
theorem dX2_bend_99 : decode cX2_bend 99 = .ok (.iload_n 1, 1) := by decide +kernel
theorem dX2_bend_100 : decode cX2_bend 100 = .ok (.iload 5, 2) := by decide +kernel
theorem dX2_bend_102 : decode cX2_bend 102 = .ok (.iconst 1, 1) := by decide +kernel
theorem dX2_bend_103 : decode cX2_bend 103 = .ok (.isub, 1) := by decide +kernel
theorem dX2_bend_104 : decode cX2_bend 104 = .ok (.iload_n 2, 1) := by decide +kernel
theorem dX2_bend_105 : decode cX2_bend 105 = .ok (.iload 6, 2) := by decide +kernel
theorem dX2_bend_107 : decode cX2_bend 107 = .ok (.iload 7, 2) := by decide +kernel
theorem dX2_bend_109 : decode cX2_bend 109 = .ok (.invokevirtual 122, 3) := by decide +kernel
theorem dX2_bend_112 : decode cX2_bend 112 = .ok (.iload 5, 2) := by decide +kernel
theorem dX2_bend_114 : decode cX2_bend 114 = .ok (.iconst 2, 1) := by decide +kernel
theorem dX2_bend_115 : decode cX2_bend 115 = .ok (.iload 4, 2) := by decide +kernel
theorem dX2_bend_117 : decode cX2_bend 117 = .ok (.imul, 1) := by decide +kernel
theorem dX2_bend_118 : decode cX2_bend 118 = .ok (.iadd, 1) := by decide +kernel
theorem dX2_bend_119 : decode cX2_bend 119 = .ok (.istore 5, 2) := by decide +kernel
theorem dX2_bend_121 : decode cX2_bend 121 = .ok (.goto (-101), 3) := by decide +kernel
theorem dX2_bend_124 : decode cX2_bend 124 = .ok (.iload 4, 2) := by decide +kernel
theorem dX2_bend_126 : decode cX2_bend 126 = .ok (.iconst 2, 1) := by decide +kernel
theorem dX2_bend_127 : decode cX2_bend 127 = .ok (.idiv, 1) := by decide +kernel
theorem dX2_bend_128 : decode cX2_bend 128 = .ok (.istore 4, 2) := by decide +kernel
theorem dX2_bend_130 : decode cX2_bend 130 = .ok (.goto (-120), 3) := by decide +kernel
theorem dX2_bend_133 : decode cX2_bend 133 = .ok (.return_, 1) := by decide +kernel
theorem dX2_pairOf_0 : decode cX2_pairOf 0 = .ok (.iload_n 1, 1) := by decide +kernel
theorem dX2_pairOf_1 : decode cX2_pairOf 1 = .ok (.bipush 61, 2) := by decide +kernel
theorem dX2_pairOf_3 : decode cX2_pairOf 3 = .ok (.imul, 1) := by decide +kernel
theorem dX2_pairOf_4 : decode cX2_pairOf 4 = .ok (.iload_n 2, 1) := by decide +kernel
theorem dX2_pairOf_5 : decode cX2_pairOf 5 = .ok (.iadd, 1) := by decide +kernel
theorem dX2_pairOf_6 : decode cX2_pairOf 6 = .ok (.bipush 61, 2) := by decide +kernel
theorem dX2_pairOf_8 : decode cX2_pairOf 8 = .ok (.imul, 1) := by decide +kernel
theorem dX2_pairOf_9 : decode cX2_pairOf 9 = .ok (.iload_n 3, 1) := by decide +kernel
theorem dX2_pairOf_10 : decode cX2_pairOf 10 = .ok (.iadd, 1) := by decide +kernel
theorem dX2_pairOf_11 : decode cX2_pairOf 11 = .ok (.ireturn, 1) := by decide +kernel
theorem dX2_choose_0 : decode cX2_choose 0 = .ok (.aload_n 0, 1) := by decide +kernel
theorem dX2_choose_1 : decode cX2_choose 1 = .ok (.getfield 11, 3) := by decide +kernel
theorem dX2_choose_4 : decode cX2_choose 4 = .ok (.iload_n 1, 1) := by decide +kernel
theorem dX2_choose_5 : decode cX2_choose 5 = .ok (.iaload, 1) := by decide +kernel
theorem dX2_choose_6 : decode cX2_choose 6 = .ok (.iload_n 2, 1) := by decide +kernel
theorem dX2_choose_7 : decode cX2_choose 7 = .ok (.iadd, 1) := by decide +kernel
theorem dX2_choose_8 : decode cX2_choose 8 = .ok (.iconst 2, 1) := by decide +kernel
theorem dX2_choose_9 : decode cX2_choose 9 = .ok (.aload_n 0, 1) := by decide +kernel
theorem dX2_choose_10 : decode cX2_choose 10 = .ok (.getfield 11, 3) := by decide +kernel
theorem dX2_choose_13 : decode cX2_choose 13 = .ok (.iload_n 1, 1) := by decide +kernel
theorem dX2_choose_14 : decode cX2_choose 14 = .ok (.iconst 1, 1) := by decide +kernel
theorem dX2_choose_15 : decode cX2_choose 15 = .ok (.iadd, 1) := by decide +kernel
theorem dX2_choose_16 : decode cX2_choose 16 = .ok (.iaload, 1) := by decide +kernel
theorem dX2_choose_17 : decode cX2_choose 17 = .ok (.iload_n 3, 1) := by decide +kernel
