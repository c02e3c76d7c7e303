/-! ===== printed: decode rows of the model ===== -/
theorem dX8_init_0 : decode cX8_init 0 = .ok (.aload_n 0, 1) := by decide +kernel
theorem dX8_init_1 : decode cX8_init 1 = .ok (.invokespecial 3, 3) := by decide +kernel
theorem dX8_init_4 : decode cX8_init 4 = .ok (.aload_n 0, 1) := by decide +kernel
theorem dX8_init_5 : decode cX8_init 5 = .ok (.sipush 352, 3) := by decide +kernel
theorem dX8_init_8 : decode cX8_init 8 = .ok (.newarray .int, 2) := by decide +kernel
theorem dX8_init_10 : decode cX8_init 10 = .ok (.putfield 9, 3) := by decide +kernel
theorem dX8_init_13 : decode cX8_init 13 = .ok (.aload_n 0, 1) := by decide +kernel
theorem dX8_init_14 : decode cX8_init 14 = .ok (.sipush 352, 3) := by decide +kernel
theorem dX8_init_17 : decode cX8_init 17 = .ok (.newarray .int, 2) := by decide +kernel
theorem dX8_init_19 : decode cX8_init 19 = .ok (.putfield 13, 3) := by decide +kernel
theorem dX8_init_22 : decode cX8_init 22 = .ok (.aload_n 0, 1) := by decide +kernel
theorem dX8_init_23 : decode cX8_init 23 = .ok (.sipush 352, 3) := by decide +kernel
theorem dX8_init_26 : decode cX8_init 26 = .ok (.newarray .int, 2) := by decide +kernel
theorem dX8_init_28 : decode cX8_init 28 = .ok (.putfield 16, 3) := by decide +kernel
theorem dX8_init_31 : decode cX8_init 31 = .ok (.aload_n 0, 1) := by decide +kernel
theorem dX8_init_32 : decode cX8_init 32 = .ok (.sipush 2816, 3) := by decide +kernel
theorem dX8_init_35 : decode cX8_init 35 = .ok (.newarray .int, 2) := by decide +kernel
theorem dX8_init_37 : decode cX8_init 37 = .ok (.putfield 19, 3) := by decide +kernel
theorem dX8_init_40 : decode cX8_init 40 = .ok (.aload_n 0, 1) := by decide +kernel
theorem dX8_init_41 : decode cX8_init 41 = .ok (.sipush 6400, 3) := by decide +kernel
theorem dX8_init_44 : decode cX8_init 44 = .ok (.newarray .int, 2) := by decide +kernel
theorem dX8_init_46 : decode cX8_init 46 = .ok (.putfield 22, 3) := by decide +kernel
theorem dX8_init_49 : decode cX8_init 49 = .ok (.aload_n 0, 1) := by decide +kernel
theorem dX8_init_50 : decode cX8_init 50 = .ok (.sipush 200, 3) := by decide +kernel
theorem dX8_init_53 : decode cX8_init 53 = .ok (.newarray .int, 2) := by decide +kernel
theorem dX8_init_55 : decode cX8_init 55 = .ok (.putfield 25, 3) := by decide +kernel
theorem dX8_init_58 : decode cX8_init 58 = .ok (.aload_n 0, 1) := by decide +kernel
theorem dX8_init_59 : decode cX8_init 59 = .ok (.bipush 32, 2) := by decide +kernel
theorem dX8_init_61 : decode cX8_init 61 = .ok (.newarray .int, 2) := by decide +kernel
theorem dX8_init_63 : decode cX8_init 63 = .ok (.putfield 28, 3) := by decide +kernel
theorem dX8_init_66 : decode cX8_init 66 = .ok (.aload_n 0, 1) := by decide +kernel
theorem dX8_init_67 : decode cX8_init 67 = .ok (.bipush 60, 2) := by decide +kernel
theorem dX8_init_69 : decode cX8_init 69 = .ok (.newarray .char, 2) := by decide +kernel
theorem dX8_init_71 : decode cX8_init 71 = .ok (.putfield 31, 3) := by decide +kernel
theorem dX8_init_74 : decode cX8_init 74 = .ok (.aload_n 0, 1) := by decide +kernel
theorem dX8_init_75 : decode cX8_init 75 = .ok (.iconst (-1), 1) := by decide +kernel
theorem dX8_init_76 : decode cX8_init 76 = .ok (.putfield 35, 3) := by decide +kernel
theorem dX8_init_79 : decode cX8_init 79 = .ok (.aload_n 0, 1) := by decide +kernel
theorem dX8_init_80 : decode cX8_init 80 = .ok (.sipush 200, 3) := by decide +kernel
theorem dX8_init_83 : decode cX8_init 83 = .ok (.newarray .char, 2) := by decide +kernel
theorem dX8_init_85 : decode cX8_init 85 = .ok (.putfield 39, 3) := by decide +kernel
theorem dX8_init_88 : decode cX8_init 88 = .ok (.iconst 0, 1) := by decide +kernel
theorem dX8_init_89 : decode cX8_init 89 = .ok (.istore_n 1, 1) := by decide +kernel
theorem dX8_init_90 : decode cX8_init 90 = .ok (.iload_n 1, 1) := by decide +kernel
theorem dX8_init_91 : decode cX8_init 91 = .ok (.bipush 32, 2) := by decide +kernel
theorem dX8_init_93 : decode cX8_init 93 = .ok (.if_icmp .ge 32, 3) := by decide +kernel
theorem dX8_init_96 : decode cX8_init 96 = .ok (.aload_n 0, 1) := by decide +kernel
theorem dX8_init_97 : decode cX8_init 97 = .ok (.getfield 9, 3) := by decide +kernel
theorem dX8_init_100 : decode cX8_init 100 = .ok (.bipush 8, 2) := by decide +kernel
theorem dX8_init_102 : decode cX8_init 102 = .ok (.iload_n 1, 1) := by decide +kernel
theorem dX8_init_103 : decode cX8_init 103 = .ok (.iadd, 1) := by decide +kernel
theorem dX8_init_104 : decode cX8_init 104 = .ok (.iload_n 1, 1) := by decide +kernel
theorem dX8_init_105 : decode cX8_init 105 = .ok (.iastore, 1) := by decide +kernel
theorem dX8_init_106 : decode cX8_init 106 = .ok (.aload_n 0, 1) := by decide +kernel
theorem dX8_init_107 : decode cX8_init 107 = .ok (.getfield 9, 3) := by decide +kernel
theorem dX8_init_110 : decode cX8_init 110 = .ok (.bipush 40, 2) := by decide +kernel
theorem dX8_init_112 : decode cX8_init 112 = .ok (.iload_n 1, 1) := by decide +kernel
theorem dX8_init_113 : decode cX8_init 113 = .ok (.iadd, 1) := by decide +kernel
theorem dX8_init_114 : decode cX8_init 114 = .ok (.iload_n 1, 1) := by decide +kernel
theorem dX8_init_115 : decode cX8_init 115 = .ok (.bipush 8, 2) := by decide +kernel
theorem dX8_init_117 : decode cX8_init 117 = .ok (.idiv, 1) := by decide +kernel
theorem dX8_init_118 : decode cX8_init 118 = .ok (.iastore, 1) := by decide +kernel
theorem dX8_init_119 : decode cX8_init 119 = .ok (.iinc 1 1, 3) := by decide +kernel
theorem dX8_init_122 : decode cX8_init 122 = .ok (.goto (-32), 3) := by decide +kernel
theorem dX8_init_125 : decode cX8_init 125 = .ok (.return_, 1) := by decide +kernel
theorem dX8_thrown_0 : decode cX8_thrown 0 = .ok (.aload_n 0, 1) := by decide +kernel
theorem dX8_thrown_1 : decode cX8_thrown 1 = .ok (.getfield 42, 3) := by decide +kernel
theorem dX8_thrown_4 : decode cX8_thrown 4 = .ok (.ireturn, 1) := by decide +kernel
theorem dX8_in_0 : decode cX8_in 0 = .ok (.iload_n 0, 1) := by decide +kernel
theorem dX8_in_1 : decode cX8_in 1 = .ok (.iload_n 1, 1) := by decide +kernel
theorem dX8_in_2 : decode cX8_in 2 = .ok (.if_icmp .lt 12, 3) := by decide +kernel
theorem dX8_in_5 : decode cX8_in 5 = .ok (.iload_n 0, 1) := by decide +kernel
theorem dX8_in_6 : decode cX8_in 6 = .ok (.iload_n 2, 1) := by decide +kernel
theorem dX8_in_7 : decode cX8_in 7 = .ok (.if_icmp .gt 7, 3) := by decide +kernel
theorem dX8_in_10 : decode cX8_in 10 = .ok (.iconst 1, 1) := by decide +kernel
theorem dX8_in_11 : decode cX8_in 11 = .ok (.goto 4, 3) := by decide +kernel
theorem dX8_in_14 : decode cX8_in 14 = .ok (.iconst 0, 1) := by decide +kernel
theorem dX8_in_15 : decode cX8_in 15 = .ok (.ireturn, 1) := by decide +kernel
theorem dX8_keep_0 : decode cX8_keep 0 = .ok (.aload_n 0, 1) := by decide +kernel
theorem dX8_keep_1 : decode cX8_keep 1 = .ok (.iconst 0, 1) := by decide +kernel
theorem dX8_keep_2 : decode cX8_keep 2 = .ok (.putfield 42, 3) := by decide +kernel
theorem dX8_keep_5 : decode cX8_keep 5 = .ok (.aload_n 0, 1) := by decide +kernel
theorem dX8_keep_6 : decode cX8_keep 6 = .ok (.getfield 9, 3) := by decide +kernel
theorem dX8_keep_9 : decode cX8_keep 9 = .ok (.iconst 0, 1) := by decide +kernel
theorem dX8_keep_10 : decode cX8_keep 10 = .ok (.aload_n 0, 1) := by decide +kernel
theorem dX8_keep_11 : decode cX8_keep 11 = .ok (.getfield 13, 3) := by decide +kernel
theorem dX8_keep_14 : decode cX8_keep 14 = .ok (.iconst 0, 1) := by decide +kernel
theorem dX8_keep_15 : decode cX8_keep 15 = .ok (.sipush 352, 3) := by decide +kernel
theorem dX8_keep_18 : decode cX8_keep 18 = .ok (.invokestatic 45, 3) := by decide +kernel
theorem dX8_keep_21 : decode cX8_keep 21 = .ok (.return_, 1) := by decide +kernel
theorem dX8_ends_0 : decode cX8_ends 0 = .ok (.aload_n 0, 1) := by decide +kernel
theorem dX8_ends_1 : decode cX8_ends 1 = .ok (.getfield 42, 3) := by decide +kernel
theorem dX8_ends_4 : decode cX8_ends 4 = .ok (.ifCond .le 21, 3) := by decide +kernel
theorem dX8_ends_7 : decode cX8_ends 7 = .ok (.aload_n 0, 1) := by decide +kernel
theorem dX8_ends_8 : decode cX8_ends 8 = .ok (.getfield 13, 3) := by decide +kernel
theorem dX8_ends_11 : decode cX8_ends 11 = .ok (.iconst 0, 1) := by decide +kernel
theorem dX8_ends_12 : decode cX8_ends 12 = .ok (.aload_n 0, 1) := by decide +kernel
theorem dX8_ends_13 : decode cX8_ends 13 = .ok (.getfield 9, 3) := by decide +kernel
theorem dX8_ends_16 : decode cX8_ends 16 = .ok (.iconst 0, 1) := by decide +kernel
theorem dX8_ends_17 : decode cX8_ends 17 = .ok (.sipush 352, 3) := by decide +kernel
theorem dX8_ends_20 : decode cX8_ends 20 = .ok (.invokestatic 45, 3) := by decide +kernel
theorem dX8_ends_23 : decode cX8_ends 23 = .ok (.iconst 0, 1) := by decide +kernel
theorem dX8_ends_24 : decode cX8_ends 24 = .ok (.ireturn, 1) := by decide +kernel
theorem dX8_ends_25 : decode cX8_ends 25 = .ok (.aload_n 0, 1) := by decide +kernel
theorem dX8_ends_26 : decode cX8_ends 26 = .ok (.getfield 51, 3) := by decide +kernel
theorem dX8_ends_29 : decode cX8_ends 29 = .ok (.bipush 8, 2) := by decide +kernel
theorem dX8_ends_31 : decode cX8_ends 31 = .ok (.if_icmp .ne 31, 3) := by decide +kernel
theorem dX8_ends_34 : decode cX8_ends 34 = .ok (.aload_n 0, 1) := by decide +kernel
theorem dX8_ends_35 : decode cX8_ends 35 = .ok (.getfield 19, 3) := by decide +kernel
theorem dX8_ends_38 : decode cX8_ends 38 = .ok (.sipush 352, 3) := by decide +kernel
theorem dX8_ends_41 : decode cX8_ends 41 = .ok (.aload_n 0, 1) := by decide +kernel
theorem dX8_ends_42 : decode cX8_ends 42 = .ok (.getfield 19, 3) := by decide +kernel
theorem dX8_ends_45 : decode cX8_ends 45 = .ok (.iconst 0, 1) := by decide +kernel
theorem dX8_ends_46 : decode cX8_ends 46 = .ok (.sipush 2464, 3) := by decide +kernel
theorem dX8_ends_49 : decode cX8_ends 49 = .ok (.invokestatic 45, 3) := by decide +kernel
theorem dX8_ends_52 : decode cX8_ends 52 = .ok (.aload_n 0, 1) := by decide +kernel
theorem dX8_ends_53 : decode cX8_ends 53 = .ok (.dup, 1) := by decide +kernel
theorem dX8_ends_54 : decode cX8_ends 54 = .ok (.getfield 51, 3) := by decide +kernel
theorem dX8_ends_57 : decode cX8_ends 57 = .ok (.iconst 1, 1) := by decide +kernel
theorem dX8_ends_58 : decode cX8_ends 58 = .ok (.isub, 1) := by decide +kernel
theorem dX8_ends_59 : decode cX8_ends 59 = .ok (.putfield 51, 3) := by decide +kernel
theorem dX8_ends_62 : decode cX8_ends 62 = .ok (.aload_n 0, 1) := by decide +kernel
theorem dX8_ends_63 : decode cX8_ends 63 = .ok (.getfield 13, 3) := by decide +kernel
theorem dX8_ends_66 : decode cX8_ends 66 = .ok (.iconst 0, 1) := by decide +kernel
theorem dX8_ends_67 : decode cX8_ends 67 = .ok (.aload_n 0, 1) := by decide +kernel
theorem dX8_ends_68 : decode cX8_ends 68 = .ok (.getfield 19, 3) := by decide +kernel
theorem dX8_ends_71 : decode cX8_ends 71 = .ok (.sipush 352, 3) := by decide +kernel
theorem dX8_ends_74 : decode cX8_ends 74 = .ok (.aload_n 0, 1) := by decide +kernel
theorem dX8_ends_75 : decode cX8_ends 75 = .ok (.getfield 51, 3) := by decide +kernel
theorem dX8_ends_78 : decode cX8_ends 78 = .ok (.imul, 1) := by decide +kernel
theorem dX8_ends_79 : decode cX8_ends 79 = .ok (.sipush 352, 3) := by decide +kernel
theorem dX8_ends_82 : decode cX8_ends 82 = .ok (.invokestatic 45, 3) := by decide +kernel
theorem dX8_ends_85 : decode cX8_ends 85 = .ok (.aload_n 0, 1) := by decide +kernel
theorem dX8_ends_86 : decode cX8_ends 86 = .ok (.dup, 1) := by decide +kernel
theorem dX8_ends_87 : decode cX8_ends 87 = .ok (.getfield 51, 3) := by decide +kernel
theorem dX8_ends_90 : decode cX8_ends 90 = .ok (.iconst 1, 1) := by decide +kernel
theorem dX8_ends_91 : decode cX8_ends 91 = .ok (.iadd, 1) := by decide +kernel
theorem dX8_ends_92 : decode cX8_ends 92 = .ok (.putfield 51, 3) := by decide +kernel
theorem dX8_ends_95 : decode cX8_ends 95 = .ok (.iload_n 1, 1) := by decide +kernel
theorem dX8_ends_96 : decode cX8_ends 96 = .ok (.ireturn, 1) := by decide +kernel
theorem dX8_fails_0 : decode cX8_fails 0 = .ok (.aload_n 0, 1) := by decide +kernel
theorem dX8_fails_1 : decode cX8_fails 1 = .ok (.iload_n 1, 1) := by decide +kernel
theorem dX8_fails_2 : decode cX8_fails 2 = .ok (.putfield 42, 3) := by decide +kernel
theorem dX8_fails_5 : decode cX8_fails 5 = .ok (.iconst 0, 1) := by decide +kernel
theorem dX8_fails_6 : decode cX8_fails 6 = .ok (.ireturn, 1) := by decide +kernel
theorem dX8_refuse_0 : decode cX8_refuse 0 = .ok (.aload_n 0, 1) := by decide +kernel
theorem dX8_refuse_1 : decode cX8_refuse 1 = .ok (.iload_n 1, 1) := by decide +kernel
theorem dX8_refuse_2 : decode cX8_refuse 2 = .ok (.putfield 42, 3) := by decide +kernel
theorem dX8_refuse_5 : decode cX8_refuse 5 = .ok (.aload_n 0, 1) := by decide +kernel
theorem dX8_refuse_6 : decode cX8_refuse 6 = .ok (.iload_n 2, 1) := by decide +kernel
theorem dX8_refuse_7 : decode cX8_refuse 7 = .ok (.putfield 54, 3) := by decide +kernel
theorem dX8_refuse_10 : decode cX8_refuse 10 = .ok (.aload_n 0, 1) := by decide +kernel
theorem dX8_refuse_11 : decode cX8_refuse 11 = .ok (.iload_n 3, 1) := by decide +kernel
theorem dX8_refuse_12 : decode cX8_refuse 12 = .ok (.putfield 57, 3) := by decide +kernel
theorem dX8_refuse_15 : decode cX8_refuse 15 = .ok (.iconst 0, 1) := by decide +kernel
theorem dX8_refuse_16 : decode cX8_refuse 16 = .ok (.ireturn, 1) := by decide +kernel
theorem dX8_refusal_0 : decode cX8_refusal 0 = .ok (.aload_n 0, 1) := by decide +kernel
theorem dX8_refusal_1 : decode cX8_refusal 1 = .ok (.aload_n 0, 1) := by decide +kernel
theorem dX8_refusal_2 : decode cX8_refusal 2 = .ok (.getfield 54, 3) := by decide +kernel
theorem dX8_refusal_5 : decode cX8_refusal 5 = .ok (.ifCond .ne 7, 3) := by decide +kernel
theorem dX8_refusal_8 : decode cX8_refusal 8 = .ok (.iconst 1, 1) := by decide +kernel
theorem dX8_refusal_9 : decode cX8_refusal 9 = .ok (.goto 4, 3) := by decide +kernel
theorem dX8_refusal_12 : decode cX8_refusal 12 = .ok (.iconst 0, 1) := by decide +kernel
theorem dX8_refusal_13 : decode cX8_refusal 13 = .ok (.putfield 42, 3) := by decide +kernel
theorem dX8_refusal_16 : decode cX8_refusal 16 = .ok (.aload_n 0, 1) := by decide +kernel
theorem dX8_refusal_17 : decode cX8_refusal 17 = .ok (.getfield 42, 3) := by decide +kernel
theorem dX8_refusal_20 : decode cX8_refusal 20 = .ok (.ifCond .le 7, 3) := by decide +kernel
theorem dX8_refusal_23 : decode cX8_refusal 23 = .ok (.iconst 0, 1) := by decide +kernel
theorem dX8_refusal_24 : decode cX8_refusal 24 = .ok (.goto 18, 3) := by decide +kernel
theorem dX8_refusal_27 : decode cX8_refusal 27 = .ok (.iload_n 1, 1) := by decide +kernel
theorem dX8_refusal_28 : decode cX8_refusal 28 = .ok (.ifCond .eq 10, 3) := by decide +kernel
theorem dX8_refusal_31 : decode cX8_refusal 31 = .ok (.aload_n 0, 1) := by decide +kernel
theorem dX8_refusal_32 : decode cX8_refusal 32 = .ok (.getfield 57, 3) := by decide +kernel
theorem dX8_refusal_35 : decode cX8_refusal 35 = .ok (.goto 7, 3) := by decide +kernel
theorem dX8_refusal_38 : decode cX8_refusal 38 = .ok (.aload_n 0, 1) := by decide +kernel
theorem dX8_refusal_39 : decode cX8_refusal 39 = .ok (.getfield 54, 3) := by decide +kernel
theorem dX8_refusal_42 : decode cX8_refusal 42 = .ok (.ireturn, 1) := by decide +kernel
theorem dX8_nothing_0 : decode cX8_nothing 0 = .ok (.iconst 0, 1) := by decide +kernel
theorem dX8_nothing_1 : decode cX8_nothing 1 = .ok (.istore_n 1, 1) := by decide +kernel
theorem dX8_nothing_2 : decode cX8_nothing 2 = .ok (.iload_n 1, 1) := by decide +kernel
theorem dX8_nothing_3 : decode cX8_nothing 3 = .ok (.bipush 32, 2) := by decide +kernel
theorem dX8_nothing_5 : decode cX8_nothing 5 = .ok (.if_icmp .ge 24, 3) := by decide +kernel
theorem dX8_nothing_8 : decode cX8_nothing 8 = .ok (.aload_n 0, 1) := by decide +kernel
theorem dX8_nothing_9 : decode cX8_nothing 9 = .ok (.getfield 22, 3) := by decide +kernel
theorem dX8_nothing_12 : decode cX8_nothing 12 = .ok (.bipush 32, 2) := by decide +kernel
theorem dX8_nothing_14 : decode cX8_nothing 14 = .ok (.aload_n 0, 1) := by decide +kernel
theorem dX8_nothing_15 : decode cX8_nothing 15 = .ok (.getfield 60, 3) := by decide +kernel
theorem dX8_nothing_18 : decode cX8_nothing 18 = .ok (.imul, 1) := by decide +kernel
theorem dX8_nothing_19 : decode cX8_nothing 19 = .ok (.iload_n 1, 1) := by decide +kernel
theorem dX8_nothing_20 : decode cX8_nothing 20 = .ok (.iadd, 1) := by decide +kernel
theorem dX8_nothing_21 : decode cX8_nothing 21 = .ok (.iload_n 1, 1) := by decide +kernel
theorem dX8_nothing_22 : decode cX8_nothing 22 = .ok (.iastore, 1) := by decide +kernel
theorem dX8_nothing_23 : decode cX8_nothing 23 = .ok (.iinc 1 1, 3) := by decide +kernel
theorem dX8_nothing_26 : decode cX8_nothing 26 = .ok (.goto (-24), 3) := by decide +kernel
theorem dX8_nothing_29 : decode cX8_nothing 29 = .ok (.aload_n 0, 1) := by decide +kernel
theorem dX8_nothing_30 : decode cX8_nothing 30 = .ok (.getfield 25, 3) := by decide +kernel
theorem dX8_nothing_33 : decode cX8_nothing 33 = .ok (.aload_n 0, 1) := by decide +kernel
theorem dX8_nothing_34 : decode cX8_nothing 34 = .ok (.getfield 60, 3) := by decide +kernel
theorem dX8_nothing_37 : decode cX8_nothing 37 = .ok (.iconst 0, 1) := by decide +kernel
theorem dX8_nothing_38 : decode cX8_nothing 38 = .ok (.iastore, 1) := by decide +kernel
theorem dX8_nothing_39 : decode cX8_nothing 39 = .ok (.aload_n 0, 1) := by decide +kernel
theorem dX8_nothing_40 : decode cX8_nothing 40 = .ok (.dup, 1) := by decide +kernel
theorem dX8_nothing_41 : decode cX8_nothing 41 = .ok (.getfield 60, 3) := by decide +kernel
theorem dX8_nothing_44 : decode cX8_nothing 44 = .ok (.iconst 1, 1) := by decide +kernel
theorem dX8_nothing_45 : decode cX8_nothing 45 = .ok (.iadd, 1) := by decide +kernel
theorem dX8_nothing_46 : decode cX8_nothing 46 = .ok (.putfield 60, 3) := by decide +kernel
theorem dX8_nothing_49 : decode cX8_nothing 49 = .ok (.aload_n 0, 1) := by decide +kernel
theorem dX8_nothing_50 : decode cX8_nothing 50 = .ok (.getfield 60, 3) := by decide +kernel
theorem dX8_nothing_53 : decode cX8_nothing 53 = .ok (.iconst 1, 1) := by decide +kernel
theorem dX8_nothing_54 : decode cX8_nothing 54 = .ok (.isub, 1) := by decide +kernel
theorem dX8_nothing_55 : decode cX8_nothing 55 = .ok (.ireturn, 1) := by decide +kernel
theorem dX8_move_0 : decode cX8_move 0 = .ok (.aload_n 0, 1) := by decide +kernel
theorem dX8_move_1 : decode cX8_move 1 = .ok (.invokevirtual 63, 3) := by decide +kernel
theorem dX8_move_4 : decode cX8_move 4 = .ok (.istore 4, 2) := by decide +kernel
theorem dX8_move_6 : decode cX8_move 6 = .ok (.aload_n 0, 1) := by decide +kernel
theorem dX8_move_7 : decode cX8_move 7 = .ok (.getfield 25, 3) := by decide +kernel
theorem dX8_move_10 : decode cX8_move 10 = .ok (.iload 4, 2) := by decide +kernel
theorem dX8_move_12 : decode cX8_move 12 = .ok (.iconst 1, 1) := by decide +kernel
theorem dX8_move_13 : decode cX8_move 13 = .ok (.iastore, 1) := by decide +kernel
theorem dX8_move_14 : decode cX8_move 14 = .ok (.iconst 0, 1) := by decide +kernel
theorem dX8_move_15 : decode cX8_move 15 = .ok (.istore 5, 2) := by decide +kernel
theorem dX8_move_17 : decode cX8_move 17 = .ok (.iload 5, 2) := by decide +kernel
theorem dX8_move_19 : decode cX8_move 19 = .ok (.bipush 32, 2) := by decide +kernel
theorem dX8_move_21 : decode cX8_move 21 = .ok (.if_icmp .ge 97, 3) := by decide +kernel
theorem dX8_move_24 : decode cX8_move 24 = .ok (.iload 5, 2) := by decide +kernel
theorem dX8_move_26 : decode cX8_move 26 = .ok (.bipush 8, 2) := by decide +kernel
theorem dX8_move_28 : decode cX8_move 28 = .ok (.idiv, 1) := by decide +kernel
theorem dX8_move_29 : decode cX8_move 29 = .ok (.istore 6, 2) := by decide +kernel
theorem dX8_move_31 : decode cX8_move 31 = .ok (.iload 5, 2) := by decide +kernel
theorem dX8_move_33 : decode cX8_move 33 = .ok (.bipush 8, 2) := by decide +kernel
theorem dX8_move_35 : decode cX8_move 35 = .ok (.irem, 1) := by decide +kernel
theorem dX8_move_36 : decode cX8_move 36 = .ok (.istore 7, 2) := by decide +kernel
theorem dX8_move_38 : decode cX8_move 38 = .ok (.iload_n 1, 1) := by decide +kernel
theorem dX8_move_39 : decode cX8_move 39 = .ok (.ifCond .eq 37, 3) := by decide +kernel
theorem dX8_move_42 : decode cX8_move 42 = .ok (.iload 7, 2) := by decide +kernel
theorem dX8_move_44 : decode cX8_move 44 = .ok (.iload_n 2, 1) := by decide +kernel
theorem dX8_move_45 : decode cX8_move 45 = .ok (.if_icmp .ne 31, 3) := by decide +kernel
theorem dX8_move_48 : decode cX8_move 48 = .ok (.aload_n 0, 1) := by decide +kernel
theorem dX8_move_49 : decode cX8_move 49 = .ok (.getfield 22, 3) := by decide +kernel
theorem dX8_move_52 : decode cX8_move 52 = .ok (.bipush 32, 2) := by decide +kernel
theorem dX8_move_54 : decode cX8_move 54 = .ok (.iload 4, 2) := by decide +kernel
theorem dX8_move_56 : decode cX8_move 56 = .ok (.imul, 1) := by decide +kernel
theorem dX8_move_57 : decode cX8_move 57 = .ok (.iload 5, 2) := by decide +kernel
theorem dX8_move_59 : decode cX8_move 59 = .ok (.iadd, 1) := by decide +kernel
theorem dX8_move_60 : decode cX8_move 60 = .ok (.bipush 8, 2) := by decide +kernel
theorem dX8_move_62 : decode cX8_move 62 = .ok (.iload 6, 2) := by decide +kernel
theorem dX8_move_64 : decode cX8_move 64 = .ok (.iload_n 3, 1) := by decide +kernel
theorem dX8_move_65 : decode cX8_move 65 = .ok (.iadd, 1) := by decide +kernel
theorem dX8_move_66 : decode cX8_move 66 = .ok (.iconst 4, 1) := by decide +kernel
theorem dX8_move_67 : decode cX8_move 67 = .ok (.irem, 1) := by decide +kernel
theorem dX8_move_68 : decode cX8_move 68 = .ok (.imul, 1) := by decide +kernel
theorem dX8_move_69 : decode cX8_move 69 = .ok (.iload 7, 2) := by decide +kernel
theorem dX8_move_71 : decode cX8_move 71 = .ok (.iadd, 1) := by decide +kernel
theorem dX8_move_72 : decode cX8_move 72 = .ok (.iastore, 1) := by decide +kernel
theorem dX8_move_73 : decode cX8_move 73 = .ok (.goto 39, 3) := by decide +kernel
theorem dX8_move_76 : decode cX8_move 76 = .ok (.iload_n 1, 1) := by decide +kernel
theorem dX8_move_77 : decode cX8_move 77 = .ok (.ifCond .ne 35, 3) := by decide +kernel
theorem dX8_move_80 : decode cX8_move 80 = .ok (.iload 6, 2) := by decide +kernel
theorem dX8_move_82 : decode cX8_move 82 = .ok (.iload_n 2, 1) := by decide +kernel
theorem dX8_move_83 : decode cX8_move 83 = .ok (.if_icmp .ne 29, 3) := by decide +kernel
theorem dX8_move_86 : decode cX8_move 86 = .ok (.aload_n 0, 1) := by decide +kernel
theorem dX8_move_87 : decode cX8_move 87 = .ok (.getfield 22, 3) := by decide +kernel
theorem dX8_move_90 : decode cX8_move 90 = .ok (.bipush 32, 2) := by decide +kernel
theorem dX8_move_92 : decode cX8_move 92 = .ok (.iload 4, 2) := by decide +kernel
theorem dX8_move_94 : decode cX8_move 94 = .ok (.imul, 1) := by decide +kernel
theorem dX8_move_95 : decode cX8_move 95 = .ok (.iload 5, 2) := by decide +kernel
theorem dX8_move_97 : decode cX8_move 97 = .ok (.iadd, 1) := by decide +kernel
theorem dX8_move_98 : decode cX8_move 98 = .ok (.bipush 8, 2) := by decide +kernel
theorem dX8_move_100 : decode cX8_move 100 = .ok (.iload 6, 2) := by decide +kernel
theorem dX8_move_102 : decode cX8_move 102 = .ok (.imul, 1) := by decide +kernel
theorem dX8_move_103 : decode cX8_move 103 = .ok (.iload 7, 2) := by decide +kernel
theorem dX8_move_105 : decode cX8_move 105 = .ok (.iload_n 3, 1) := by decide +kernel
theorem dX8_move_106 : decode cX8_move 106 = .ok (.iadd, 1) := by decide +kernel
theorem dX8_move_107 : decode cX8_move 107 = .ok (.bipush 8, 2) := by decide +kernel
theorem dX8_move_109 : decode cX8_move 109 = .ok (.irem, 1) := by decide +kernel
theorem dX8_move_110 : decode cX8_move 110 = .ok (.iadd, 1) := by decide +kernel
theorem dX8_move_111 : decode cX8_move 111 = .ok (.iastore, 1) := by decide +kernel
theorem dX8_move_112 : decode cX8_move 112 = .ok (.iinc 5 1, 3) := by decide +kernel
theorem dX8_move_115 : decode cX8_move 115 = .ok (.goto (-98), 3) := by decide +kernel
theorem dX8_move_118 : decode cX8_move 118 = .ok (.iload 4, 2) := by decide +kernel
theorem dX8_move_120 : decode cX8_move 120 = .ok (.ireturn, 1) := by decide +kernel
theorem dX8_ofShelf_0 : decode cX8_ofShelf 0 = .ok (.aload_n 0, 1) := by decide +kernel
theorem dX8_ofShelf_1 : decode cX8_ofShelf 1 = .ok (.invokevirtual 63, 3) := by decide +kernel
theorem dX8_ofShelf_4 : decode cX8_ofShelf 4 = .ok (.istore_n 2, 1) := by decide +kernel
theorem dX8_ofShelf_5 : decode cX8_ofShelf 5 = .ok (.aload_n 0, 1) := by decide +kernel
theorem dX8_ofShelf_6 : decode cX8_ofShelf 6 = .ok (.getfield 25, 3) := by decide +kernel
theorem dX8_ofShelf_9 : decode cX8_ofShelf 9 = .ok (.iload_n 2, 1) := by decide +kernel
theorem dX8_ofShelf_10 : decode cX8_ofShelf 10 = .ok (.iconst 1, 1) := by decide +kernel
theorem dX8_ofShelf_11 : decode cX8_ofShelf 11 = .ok (.iastore, 1) := by decide +kernel
theorem dX8_ofShelf_12 : decode cX8_ofShelf 12 = .ok (.aload_n 0, 1) := by decide +kernel
theorem dX8_ofShelf_13 : decode cX8_ofShelf 13 = .ok (.getfield 9, 3) := by decide +kernel
theorem dX8_ofShelf_16 : decode cX8_ofShelf 16 = .ok (.sipush 192, 3) := by decide +kernel
theorem dX8_ofShelf_19 : decode cX8_ofShelf 19 = .ok (.bipush 32, 2) := by decide +kernel
theorem dX8_ofShelf_21 : decode cX8_ofShelf 21 = .ok (.iload_n 1, 1) := by decide +kernel
theorem dX8_ofShelf_22 : decode cX8_ofShelf 22 = .ok (.imul, 1) := by decide +kernel
theorem dX8_ofShelf_23 : decode cX8_ofShelf 23 = .ok (.iadd, 1) := by decide +kernel
theorem dX8_ofShelf_24 : decode cX8_ofShelf 24 = .ok (.aload_n 0, 1) := by decide +kernel
theorem dX8_ofShelf_25 : decode cX8_ofShelf 25 = .ok (.getfield 22, 3) := by decide +kernel
theorem dX8_ofShelf_28 : decode cX8_ofShelf 28 = .ok (.bipush 32, 2) := by decide +kernel
theorem dX8_ofShelf_30 : decode cX8_ofShelf 30 = .ok (.iload_n 2, 1) := by decide +kernel
theorem dX8_ofShelf_31 : decode cX8_ofShelf 31 = .ok (.imul, 1) := by decide +kernel
theorem dX8_ofShelf_32 : decode cX8_ofShelf 32 = .ok (.bipush 32, 2) := by decide +kernel
theorem dX8_ofShelf_34 : decode cX8_ofShelf 34 = .ok (.invokestatic 45, 3) := by decide +kernel
theorem dX8_ofShelf_37 : decode cX8_ofShelf 37 = .ok (.iload_n 2, 1) := by decide +kernel
theorem dX8_ofShelf_38 : decode cX8_ofShelf 38 = .ok (.ireturn, 1) := by decide +kernel
theorem dX8_then_0 : decode cX8_then 0 = .ok (.iconst 0, 1) := by decide +kernel
theorem dX8_then_1 : decode cX8_then 1 = .ok (.istore_n 3, 1) := by decide +kernel
theorem dX8_then_2 : decode cX8_then 2 = .ok (.iload_n 3, 1) := by decide +kernel
theorem dX8_then_3 : decode cX8_then 3 = .ok (.bipush 32, 2) := by decide +kernel
theorem dX8_then_5 : decode cX8_then 5 = .ok (.if_icmp .ge 41, 3) := by decide +kernel
theorem dX8_then_8 : decode cX8_then 8 = .ok (.aload_n 0, 1) := by decide +kernel
theorem dX8_then_9 : decode cX8_then 9 = .ok (.getfield 22, 3) := by decide +kernel
theorem dX8_then_12 : decode cX8_then 12 = .ok (.bipush 32, 2) := by decide +kernel
theorem dX8_then_14 : decode cX8_then 14 = .ok (.iload_n 1, 1) := by decide +kernel
theorem dX8_then_15 : decode cX8_then 15 = .ok (.imul, 1) := by decide +kernel
theorem dX8_then_16 : decode cX8_then 16 = .ok (.iload_n 3, 1) := by decide +kernel
theorem dX8_then_17 : decode cX8_then 17 = .ok (.iadd, 1) := by decide +kernel
theorem dX8_then_18 : decode cX8_then 18 = .ok (.aload_n 0, 1) := by decide +kernel
theorem dX8_then_19 : decode cX8_then 19 = .ok (.getfield 22, 3) := by decide +kernel
theorem dX8_then_22 : decode cX8_then 22 = .ok (.bipush 32, 2) := by decide +kernel
theorem dX8_then_24 : decode cX8_then 24 = .ok (.iload_n 2, 1) := by decide +kernel
theorem dX8_then_25 : decode cX8_then 25 = .ok (.imul, 1) := by decide +kernel
theorem dX8_then_26 : decode cX8_then 26 = .ok (.aload_n 0, 1) := by decide +kernel
theorem dX8_then_27 : decode cX8_then 27 = .ok (.getfield 22, 3) := by decide +kernel
theorem dX8_then_30 : decode cX8_then 30 = .ok (.bipush 32, 2) := by decide +kernel
theorem dX8_then_32 : decode cX8_then 32 = .ok (.iload_n 1, 1) := by decide +kernel
theorem dX8_then_33 : decode cX8_then 33 = .ok (.imul, 1) := by decide +kernel
theorem dX8_then_34 : decode cX8_then 34 = .ok (.iload_n 3, 1) := by decide +kernel
theorem dX8_then_35 : decode cX8_then 35 = .ok (.iadd, 1) := by decide +kernel
theorem dX8_then_36 : decode cX8_then 36 = .ok (.iaload, 1) := by decide +kernel
theorem dX8_then_37 : decode cX8_then 37 = .ok (.iadd, 1) := by decide +kernel
theorem dX8_then_38 : decode cX8_then 38 = .ok (.iaload, 1) := by decide +kernel
theorem dX8_then_39 : decode cX8_then 39 = .ok (.iastore, 1) := by decide +kernel
theorem dX8_then_40 : decode cX8_then 40 = .ok (.iinc 3 1, 3) := by decide +kernel
theorem dX8_then_43 : decode cX8_then 43 = .ok (.goto (-41), 3) := by decide +kernel
theorem dX8_then_46 : decode cX8_then 46 = .ok (.return_, 1) := by decide +kernel
theorem dX8_inverse_0 : decode cX8_inverse 0 = .ok (.aload_n 0, 1) := by decide +kernel
theorem dX8_inverse_1 : decode cX8_inverse 1 = .ok (.invokevirtual 63, 3) := by decide +kernel
theorem dX8_inverse_4 : decode cX8_inverse 4 = .ok (.istore_n 2, 1) := by decide +kernel
theorem dX8_inverse_5 : decode cX8_inverse 5 = .ok (.aload_n 0, 1) := by decide +kernel
theorem dX8_inverse_6 : decode cX8_inverse 6 = .ok (.getfield 25, 3) := by decide +kernel
theorem dX8_inverse_9 : decode cX8_inverse 9 = .ok (.iload_n 2, 1) := by decide +kernel
theorem dX8_inverse_10 : decode cX8_inverse 10 = .ok (.aload_n 0, 1) := by decide +kernel
theorem dX8_inverse_11 : decode cX8_inverse 11 = .ok (.getfield 25, 3) := by decide +kernel
theorem dX8_inverse_14 : decode cX8_inverse 14 = .ok (.iload_n 1, 1) := by decide +kernel
theorem dX8_inverse_15 : decode cX8_inverse 15 = .ok (.iaload, 1) := by decide +kernel
theorem dX8_inverse_16 : decode cX8_inverse 16 = .ok (.iastore, 1) := by decide +kernel
theorem dX8_inverse_17 : decode cX8_inverse 17 = .ok (.iconst 0, 1) := by decide +kernel
theorem dX8_inverse_18 : decode cX8_inverse 18 = .ok (.istore_n 3, 1) := by decide +kernel
theorem dX8_inverse_19 : decode cX8_inverse 19 = .ok (.iload_n 3, 1) := by decide +kernel
theorem dX8_inverse_20 : decode cX8_inverse 20 = .ok (.bipush 32, 2) := by decide +kernel
theorem dX8_inverse_22 : decode cX8_inverse 22 = .ok (.if_icmp .ge 31, 3) := by decide +kernel
theorem dX8_inverse_25 : decode cX8_inverse 25 = .ok (.aload_n 0, 1) := by decide +kernel
theorem dX8_inverse_26 : decode cX8_inverse 26 = .ok (.getfield 22, 3) := by decide +kernel
theorem dX8_inverse_29 : decode cX8_inverse 29 = .ok (.bipush 32, 2) := by decide +kernel
theorem dX8_inverse_31 : decode cX8_inverse 31 = .ok (.iload_n 2, 1) := by decide +kernel
theorem dX8_inverse_32 : decode cX8_inverse 32 = .ok (.imul, 1) := by decide +kernel
theorem dX8_inverse_33 : decode cX8_inverse 33 = .ok (.aload_n 0, 1) := by decide +kernel
theorem dX8_inverse_34 : decode cX8_inverse 34 = .ok (.getfield 22, 3) := by decide +kernel
theorem dX8_inverse_37 : decode cX8_inverse 37 = .ok (.bipush 32, 2) := by decide +kernel
theorem dX8_inverse_39 : decode cX8_inverse 39 = .ok (.iload_n 1, 1) := by decide +kernel
theorem dX8_inverse_40 : decode cX8_inverse 40 = .ok (.imul, 1) := by decide +kernel
theorem dX8_inverse_41 : decode cX8_inverse 41 = .ok (.iload_n 3, 1) := by decide +kernel
theorem dX8_inverse_42 : decode cX8_inverse 42 = .ok (.iadd, 1) := by decide +kernel
theorem dX8_inverse_43 : decode cX8_inverse 43 = .ok (.iaload, 1) := by decide +kernel
theorem dX8_inverse_44 : decode cX8_inverse 44 = .ok (.iadd, 1) := by decide +kernel
theorem dX8_inverse_45 : decode cX8_inverse 45 = .ok (.iload_n 3, 1) := by decide +kernel
theorem dX8_inverse_46 : decode cX8_inverse 46 = .ok (.iastore, 1) := by decide +kernel
theorem dX8_inverse_47 : decode cX8_inverse 47 = .ok (.iinc 3 1, 3) := by decide +kernel
theorem dX8_inverse_50 : decode cX8_inverse 50 = .ok (.goto (-31), 3) := by decide +kernel
theorem dX8_inverse_53 : decode cX8_inverse 53 = .ok (.iload_n 2, 1) := by decide +kernel
theorem dX8_inverse_54 : decode cX8_inverse 54 = .ok (.ireturn, 1) := by decide +kernel
theorem dX8_times_0 : decode cX8_times 0 = .ok (.aload_n 0, 1) := by decide +kernel
theorem dX8_times_1 : decode cX8_times 1 = .ok (.invokevirtual 63, 3) := by decide +kernel
theorem dX8_times_4 : decode cX8_times 4 = .ok (.istore_n 3, 1) := by decide +kernel
theorem dX8_times_5 : decode cX8_times 5 = .ok (.iconst 0, 1) := by decide +kernel
theorem dX8_times_6 : decode cX8_times 6 = .ok (.istore 4, 2) := by decide +kernel
theorem dX8_times_8 : decode cX8_times 8 = .ok (.iload 4, 2) := by decide +kernel
theorem dX8_times_10 : decode cX8_times 10 = .ok (.iload_n 2, 1) := by decide +kernel
theorem dX8_times_11 : decode cX8_times 11 = .ok (.if_icmp .ge 15, 3) := by decide +kernel
theorem dX8_times_14 : decode cX8_times 14 = .ok (.aload_n 0, 1) := by decide +kernel
theorem dX8_times_15 : decode cX8_times 15 = .ok (.iload_n 3, 1) := by decide +kernel
theorem dX8_times_16 : decode cX8_times 16 = .ok (.iload_n 1, 1) := by decide +kernel
theorem dX8_times_17 : decode cX8_times 17 = .ok (.invokevirtual 67, 3) := by decide +kernel
theorem dX8_times_20 : decode cX8_times 20 = .ok (.iinc 4 1, 3) := by decide +kernel
theorem dX8_times_23 : decode cX8_times 23 = .ok (.goto (-15), 3) := by decide +kernel
theorem dX8_times_26 : decode cX8_times 26 = .ok (.aload_n 0, 1) := by decide +kernel
theorem dX8_times_27 : decode cX8_times 27 = .ok (.getfield 25, 3) := by decide +kernel
theorem dX8_times_30 : decode cX8_times 30 = .ok (.iload_n 3, 1) := by decide +kernel
theorem dX8_times_31 : decode cX8_times 31 = .ok (.iload_n 2, 1) := by decide +kernel
theorem dX8_times_32 : decode cX8_times 32 = .ok (.aload_n 0, 1) := by decide +kernel
theorem dX8_times_33 : decode cX8_times 33 = .ok (.getfield 25, 3) := by decide +kernel
theorem dX8_times_36 : decode cX8_times 36 = .ok (.iload_n 1, 1) := by decide +kernel
theorem dX8_times_37 : decode cX8_times 37 = .ok (.iaload, 1) := by decide +kernel
theorem dX8_times_38 : decode cX8_times 38 = .ok (.imul, 1) := by decide +kernel
theorem dX8_times_39 : decode cX8_times 39 = .ok (.iastore, 1) := by decide +kernel
theorem dX8_times_40 : decode cX8_times 40 = .ok (.iload_n 3, 1) := by decide +kernel
theorem dX8_times_41 : decode cX8_times 41 = .ok (.ireturn, 1) := by decide +kernel
theorem dX8_commutator_0 : decode cX8_commutator 0 = .ok (.aload_n 0, 1) := by decide +kernel
theorem dX8_commutator_1 : decode cX8_commutator 1 = .ok (.iload_n 1, 1) := by decide +kernel
theorem dX8_commutator_2 : decode cX8_commutator 2 = .ok (.iconst 1, 1) := by decide +kernel
theorem dX8_commutator_3 : decode cX8_commutator 3 = .ok (.invokevirtual 71, 3) := by decide +kernel
theorem dX8_commutator_6 : decode cX8_commutator 6 = .ok (.istore_n 3, 1) := by decide +kernel
theorem dX8_commutator_7 : decode cX8_commutator 7 = .ok (.aload_n 0, 1) := by decide +kernel
theorem dX8_commutator_8 : decode cX8_commutator 8 = .ok (.iload_n 3, 1) := by decide +kernel
theorem dX8_commutator_9 : decode cX8_commutator 9 = .ok (.iload_n 2, 1) := by decide +kernel
theorem dX8_commutator_10 : decode cX8_commutator 10 = .ok (.invokevirtual 67, 3) := by decide +kernel
theorem dX8_commutator_13 : decode cX8_commutator 13 = .ok (.aload_n 0, 1) := by decide +kernel
theorem dX8_commutator_14 : decode cX8_commutator 14 = .ok (.iload_n 3, 1) := by decide +kernel
theorem dX8_commutator_15 : decode cX8_commutator 15 = .ok (.aload_n 0, 1) := by decide +kernel
theorem dX8_commutator_16 : decode cX8_commutator 16 = .ok (.iload_n 1, 1) := by decide +kernel
theorem dX8_commutator_17 : decode cX8_commutator 17 = .ok (.invokevirtual 75, 3) := by decide +kernel
theorem dX8_commutator_20 : decode cX8_commutator 20 = .ok (.invokevirtual 67, 3) := by decide +kernel
theorem dX8_commutator_23 : decode cX8_commutator 23 = .ok (.aload_n 0, 1) := by decide +kernel
theorem dX8_commutator_24 : decode cX8_commutator 24 = .ok (.iload_n 3, 1) := by decide +kernel
theorem dX8_commutator_25 : decode cX8_commutator 25 = .ok (.aload_n 0, 1) := by decide +kernel
theorem dX8_commutator_26 : decode cX8_commutator 26 = .ok (.iload_n 2, 1) := by decide +kernel
theorem dX8_commutator_27 : decode cX8_commutator 27 = .ok (.invokevirtual 75, 3) := by decide +kernel
theorem dX8_commutator_30 : decode cX8_commutator 30 = .ok (.invokevirtual 67, 3) := by decide +kernel
theorem dX8_commutator_33 : decode cX8_commutator 33 = .ok (.aload_n 0, 1) := by decide +kernel
theorem dX8_commutator_34 : decode cX8_commutator 34 = .ok (.getfield 25, 3) := by decide +kernel
theorem dX8_commutator_37 : decode cX8_commutator 37 = .ok (.iload_n 3, 1) := by decide +kernel
theorem dX8_commutator_38 : decode cX8_commutator 38 = .ok (.iconst 2, 1) := by decide +kernel
theorem dX8_commutator_39 : decode cX8_commutator 39 = .ok (.aload_n 0, 1) := by decide +kernel
theorem dX8_commutator_40 : decode cX8_commutator 40 = .ok (.getfield 25, 3) := by decide +kernel
theorem dX8_commutator_43 : decode cX8_commutator 43 = .ok (.iload_n 1, 1) := by decide +kernel
theorem dX8_commutator_44 : decode cX8_commutator 44 = .ok (.iaload, 1) := by decide +kernel
theorem dX8_commutator_45 : decode cX8_commutator 45 = .ok (.aload_n 0, 1) := by decide +kernel
theorem dX8_commutator_46 : decode cX8_commutator 46 = .ok (.getfield 25, 3) := by decide +kernel
theorem dX8_commutator_49 : decode cX8_commutator 49 = .ok (.iload_n 2, 1) := by decide +kernel
theorem dX8_commutator_50 : decode cX8_commutator 50 = .ok (.iaload, 1) := by decide +kernel
theorem dX8_commutator_51 : decode cX8_commutator 51 = .ok (.iadd, 1) := by decide +kernel
theorem dX8_commutator_52 : decode cX8_commutator 52 = .ok (.imul, 1) := by decide +kernel
theorem dX8_commutator_53 : decode cX8_commutator 53 = .ok (.iastore, 1) := by decide +kernel
theorem dX8_commutator_54 : decode cX8_commutator 54 = .ok (.iload_n 3, 1) := by decide +kernel
theorem dX8_commutator_55 : decode cX8_commutator 55 = .ok (.ireturn, 1) := by decide +kernel
theorem dX8_does_0 : decode cX8_does 0 = .ok (.aload_n 0, 1) := by decide +kernel
theorem dX8_does_1 : decode cX8_does 1 = .ok (.getfield 9, 3) := by decide +kernel
theorem dX8_does_4 : decode cX8_does 4 = .ok (.bipush 8, 2) := by decide +kernel
theorem dX8_does_6 : decode cX8_does 6 = .ok (.aload_n 0, 1) := by decide +kernel
theorem dX8_does_7 : decode cX8_does 7 = .ok (.getfield 28, 3) := by decide +kernel
theorem dX8_does_10 : decode cX8_does 10 = .ok (.iconst 0, 1) := by decide +kernel
theorem dX8_does_11 : decode cX8_does 11 = .ok (.bipush 32, 2) := by decide +kernel
theorem dX8_does_13 : decode cX8_does 13 = .ok (.invokestatic 45, 3) := by decide +kernel
theorem dX8_does_16 : decode cX8_does 16 = .ok (.iconst 0, 1) := by decide +kernel
theorem dX8_does_17 : decode cX8_does 17 = .ok (.istore_n 2, 1) := by decide +kernel
theorem dX8_does_18 : decode cX8_does 18 = .ok (.iload_n 2, 1) := by decide +kernel
theorem dX8_does_19 : decode cX8_does 19 = .ok (.bipush 32, 2) := by decide +kernel
theorem dX8_does_21 : decode cX8_does 21 = .ok (.if_icmp .ge 34, 3) := by decide +kernel
theorem dX8_does_24 : decode cX8_does 24 = .ok (.aload_n 0, 1) := by decide +kernel
theorem dX8_does_25 : decode cX8_does 25 = .ok (.getfield 9, 3) := by decide +kernel
theorem dX8_does_28 : decode cX8_does 28 = .ok (.bipush 8, 2) := by decide +kernel
theorem dX8_does_30 : decode cX8_does 30 = .ok (.aload_n 0, 1) := by decide +kernel
theorem dX8_does_31 : decode cX8_does 31 = .ok (.getfield 22, 3) := by decide +kernel
theorem dX8_does_34 : decode cX8_does 34 = .ok (.bipush 32, 2) := by decide +kernel
theorem dX8_does_36 : decode cX8_does 36 = .ok (.iload_n 1, 1) := by decide +kernel
theorem dX8_does_37 : decode cX8_does 37 = .ok (.imul, 1) := by decide +kernel
theorem dX8_does_38 : decode cX8_does 38 = .ok (.iload_n 2, 1) := by decide +kernel
theorem dX8_does_39 : decode cX8_does 39 = .ok (.iadd, 1) := by decide +kernel
theorem dX8_does_40 : decode cX8_does 40 = .ok (.iaload, 1) := by decide +kernel
theorem dX8_does_41 : decode cX8_does 41 = .ok (.iadd, 1) := by decide +kernel
theorem dX8_does_42 : decode cX8_does 42 = .ok (.aload_n 0, 1) := by decide +kernel
theorem dX8_does_43 : decode cX8_does 43 = .ok (.getfield 28, 3) := by decide +kernel
theorem dX8_does_46 : decode cX8_does 46 = .ok (.iload_n 2, 1) := by decide +kernel
theorem dX8_does_47 : decode cX8_does 47 = .ok (.iaload, 1) := by decide +kernel
theorem dX8_does_48 : decode cX8_does 48 = .ok (.iastore, 1) := by decide +kernel
theorem dX8_does_49 : decode cX8_does 49 = .ok (.iinc 2 1, 3) := by decide +kernel
theorem dX8_does_52 : decode cX8_does 52 = .ok (.goto (-34), 3) := by decide +kernel
theorem dX8_does_55 : decode cX8_does 55 = .ok (.return_, 1) := by decide +kernel
theorem dX8_movedBy_0 : decode cX8_movedBy 0 = .ok (.iconst 0, 1) := by decide +kernel
theorem dX8_movedBy_1 : decode cX8_movedBy 1 = .ok (.istore_n 2, 1) := by decide +kernel
theorem dX8_movedBy_2 : decode cX8_movedBy 2 = .ok (.iconst 0, 1) := by decide +kernel
theorem dX8_movedBy_3 : decode cX8_movedBy 3 = .ok (.istore_n 3, 1) := by decide +kernel
theorem dX8_movedBy_4 : decode cX8_movedBy 4 = .ok (.iload_n 3, 1) := by decide +kernel
theorem dX8_movedBy_5 : decode cX8_movedBy 5 = .ok (.bipush 32, 2) := by decide +kernel
theorem dX8_movedBy_7 : decode cX8_movedBy 7 = .ok (.if_icmp .ge 32, 3) := by decide +kernel
theorem dX8_movedBy_10 : decode cX8_movedBy 10 = .ok (.iload_n 2, 1) := by decide +kernel
theorem dX8_movedBy_11 : decode cX8_movedBy 11 = .ok (.aload_n 0, 1) := by decide +kernel
theorem dX8_movedBy_12 : decode cX8_movedBy 12 = .ok (.getfield 22, 3) := by decide +kernel
theorem dX8_movedBy_15 : decode cX8_movedBy 15 = .ok (.bipush 32, 2) := by decide +kernel
theorem dX8_movedBy_17 : decode cX8_movedBy 17 = .ok (.iload_n 1, 1) := by decide +kernel
theorem dX8_movedBy_18 : decode cX8_movedBy 18 = .ok (.imul, 1) := by decide +kernel
theorem dX8_movedBy_19 : decode cX8_movedBy 19 = .ok (.iload_n 3, 1) := by decide +kernel
theorem dX8_movedBy_20 : decode cX8_movedBy 20 = .ok (.iadd, 1) := by decide +kernel
theorem dX8_movedBy_21 : decode cX8_movedBy 21 = .ok (.iaload, 1) := by decide +kernel
theorem dX8_movedBy_22 : decode cX8_movedBy 22 = .ok (.iload_n 3, 1) := by decide +kernel
theorem dX8_movedBy_23 : decode cX8_movedBy 23 = .ok (.if_icmp .ne 7, 3) := by decide +kernel
theorem dX8_movedBy_26 : decode cX8_movedBy 26 = .ok (.iconst 0, 1) := by decide +kernel
theorem dX8_movedBy_27 : decode cX8_movedBy 27 = .ok (.goto 4, 3) := by decide +kernel
theorem dX8_movedBy_30 : decode cX8_movedBy 30 = .ok (.iconst 1, 1) := by decide +kernel
theorem dX8_movedBy_31 : decode cX8_movedBy 31 = .ok (.iadd, 1) := by decide +kernel
theorem dX8_movedBy_32 : decode cX8_movedBy 32 = .ok (.istore_n 2, 1) := by decide +kernel
theorem dX8_movedBy_33 : decode cX8_movedBy 33 = .ok (.iinc 3 1, 3) := by decide +kernel
theorem dX8_movedBy_36 : decode cX8_movedBy 36 = .ok (.goto (-32), 3) := by decide +kernel
theorem dX8_movedBy_39 : decode cX8_movedBy 39 = .ok (.iload_n 2, 1) := by decide +kernel
theorem dX8_movedBy_40 : decode cX8_movedBy 40 = .ok (.ireturn, 1) := by decide +kernel
theorem dX8_puts_0 : decode cX8_puts 0 = .ok (.aload_n 0, 1) := by decide +kernel
theorem dX8_puts_1 : decode cX8_puts 1 = .ok (.getfield 9, 3) := by decide +kernel
theorem dX8_puts_4 : decode cX8_puts 4 = .ok (.iconst 3, 1) := by decide +kernel
theorem dX8_puts_5 : decode cX8_puts 5 = .ok (.iload_n 2, 1) := by decide +kernel
theorem dX8_puts_6 : decode cX8_puts 6 = .ok (.iadd, 1) := by decide +kernel
theorem dX8_puts_7 : decode cX8_puts 7 = .ok (.iconst 1, 1) := by decide +kernel
theorem dX8_puts_8 : decode cX8_puts 8 = .ok (.iastore, 1) := by decide +kernel
theorem dX8_puts_9 : decode cX8_puts 9 = .ok (.aload_n 0, 1) := by decide +kernel
theorem dX8_puts_10 : decode cX8_puts 10 = .ok (.getfield 22, 3) := by decide +kernel
theorem dX8_puts_13 : decode cX8_puts 13 = .ok (.bipush 32, 2) := by decide +kernel
theorem dX8_puts_15 : decode cX8_puts 15 = .ok (.iload_n 1, 1) := by decide +kernel
theorem dX8_puts_16 : decode cX8_puts 16 = .ok (.imul, 1) := by decide +kernel
theorem dX8_puts_17 : decode cX8_puts 17 = .ok (.aload_n 0, 1) := by decide +kernel
theorem dX8_puts_18 : decode cX8_puts 18 = .ok (.getfield 9, 3) := by decide +kernel
theorem dX8_puts_21 : decode cX8_puts 21 = .ok (.sipush 192, 3) := by decide +kernel
theorem dX8_puts_24 : decode cX8_puts 24 = .ok (.bipush 32, 2) := by decide +kernel
theorem dX8_puts_26 : decode cX8_puts 26 = .ok (.iload_n 2, 1) := by decide +kernel
theorem dX8_puts_27 : decode cX8_puts 27 = .ok (.imul, 1) := by decide +kernel
theorem dX8_puts_28 : decode cX8_puts 28 = .ok (.iadd, 1) := by decide +kernel
theorem dX8_puts_29 : decode cX8_puts 29 = .ok (.bipush 32, 2) := by decide +kernel
theorem dX8_puts_31 : decode cX8_puts 31 = .ok (.invokestatic 45, 3) := by decide +kernel
theorem dX8_puts_34 : decode cX8_puts 34 = .ok (.aload_n 0, 1) := by decide +kernel
theorem dX8_puts_35 : decode cX8_puts 35 = .ok (.iload_n 1, 1) := by decide +kernel
theorem dX8_puts_36 : decode cX8_puts 36 = .ok (.invokevirtual 79, 3) := by decide +kernel
theorem dX8_puts_39 : decode cX8_puts 39 = .ok (.ireturn, 1) := by decide +kernel
theorem dX8_home_0 : decode cX8_home 0 = .ok (.iconst 0, 1) := by decide +kernel
theorem dX8_home_1 : decode cX8_home 1 = .ok (.istore_n 1, 1) := by decide +kernel
theorem dX8_home_2 : decode cX8_home 2 = .ok (.iconst 0, 1) := by decide +kernel
theorem dX8_home_3 : decode cX8_home 3 = .ok (.istore_n 2, 1) := by decide +kernel
theorem dX8_home_4 : decode cX8_home 4 = .ok (.iload_n 2, 1) := by decide +kernel
theorem dX8_home_5 : decode cX8_home 5 = .ok (.bipush 32, 2) := by decide +kernel
theorem dX8_home_7 : decode cX8_home 7 = .ok (.if_icmp .ge 30, 3) := by decide +kernel
theorem dX8_home_10 : decode cX8_home 10 = .ok (.iload_n 1, 1) := by decide +kernel
theorem dX8_home_11 : decode cX8_home 11 = .ok (.aload_n 0, 1) := by decide +kernel
theorem dX8_home_12 : decode cX8_home 12 = .ok (.getfield 9, 3) := by decide +kernel
theorem dX8_home_15 : decode cX8_home 15 = .ok (.bipush 8, 2) := by decide +kernel
theorem dX8_home_17 : decode cX8_home 17 = .ok (.iload_n 2, 1) := by decide +kernel
theorem dX8_home_18 : decode cX8_home 18 = .ok (.iadd, 1) := by decide +kernel
theorem dX8_home_19 : decode cX8_home 19 = .ok (.iaload, 1) := by decide +kernel
theorem dX8_home_20 : decode cX8_home 20 = .ok (.iload_n 2, 1) := by decide +kernel
theorem dX8_home_21 : decode cX8_home 21 = .ok (.if_icmp .ne 7, 3) := by decide +kernel
theorem dX8_home_24 : decode cX8_home 24 = .ok (.iconst 1, 1) := by decide +kernel
theorem dX8_home_25 : decode cX8_home 25 = .ok (.goto 4, 3) := by decide +kernel
theorem dX8_home_28 : decode cX8_home 28 = .ok (.iconst 0, 1) := by decide +kernel
theorem dX8_home_29 : decode cX8_home 29 = .ok (.iadd, 1) := by decide +kernel
theorem dX8_home_30 : decode cX8_home 30 = .ok (.istore_n 1, 1) := by decide +kernel
theorem dX8_home_31 : decode cX8_home 31 = .ok (.iinc 2 1, 3) := by decide +kernel
theorem dX8_home_34 : decode cX8_home 34 = .ok (.goto (-30), 3) := by decide +kernel
theorem dX8_home_37 : decode cX8_home 37 = .ok (.iload_n 1, 1) := by decide +kernel
theorem dX8_home_38 : decode cX8_home 38 = .ok (.ireturn, 1) := by decide +kernel
theorem dX8_moves_0 : decode cX8_moves 0 = .ok (.aload_n 0, 1) := by decide +kernel
theorem dX8_moves_1 : decode cX8_moves 1 = .ok (.iconst 0, 1) := by decide +kernel
theorem dX8_moves_2 : decode cX8_moves 2 = .ok (.putfield 60, 3) := by decide +kernel
theorem dX8_moves_5 : decode cX8_moves 5 = .ok (.aload_n 0, 1) := by decide +kernel
theorem dX8_moves_6 : decode cX8_moves 6 = .ok (.aload_n 0, 1) := by decide +kernel
theorem dX8_moves_7 : decode cX8_moves 7 = .ok (.iload_n 1, 1) := by decide +kernel
theorem dX8_moves_8 : decode cX8_moves 8 = .ok (.iload_n 2, 1) := by decide +kernel
theorem dX8_moves_9 : decode cX8_moves 9 = .ok (.iload_n 3, 1) := by decide +kernel
theorem dX8_moves_10 : decode cX8_moves 10 = .ok (.invokevirtual 82, 3) := by decide +kernel
theorem dX8_moves_13 : decode cX8_moves 13 = .ok (.invokevirtual 86, 3) := by decide +kernel
theorem dX8_moves_16 : decode cX8_moves 16 = .ok (.aload_n 0, 1) := by decide +kernel
theorem dX8_moves_17 : decode cX8_moves 17 = .ok (.getfield 9, 3) := by decide +kernel
theorem dX8_moves_20 : decode cX8_moves 20 = .ok (.iconst 1, 1) := by decide +kernel
theorem dX8_moves_21 : decode cX8_moves 21 = .ok (.dup2, 1) := by decide +kernel
theorem dX8_moves_22 : decode cX8_moves 22 = .ok (.iaload, 1) := by decide +kernel
theorem dX8_moves_23 : decode cX8_moves 23 = .ok (.iconst 1, 1) := by decide +kernel
theorem dX8_moves_24 : decode cX8_moves 24 = .ok (.iadd, 1) := by decide +kernel
theorem dX8_moves_25 : decode cX8_moves 25 = .ok (.iastore, 1) := by decide +kernel
theorem dX8_moves_26 : decode cX8_moves 26 = .ok (.aload_n 0, 1) := by decide +kernel
theorem dX8_moves_27 : decode cX8_moves 27 = .ok (.getfield 9, 3) := by decide +kernel
theorem dX8_moves_30 : decode cX8_moves 30 = .ok (.iconst 0, 1) := by decide +kernel
theorem dX8_moves_31 : decode cX8_moves 31 = .ok (.iaload, 1) := by decide +kernel
theorem dX8_moves_32 : decode cX8_moves 32 = .ok (.bipush 40, 2) := by decide +kernel
theorem dX8_moves_34 : decode cX8_moves 34 = .ok (.if_icmp .ne 30, 3) := by decide +kernel
theorem dX8_moves_37 : decode cX8_moves 37 = .ok (.aload_n 0, 1) := by decide +kernel
theorem dX8_moves_38 : decode cX8_moves 38 = .ok (.getfield 9, 3) := by decide +kernel
theorem dX8_moves_41 : decode cX8_moves 41 = .ok (.bipush 75, 2) := by decide +kernel
theorem dX8_moves_43 : decode cX8_moves 43 = .ok (.aload_n 0, 1) := by decide +kernel
theorem dX8_moves_44 : decode cX8_moves 44 = .ok (.getfield 9, 3) := by decide +kernel
theorem dX8_moves_47 : decode cX8_moves 47 = .ok (.bipush 72, 2) := by decide +kernel
theorem dX8_moves_49 : decode cX8_moves 49 = .ok (.bipush 117, 2) := by decide +kernel
theorem dX8_moves_51 : decode cX8_moves 51 = .ok (.invokestatic 45, 3) := by decide +kernel
theorem dX8_moves_54 : decode cX8_moves 54 = .ok (.aload_n 0, 1) := by decide +kernel
theorem dX8_moves_55 : decode cX8_moves 55 = .ok (.getfield 9, 3) := by decide +kernel
theorem dX8_moves_58 : decode cX8_moves 58 = .ok (.iconst 0, 1) := by decide +kernel
theorem dX8_moves_59 : decode cX8_moves 59 = .ok (.dup2, 1) := by decide +kernel
theorem dX8_moves_60 : decode cX8_moves 60 = .ok (.iaload, 1) := by decide +kernel
theorem dX8_moves_61 : decode cX8_moves 61 = .ok (.iconst 1, 1) := by decide +kernel
theorem dX8_moves_62 : decode cX8_moves 62 = .ok (.isub, 1) := by decide +kernel
theorem dX8_moves_63 : decode cX8_moves 63 = .ok (.iastore, 1) := by decide +kernel
theorem dX8_moves_64 : decode cX8_moves 64 = .ok (.bipush 72, 2) := by decide +kernel
theorem dX8_moves_66 : decode cX8_moves 66 = .ok (.iconst 3, 1) := by decide +kernel
theorem dX8_moves_67 : decode cX8_moves 67 = .ok (.aload_n 0, 1) := by decide +kernel
theorem dX8_moves_68 : decode cX8_moves 68 = .ok (.getfield 9, 3) := by decide +kernel
theorem dX8_moves_71 : decode cX8_moves 71 = .ok (.iconst 0, 1) := by decide +kernel
theorem dX8_moves_72 : decode cX8_moves 72 = .ok (.iaload, 1) := by decide +kernel
theorem dX8_moves_73 : decode cX8_moves 73 = .ok (.imul, 1) := by decide +kernel
theorem dX8_moves_74 : decode cX8_moves 74 = .ok (.iadd, 1) := by decide +kernel
theorem dX8_moves_75 : decode cX8_moves 75 = .ok (.istore 4, 2) := by decide +kernel
theorem dX8_moves_77 : decode cX8_moves 77 = .ok (.aload_n 0, 1) := by decide +kernel
theorem dX8_moves_78 : decode cX8_moves 78 = .ok (.getfield 9, 3) := by decide +kernel
theorem dX8_moves_81 : decode cX8_moves 81 = .ok (.iload 4, 2) := by decide +kernel
theorem dX8_moves_83 : decode cX8_moves 83 = .ok (.iload_n 1, 1) := by decide +kernel
theorem dX8_moves_84 : decode cX8_moves 84 = .ok (.ifCond .eq 7, 3) := by decide +kernel
theorem dX8_moves_87 : decode cX8_moves 87 = .ok (.iconst 1, 1) := by decide +kernel
theorem dX8_moves_88 : decode cX8_moves 88 = .ok (.goto 4, 3) := by decide +kernel
theorem dX8_moves_91 : decode cX8_moves 91 = .ok (.iconst 0, 1) := by decide +kernel
theorem dX8_moves_92 : decode cX8_moves 92 = .ok (.iastore, 1) := by decide +kernel
theorem dX8_moves_93 : decode cX8_moves 93 = .ok (.aload_n 0, 1) := by decide +kernel
theorem dX8_moves_94 : decode cX8_moves 94 = .ok (.getfield 9, 3) := by decide +kernel
theorem dX8_moves_97 : decode cX8_moves 97 = .ok (.iload 4, 2) := by decide +kernel
theorem dX8_moves_99 : decode cX8_moves 99 = .ok (.iconst 1, 1) := by decide +kernel
theorem dX8_moves_100 : decode cX8_moves 100 = .ok (.iadd, 1) := by decide +kernel
theorem dX8_moves_101 : decode cX8_moves 101 = .ok (.iload_n 2, 1) := by decide +kernel
theorem dX8_moves_102 : decode cX8_moves 102 = .ok (.iastore, 1) := by decide +kernel
theorem dX8_moves_103 : decode cX8_moves 103 = .ok (.aload_n 0, 1) := by decide +kernel
theorem dX8_moves_104 : decode cX8_moves 104 = .ok (.getfield 9, 3) := by decide +kernel
theorem dX8_moves_107 : decode cX8_moves 107 = .ok (.iload 4, 2) := by decide +kernel
theorem dX8_moves_109 : decode cX8_moves 109 = .ok (.iconst 2, 1) := by decide +kernel
theorem dX8_moves_110 : decode cX8_moves 110 = .ok (.iadd, 1) := by decide +kernel
theorem dX8_moves_111 : decode cX8_moves 111 = .ok (.iload_n 3, 1) := by decide +kernel
theorem dX8_moves_112 : decode cX8_moves 112 = .ok (.iastore, 1) := by decide +kernel
theorem dX8_moves_113 : decode cX8_moves 113 = .ok (.aload_n 0, 1) := by decide +kernel
theorem dX8_moves_114 : decode cX8_moves 114 = .ok (.getfield 9, 3) := by decide +kernel
theorem dX8_moves_117 : decode cX8_moves 117 = .ok (.iconst 0, 1) := by decide +kernel
theorem dX8_moves_118 : decode cX8_moves 118 = .ok (.dup2, 1) := by decide +kernel
theorem dX8_moves_119 : decode cX8_moves 119 = .ok (.iaload, 1) := by decide +kernel
theorem dX8_moves_120 : decode cX8_moves 120 = .ok (.iconst 1, 1) := by decide +kernel
theorem dX8_moves_121 : decode cX8_moves 121 = .ok (.iadd, 1) := by decide +kernel
theorem dX8_moves_122 : decode cX8_moves 122 = .ok (.iastore, 1) := by decide +kernel
theorem dX8_moves_123 : decode cX8_moves 123 = .ok (.return_, 1) := by decide +kernel
theorem dX8_turn_0 : decode cX8_turn 0 = .ok (.aload_n 0, 1) := by decide +kernel
theorem dX8_turn_1 : decode cX8_turn 1 = .ok (.invokevirtual 90, 3) := by decide +kernel
theorem dX8_turn_4 : decode cX8_turn 4 = .ok (.iload_n 1, 1) := by decide +kernel
theorem dX8_turn_5 : decode cX8_turn 5 = .ok (.iconst 0, 1) := by decide +kernel
theorem dX8_turn_6 : decode cX8_turn 6 = .ok (.iconst 3, 1) := by decide +kernel
theorem dX8_turn_7 : decode cX8_turn 7 = .ok (.invokestatic 93, 3) := by decide +kernel
theorem dX8_turn_10 : decode cX8_turn 10 = .ok (.ifCond .ne 13, 3) := by decide +kernel
theorem dX8_turn_13 : decode cX8_turn 13 = .ok (.aload_n 0, 1) := by decide +kernel
theorem dX8_turn_14 : decode cX8_turn 14 = .ok (.aload_n 0, 1) := by decide +kernel
theorem dX8_turn_15 : decode cX8_turn 15 = .ok (.iconst 1, 1) := by decide +kernel
theorem dX8_turn_16 : decode cX8_turn 16 = .ok (.invokevirtual 97, 3) := by decide +kernel
theorem dX8_turn_19 : decode cX8_turn 19 = .ok (.invokevirtual 100, 3) := by decide +kernel
theorem dX8_turn_22 : decode cX8_turn 22 = .ok (.ireturn, 1) := by decide +kernel
theorem dX8_turn_23 : decode cX8_turn 23 = .ok (.iload_n 2, 1) := by decide +kernel
theorem dX8_turn_24 : decode cX8_turn 24 = .ok (.iconst 1, 1) := by decide +kernel
theorem dX8_turn_25 : decode cX8_turn 25 = .ok (.bipush 7, 2) := by decide +kernel
theorem dX8_turn_27 : decode cX8_turn 27 = .ok (.invokestatic 93, 3) := by decide +kernel
theorem dX8_turn_30 : decode cX8_turn 30 = .ok (.ifCond .ne 13, 3) := by decide +kernel
theorem dX8_turn_33 : decode cX8_turn 33 = .ok (.aload_n 0, 1) := by decide +kernel
theorem dX8_turn_34 : decode cX8_turn 34 = .ok (.aload_n 0, 1) := by decide +kernel
theorem dX8_turn_35 : decode cX8_turn 35 = .ok (.iconst 2, 1) := by decide +kernel
theorem dX8_turn_36 : decode cX8_turn 36 = .ok (.invokevirtual 97, 3) := by decide +kernel
theorem dX8_turn_39 : decode cX8_turn 39 = .ok (.invokevirtual 100, 3) := by decide +kernel
theorem dX8_turn_42 : decode cX8_turn 42 = .ok (.ireturn, 1) := by decide +kernel
theorem dX8_turn_43 : decode cX8_turn 43 = .ok (.aload_n 0, 1) := by decide +kernel
theorem dX8_turn_44 : decode cX8_turn 44 = .ok (.iconst 0, 1) := by decide +kernel
theorem dX8_turn_45 : decode cX8_turn 45 = .ok (.iload_n 1, 1) := by decide +kernel
theorem dX8_turn_46 : decode cX8_turn 46 = .ok (.iload_n 2, 1) := by decide +kernel
theorem dX8_turn_47 : decode cX8_turn 47 = .ok (.invokevirtual 103, 3) := by decide +kernel
theorem dX8_turn_50 : decode cX8_turn 50 = .ok (.aload_n 0, 1) := by decide +kernel
theorem dX8_turn_51 : decode cX8_turn 51 = .ok (.aload_n 0, 1) := by decide +kernel
theorem dX8_turn_52 : decode cX8_turn 52 = .ok (.invokevirtual 107, 3) := by decide +kernel
theorem dX8_turn_55 : decode cX8_turn 55 = .ok (.invokevirtual 100, 3) := by decide +kernel
theorem dX8_turn_58 : decode cX8_turn 58 = .ok (.ireturn, 1) := by decide +kernel
theorem dX8_shift_0 : decode cX8_shift 0 = .ok (.aload_n 0, 1) := by decide +kernel
theorem dX8_shift_1 : decode cX8_shift 1 = .ok (.invokevirtual 90, 3) := by decide +kernel
theorem dX8_shift_4 : decode cX8_shift 4 = .ok (.iload_n 1, 1) := by decide +kernel
theorem dX8_shift_5 : decode cX8_shift 5 = .ok (.iconst 0, 1) := by decide +kernel
theorem dX8_shift_6 : decode cX8_shift 6 = .ok (.bipush 7, 2) := by decide +kernel
theorem dX8_shift_8 : decode cX8_shift 8 = .ok (.invokestatic 93, 3) := by decide +kernel
theorem dX8_shift_11 : decode cX8_shift 11 = .ok (.ifCond .ne 13, 3) := by decide +kernel
theorem dX8_shift_14 : decode cX8_shift 14 = .ok (.aload_n 0, 1) := by decide +kernel
theorem dX8_shift_15 : decode cX8_shift 15 = .ok (.aload_n 0, 1) := by decide +kernel
theorem dX8_shift_16 : decode cX8_shift 16 = .ok (.iconst 1, 1) := by decide +kernel
theorem dX8_shift_17 : decode cX8_shift 17 = .ok (.invokevirtual 97, 3) := by decide +kernel
theorem dX8_shift_20 : decode cX8_shift 20 = .ok (.invokevirtual 100, 3) := by decide +kernel
theorem dX8_shift_23 : decode cX8_shift 23 = .ok (.ireturn, 1) := by decide +kernel
theorem dX8_shift_24 : decode cX8_shift 24 = .ok (.iload_n 2, 1) := by decide +kernel
theorem dX8_shift_25 : decode cX8_shift 25 = .ok (.iconst 1, 1) := by decide +kernel
theorem dX8_shift_26 : decode cX8_shift 26 = .ok (.iconst 3, 1) := by decide +kernel
theorem dX8_shift_27 : decode cX8_shift 27 = .ok (.invokestatic 93, 3) := by decide +kernel
theorem dX8_shift_30 : decode cX8_shift 30 = .ok (.ifCond .ne 13, 3) := by decide +kernel
theorem dX8_shift_33 : decode cX8_shift 33 = .ok (.aload_n 0, 1) := by decide +kernel
theorem dX8_shift_34 : decode cX8_shift 34 = .ok (.aload_n 0, 1) := by decide +kernel
theorem dX8_shift_35 : decode cX8_shift 35 = .ok (.iconst 2, 1) := by decide +kernel
theorem dX8_shift_36 : decode cX8_shift 36 = .ok (.invokevirtual 97, 3) := by decide +kernel
theorem dX8_shift_39 : decode cX8_shift 39 = .ok (.invokevirtual 100, 3) := by decide +kernel
theorem dX8_shift_42 : decode cX8_shift 42 = .ok (.ireturn, 1) := by decide +kernel
theorem dX8_shift_43 : decode cX8_shift 43 = .ok (.aload_n 0, 1) := by decide +kernel
theorem dX8_shift_44 : decode cX8_shift 44 = .ok (.iconst 1, 1) := by decide +kernel
theorem dX8_shift_45 : decode cX8_shift 45 = .ok (.iload_n 1, 1) := by decide +kernel
theorem dX8_shift_46 : decode cX8_shift 46 = .ok (.iload_n 2, 1) := by decide +kernel
theorem dX8_shift_47 : decode cX8_shift 47 = .ok (.invokevirtual 103, 3) := by decide +kernel
theorem dX8_shift_50 : decode cX8_shift 50 = .ok (.aload_n 0, 1) := by decide +kernel
theorem dX8_shift_51 : decode cX8_shift 51 = .ok (.aload_n 0, 1) := by decide +kernel
theorem dX8_shift_52 : decode cX8_shift 52 = .ok (.invokevirtual 107, 3) := by decide +kernel
theorem dX8_shift_55 : decode cX8_shift 55 = .ok (.invokevirtual 100, 3) := by decide +kernel
theorem dX8_shift_58 : decode cX8_shift 58 = .ok (.ireturn, 1) := by decide +kernel
theorem dX8_back_0 : decode cX8_back 0 = .ok (.aload_n 0, 1) := by decide +kernel
theorem dX8_back_1 : decode cX8_back 1 = .ok (.invokevirtual 90, 3) := by decide +kernel
theorem dX8_back_4 : decode cX8_back 4 = .ok (.aload_n 0, 1) := by decide +kernel
theorem dX8_back_5 : decode cX8_back 5 = .ok (.getfield 9, 3) := by decide +kernel
theorem dX8_back_8 : decode cX8_back 8 = .ok (.iconst 0, 1) := by decide +kernel
theorem dX8_back_9 : decode cX8_back 9 = .ok (.iaload, 1) := by decide +kernel
theorem dX8_back_10 : decode cX8_back 10 = .ok (.ifCond .ne 15, 3) := by decide +kernel
theorem dX8_back_13 : decode cX8_back 13 = .ok (.aload_n 0, 1) := by decide +kernel
