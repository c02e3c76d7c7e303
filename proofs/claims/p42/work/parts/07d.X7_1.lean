/-! ===== printed: decode rows of X7 ===== -/
theorem dX7_init_0 : decode cX7_init 0 = .ok (.aload_n 0, 1) := by decide +kernel
theorem dX7_init_1 : decode cX7_init 1 = .ok (.invokespecial 1, 3) := by decide +kernel
theorem dX7_init_4 : decode cX7_init 4 = .ok (.aload_n 0, 1) := by decide +kernel
theorem dX7_init_5 : decode cX7_init 5 = .ok (.new 7, 3) := by decide +kernel
theorem dX7_init_8 : decode cX7_init 8 = .ok (.dup, 1) := by decide +kernel
theorem dX7_init_9 : decode cX7_init 9 = .ok (.invokespecial 9, 3) := by decide +kernel
theorem dX7_init_12 : decode cX7_init 12 = .ok (.putfield 10, 3) := by decide +kernel
theorem dX7_init_15 : decode cX7_init 15 = .ok (.aload_n 0, 1) := by decide +kernel
theorem dX7_init_16 : decode cX7_init 16 = .ok (.new 16, 3) := by decide +kernel
theorem dX7_init_19 : decode cX7_init 19 = .ok (.dup, 1) := by decide +kernel
theorem dX7_init_20 : decode cX7_init 20 = .ok (.invokespecial 18, 3) := by decide +kernel
theorem dX7_init_23 : decode cX7_init 23 = .ok (.putfield 19, 3) := by decide +kernel
theorem dX7_init_26 : decode cX7_init 26 = .ok (.aload_n 0, 1) := by decide +kernel
theorem dX7_init_27 : decode cX7_init 27 = .ok (.new 7, 3) := by decide +kernel
theorem dX7_init_30 : decode cX7_init 30 = .ok (.dup, 1) := by decide +kernel
theorem dX7_init_31 : decode cX7_init 31 = .ok (.invokespecial 9, 3) := by decide +kernel
theorem dX7_init_34 : decode cX7_init 34 = .ok (.putfield 23, 3) := by decide +kernel
theorem dX7_init_37 : decode cX7_init 37 = .ok (.aload_n 0, 1) := by decide +kernel
theorem dX7_init_38 : decode cX7_init 38 = .ok (.iconst 0, 1) := by decide +kernel
theorem dX7_init_39 : decode cX7_init 39 = .ok (.putfield 26, 3) := by decide +kernel
theorem dX7_init_42 : decode cX7_init 42 = .ok (.aload_n 0, 1) := by decide +kernel
theorem dX7_init_43 : decode cX7_init 43 = .ok (.new 30, 3) := by decide +kernel
theorem dX7_init_46 : decode cX7_init 46 = .ok (.dup, 1) := by decide +kernel
theorem dX7_init_47 : decode cX7_init 47 = .ok (.invokespecial 32, 3) := by decide +kernel
theorem dX7_init_50 : decode cX7_init 50 = .ok (.putfield 33, 3) := by decide +kernel
theorem dX7_init_53 : decode cX7_init 53 = .ok (.aload_n 0, 1) := by decide +kernel
theorem dX7_init_54 : decode cX7_init 54 = .ok (.new 37, 3) := by decide +kernel
theorem dX7_init_57 : decode cX7_init 57 = .ok (.dup, 1) := by decide +kernel
theorem dX7_init_58 : decode cX7_init 58 = .ok (.invokespecial 39, 3) := by decide +kernel
theorem dX7_init_61 : decode cX7_init 61 = .ok (.putfield 40, 3) := by decide +kernel
theorem dX7_init_64 : decode cX7_init 64 = .ok (.aload_n 0, 1) := by decide +kernel
theorem dX7_init_65 : decode cX7_init 65 = .ok (.new 44, 3) := by decide +kernel
theorem dX7_init_68 : decode cX7_init 68 = .ok (.dup, 1) := by decide +kernel
theorem dX7_init_69 : decode cX7_init 69 = .ok (.invokespecial 46, 3) := by decide +kernel
theorem dX7_init_72 : decode cX7_init 72 = .ok (.putfield 47, 3) := by decide +kernel
theorem dX7_init_75 : decode cX7_init 75 = .ok (.aload_n 0, 1) := by decide +kernel
theorem dX7_init_76 : decode cX7_init 76 = .ok (.new 44, 3) := by decide +kernel
theorem dX7_init_79 : decode cX7_init 79 = .ok (.dup, 1) := by decide +kernel
theorem dX7_init_80 : decode cX7_init 80 = .ok (.invokespecial 46, 3) := by decide +kernel
theorem dX7_init_83 : decode cX7_init 83 = .ok (.putfield 51, 3) := by decide +kernel
theorem dX7_init_86 : decode cX7_init 86 = .ok (.aload_n 0, 1) := by decide +kernel
theorem dX7_init_87 : decode cX7_init 87 = .ok (.iconst (-1), 1) := by decide +kernel
theorem dX7_init_88 : decode cX7_init 88 = .ok (.putfield 54, 3) := by decide +kernel
theorem dX7_init_91 : decode cX7_init 91 = .ok (.aload_n 0, 1) := by decide +kernel
theorem dX7_init_92 : decode cX7_init 92 = .ok (.iconst (-1), 1) := by decide +kernel
theorem dX7_init_93 : decode cX7_init 93 = .ok (.putfield 58, 3) := by decide +kernel
theorem dX7_init_96 : decode cX7_init 96 = .ok (.aload_n 0, 1) := by decide +kernel
theorem dX7_init_97 : decode cX7_init 97 = .ok (.iconst 0, 1) := by decide +kernel
theorem dX7_init_98 : decode cX7_init 98 = .ok (.putfield 61, 3) := by decide +kernel
theorem dX7_init_101 : decode cX7_init 101 = .ok (.return_, 1) := by decide +kernel
theorem dX7_turn_0 : decode cX7_turn 0 = .ok (.iload_n 1, 1) := by decide +kernel
theorem dX7_turn_1 : decode cX7_turn 1 = .ok (.invokestatic 64, 3) := by decide +kernel
theorem dX7_turn_4 : decode cX7_turn 4 = .ok (.iload_n 2, 1) := by decide +kernel
theorem dX7_turn_5 : decode cX7_turn 5 = .ok (.iconst 1, 1) := by decide +kernel
theorem dX7_turn_6 : decode cX7_turn 6 = .ok (.bipush 7, 2) := by decide +kernel
theorem dX7_turn_8 : decode cX7_turn 8 = .ok (.invokestatic 68, 3) := by decide +kernel
theorem dX7_turn_11 : decode cX7_turn 11 = .ok (.aload_n 0, 1) := by decide +kernel
theorem dX7_turn_12 : decode cX7_turn 12 = .ok (.getfield 19, 3) := by decide +kernel
theorem dX7_turn_15 : decode cX7_turn 15 = .ok (.aload_n 0, 1) := by decide +kernel
theorem dX7_turn_16 : decode cX7_turn 16 = .ok (.getfield 10, 3) := by decide +kernel
theorem dX7_turn_19 : decode cX7_turn 19 = .ok (.invokevirtual 72, 3) := by decide +kernel
theorem dX7_turn_22 : decode cX7_turn 22 = .ok (.aload_n 0, 1) := by decide +kernel
theorem dX7_turn_23 : decode cX7_turn 23 = .ok (.iconst 0, 1) := by decide +kernel
theorem dX7_turn_24 : decode cX7_turn 24 = .ok (.iload_n 1, 1) := by decide +kernel
theorem dX7_turn_25 : decode cX7_turn 25 = .ok (.iload_n 2, 1) := by decide +kernel
theorem dX7_turn_26 : decode cX7_turn 26 = .ok (.invokevirtual 76, 3) := by decide +kernel
theorem dX7_turn_29 : decode cX7_turn 29 = .ok (.aload_n 0, 1) := by decide +kernel
theorem dX7_turn_30 : decode cX7_turn 30 = .ok (.getfield 10, 3) := by decide +kernel
theorem dX7_turn_33 : decode cX7_turn 33 = .ok (.getfield 79, 3) := by decide +kernel
theorem dX7_turn_36 : decode cX7_turn 36 = .ok (.invokevirtual 83, 3) := by decide +kernel
theorem dX7_turn_39 : decode cX7_turn 39 = .ok (.ireturn, 1) := by decide +kernel
theorem dX7_shift_0 : decode cX7_shift 0 = .ok (.iload_n 1, 1) := by decide +kernel
theorem dX7_shift_1 : decode cX7_shift 1 = .ok (.bipush 8, 2) := by decide +kernel
theorem dX7_shift_3 : decode cX7_shift 3 = .ok (.invokestatic 89, 3) := by decide +kernel
theorem dX7_shift_6 : decode cX7_shift 6 = .ok (.iload_n 2, 1) := by decide +kernel
theorem dX7_shift_7 : decode cX7_shift 7 = .ok (.iconst 1, 1) := by decide +kernel
theorem dX7_shift_8 : decode cX7_shift 8 = .ok (.iconst 3, 1) := by decide +kernel
theorem dX7_shift_9 : decode cX7_shift 9 = .ok (.invokestatic 68, 3) := by decide +kernel
theorem dX7_shift_12 : decode cX7_shift 12 = .ok (.aload_n 0, 1) := by decide +kernel
theorem dX7_shift_13 : decode cX7_shift 13 = .ok (.getfield 19, 3) := by decide +kernel
theorem dX7_shift_16 : decode cX7_shift 16 = .ok (.aload_n 0, 1) := by decide +kernel
theorem dX7_shift_17 : decode cX7_shift 17 = .ok (.getfield 10, 3) := by decide +kernel
theorem dX7_shift_20 : decode cX7_shift 20 = .ok (.invokevirtual 72, 3) := by decide +kernel
theorem dX7_shift_23 : decode cX7_shift 23 = .ok (.aload_n 0, 1) := by decide +kernel
theorem dX7_shift_24 : decode cX7_shift 24 = .ok (.iconst 1, 1) := by decide +kernel
theorem dX7_shift_25 : decode cX7_shift 25 = .ok (.iload_n 1, 1) := by decide +kernel
theorem dX7_shift_26 : decode cX7_shift 26 = .ok (.iload_n 2, 1) := by decide +kernel
theorem dX7_shift_27 : decode cX7_shift 27 = .ok (.invokevirtual 76, 3) := by decide +kernel
theorem dX7_shift_30 : decode cX7_shift 30 = .ok (.aload_n 0, 1) := by decide +kernel
theorem dX7_shift_31 : decode cX7_shift 31 = .ok (.getfield 10, 3) := by decide +kernel
theorem dX7_shift_34 : decode cX7_shift 34 = .ok (.getfield 79, 3) := by decide +kernel
theorem dX7_shift_37 : decode cX7_shift 37 = .ok (.invokevirtual 83, 3) := by decide +kernel
theorem dX7_shift_40 : decode cX7_shift 40 = .ok (.ireturn, 1) := by decide +kernel
theorem dX7_back_0 : decode cX7_back 0 = .ok (.aload_n 0, 1) := by decide +kernel
theorem dX7_back_1 : decode cX7_back 1 = .ok (.getfield 10, 3) := by decide +kernel
theorem dX7_back_4 : decode cX7_back 4 = .ok (.getfield 93, 3) := by decide +kernel
theorem dX7_back_7 : decode cX7_back 7 = .ok (.invokevirtual 97, 3) := by decide +kernel
theorem dX7_back_10 : decode cX7_back 10 = .ok (.iconst 1, 1) := by decide +kernel
theorem dX7_back_11 : decode cX7_back 11 = .ok (.isub, 1) := by decide +kernel
theorem dX7_back_12 : decode cX7_back 12 = .ok (.istore_n 1, 1) := by decide +kernel
theorem dX7_back_13 : decode cX7_back 13 = .ok (.iload_n 1, 1) := by decide +kernel
theorem dX7_back_14 : decode cX7_back 14 = .ok (.ifCond .ge 9, 3) := by decide +kernel
theorem dX7_back_17 : decode cX7_back 17 = .ok (.aload_n 0, 1) := by decide +kernel
theorem dX7_back_18 : decode cX7_back 18 = .ok (.iconst 1, 1) := by decide +kernel
theorem dX7_back_19 : decode cX7_back 19 = .ok (.iconst 0, 1) := by decide +kernel
theorem dX7_back_20 : decode cX7_back 20 = .ok (.invokevirtual 102, 3) := by decide +kernel
theorem dX7_back_23 : decode cX7_back 23 = .ok (.aload_n 0, 1) := by decide +kernel
theorem dX7_back_24 : decode cX7_back 24 = .ok (.getfield 19, 3) := by decide +kernel
theorem dX7_back_27 : decode cX7_back 27 = .ok (.aload_n 0, 1) := by decide +kernel
theorem dX7_back_28 : decode cX7_back 28 = .ok (.getfield 10, 3) := by decide +kernel
theorem dX7_back_31 : decode cX7_back 31 = .ok (.invokevirtual 72, 3) := by decide +kernel
theorem dX7_back_34 : decode cX7_back 34 = .ok (.aload_n 0, 1) := by decide +kernel
theorem dX7_back_35 : decode cX7_back 35 = .ok (.getfield 10, 3) := by decide +kernel
theorem dX7_back_38 : decode cX7_back 38 = .ok (.getfield 93, 3) := by decide +kernel
theorem dX7_back_41 : decode cX7_back 41 = .ok (.iload_n 1, 1) := by decide +kernel
theorem dX7_back_42 : decode cX7_back 42 = .ok (.iconst 0, 1) := by decide +kernel
theorem dX7_back_43 : decode cX7_back 43 = .ok (.invokevirtual 105, 3) := by decide +kernel
theorem dX7_back_46 : decode cX7_back 46 = .ok (.istore_n 2, 1) := by decide +kernel
theorem dX7_back_47 : decode cX7_back 47 = .ok (.aload_n 0, 1) := by decide +kernel
theorem dX7_back_48 : decode cX7_back 48 = .ok (.iload_n 2, 1) := by decide +kernel
theorem dX7_back_49 : decode cX7_back 49 = .ok (.aload_n 0, 1) := by decide +kernel
theorem dX7_back_50 : decode cX7_back 50 = .ok (.getfield 10, 3) := by decide +kernel
theorem dX7_back_53 : decode cX7_back 53 = .ok (.getfield 93, 3) := by decide +kernel
theorem dX7_back_56 : decode cX7_back 56 = .ok (.iload_n 1, 1) := by decide +kernel
theorem dX7_back_57 : decode cX7_back 57 = .ok (.iconst 1, 1) := by decide +kernel
theorem dX7_back_58 : decode cX7_back 58 = .ok (.invokevirtual 105, 3) := by decide +kernel
theorem dX7_back_61 : decode cX7_back 61 = .ok (.iload_n 2, 1) := by decide +kernel
theorem dX7_back_62 : decode cX7_back 62 = .ok (.invokestatic 109, 3) := by decide +kernel
theorem dX7_back_65 : decode cX7_back 65 = .ok (.aload_n 0, 1) := by decide +kernel
theorem dX7_back_66 : decode cX7_back 66 = .ok (.getfield 10, 3) := by decide +kernel
theorem dX7_back_69 : decode cX7_back 69 = .ok (.getfield 93, 3) := by decide +kernel
theorem dX7_back_72 : decode cX7_back 72 = .ok (.iload_n 1, 1) := by decide +kernel
theorem dX7_back_73 : decode cX7_back 73 = .ok (.iconst 2, 1) := by decide +kernel
theorem dX7_back_74 : decode cX7_back 74 = .ok (.invokevirtual 105, 3) := by decide +kernel
theorem dX7_back_77 : decode cX7_back 77 = .ok (.isub, 1) := by decide +kernel
theorem dX7_back_78 : decode cX7_back 78 = .ok (.invokevirtual 113, 3) := by decide +kernel
theorem dX7_back_81 : decode cX7_back 81 = .ok (.aload_n 0, 1) := by decide +kernel
theorem dX7_back_82 : decode cX7_back 82 = .ok (.getfield 10, 3) := by decide +kernel
theorem dX7_back_85 : decode cX7_back 85 = .ok (.getfield 93, 3) := by decide +kernel
theorem dX7_back_88 : decode cX7_back 88 = .ok (.invokevirtual 116, 3) := by decide +kernel
theorem dX7_back_91 : decode cX7_back 91 = .ok (.aload_n 0, 1) := by decide +kernel
theorem dX7_back_92 : decode cX7_back 92 = .ok (.getfield 10, 3) := by decide +kernel
theorem dX7_back_95 : decode cX7_back 95 = .ok (.getfield 93, 3) := by decide +kernel
theorem dX7_back_98 : decode cX7_back 98 = .ok (.invokevirtual 97, 3) := by decide +kernel
theorem dX7_back_101 : decode cX7_back 101 = .ok (.ireturn, 1) := by decide +kernel
theorem dX7_scramble_0 : decode cX7_scramble 0 = .ok (.iload_n 1, 1) := by decide +kernel
theorem dX7_scramble_1 : decode cX7_scramble 1 = .ok (.iconst 0, 1) := by decide +kernel
theorem dX7_scramble_2 : decode cX7_scramble 2 = .ok (.sipush 9999, 3) := by decide +kernel
theorem dX7_scramble_5 : decode cX7_scramble 5 = .ok (.invokestatic 68, 3) := by decide +kernel
theorem dX7_scramble_8 : decode cX7_scramble 8 = .ok (.iload_n 2, 1) := by decide +kernel
theorem dX7_scramble_9 : decode cX7_scramble 9 = .ok (.iconst 1, 1) := by decide +kernel
theorem dX7_scramble_10 : decode cX7_scramble 10 = .ok (.bipush 60, 2) := by decide +kernel
theorem dX7_scramble_12 : decode cX7_scramble 12 = .ok (.invokestatic 68, 3) := by decide +kernel
theorem dX7_scramble_15 : decode cX7_scramble 15 = .ok (.aload_n 0, 1) := by decide +kernel
theorem dX7_scramble_16 : decode cX7_scramble 16 = .ok (.getfield 19, 3) := by decide +kernel
theorem dX7_scramble_19 : decode cX7_scramble 19 = .ok (.aload_n 0, 1) := by decide +kernel
theorem dX7_scramble_20 : decode cX7_scramble 20 = .ok (.getfield 10, 3) := by decide +kernel
theorem dX7_scramble_23 : decode cX7_scramble 23 = .ok (.invokevirtual 72, 3) := by decide +kernel
theorem dX7_scramble_26 : decode cX7_scramble 26 = .ok (.iload_n 1, 1) := by decide +kernel
theorem dX7_scramble_27 : decode cX7_scramble 27 = .ok (.iconst 1, 1) := by decide +kernel
theorem dX7_scramble_28 : decode cX7_scramble 28 = .ok (.iadd, 1) := by decide +kernel
theorem dX7_scramble_29 : decode cX7_scramble 29 = .ok (.istore_n 3, 1) := by decide +kernel
theorem dX7_scramble_30 : decode cX7_scramble 30 = .ok (.iconst 0, 1) := by decide +kernel
theorem dX7_scramble_31 : decode cX7_scramble 31 = .ok (.istore 4, 2) := by decide +kernel
theorem dX7_scramble_33 : decode cX7_scramble 33 = .ok (.iload 4, 2) := by decide +kernel
theorem dX7_scramble_35 : decode cX7_scramble 35 = .ok (.iload_n 2, 1) := by decide +kernel
theorem dX7_scramble_36 : decode cX7_scramble 36 = .ok (.if_icmp .ge 67, 3) := by decide +kernel
theorem dX7_scramble_39 : decode cX7_scramble 39 = .ok (.bipush 75, 2) := by decide +kernel
theorem dX7_scramble_41 : decode cX7_scramble 41 = .ok (.iload_n 3, 1) := by decide +kernel
theorem dX7_scramble_42 : decode cX7_scramble 42 = .ok (.imul, 1) := by decide +kernel
theorem dX7_scramble_43 : decode cX7_scramble 43 = .ok (.bipush 74, 2) := by decide +kernel
theorem dX7_scramble_45 : decode cX7_scramble 45 = .ok (.iadd, 1) := by decide +kernel
theorem dX7_scramble_46 : decode cX7_scramble 46 = .ok (.ldc 119, 2) := by decide +kernel
theorem dX7_scramble_48 : decode cX7_scramble 48 = .ok (.irem, 1) := by decide +kernel
theorem dX7_scramble_49 : decode cX7_scramble 49 = .ok (.istore_n 3, 1) := by decide +kernel
theorem dX7_scramble_50 : decode cX7_scramble 50 = .ok (.iload_n 3, 1) := by decide +kernel
theorem dX7_scramble_51 : decode cX7_scramble 51 = .ok (.iconst 2, 1) := by decide +kernel
theorem dX7_scramble_52 : decode cX7_scramble 52 = .ok (.irem, 1) := by decide +kernel
theorem dX7_scramble_53 : decode cX7_scramble 53 = .ok (.ifCond .ne 25, 3) := by decide +kernel
theorem dX7_scramble_56 : decode cX7_scramble 56 = .ok (.aload_n 0, 1) := by decide +kernel
theorem dX7_scramble_57 : decode cX7_scramble 57 = .ok (.iconst 0, 1) := by decide +kernel
theorem dX7_scramble_58 : decode cX7_scramble 58 = .ok (.iload_n 3, 1) := by decide +kernel
theorem dX7_scramble_59 : decode cX7_scramble 59 = .ok (.iconst 2, 1) := by decide +kernel
theorem dX7_scramble_60 : decode cX7_scramble 60 = .ok (.idiv, 1) := by decide +kernel
theorem dX7_scramble_61 : decode cX7_scramble 61 = .ok (.iconst 4, 1) := by decide +kernel
theorem dX7_scramble_62 : decode cX7_scramble 62 = .ok (.irem, 1) := by decide +kernel
theorem dX7_scramble_63 : decode cX7_scramble 63 = .ok (.iconst 1, 1) := by decide +kernel
theorem dX7_scramble_64 : decode cX7_scramble 64 = .ok (.iload_n 3, 1) := by decide +kernel
theorem dX7_scramble_65 : decode cX7_scramble 65 = .ok (.bipush 8, 2) := by decide +kernel
theorem dX7_scramble_67 : decode cX7_scramble 67 = .ok (.idiv, 1) := by decide +kernel
theorem dX7_scramble_68 : decode cX7_scramble 68 = .ok (.bipush 7, 2) := by decide +kernel
theorem dX7_scramble_70 : decode cX7_scramble 70 = .ok (.irem, 1) := by decide +kernel
theorem dX7_scramble_71 : decode cX7_scramble 71 = .ok (.iadd, 1) := by decide +kernel
theorem dX7_scramble_72 : decode cX7_scramble 72 = .ok (.invokevirtual 76, 3) := by decide +kernel
theorem dX7_scramble_75 : decode cX7_scramble 75 = .ok (.goto 22, 3) := by decide +kernel
theorem dX7_scramble_78 : decode cX7_scramble 78 = .ok (.aload_n 0, 1) := by decide +kernel
theorem dX7_scramble_79 : decode cX7_scramble 79 = .ok (.iconst 1, 1) := by decide +kernel
theorem dX7_scramble_80 : decode cX7_scramble 80 = .ok (.iload_n 3, 1) := by decide +kernel
theorem dX7_scramble_81 : decode cX7_scramble 81 = .ok (.iconst 2, 1) := by decide +kernel
theorem dX7_scramble_82 : decode cX7_scramble 82 = .ok (.idiv, 1) := by decide +kernel
theorem dX7_scramble_83 : decode cX7_scramble 83 = .ok (.bipush 8, 2) := by decide +kernel
theorem dX7_scramble_85 : decode cX7_scramble 85 = .ok (.irem, 1) := by decide +kernel
theorem dX7_scramble_86 : decode cX7_scramble 86 = .ok (.iconst 1, 1) := by decide +kernel
theorem dX7_scramble_87 : decode cX7_scramble 87 = .ok (.iload_n 3, 1) := by decide +kernel
theorem dX7_scramble_88 : decode cX7_scramble 88 = .ok (.bipush 16, 2) := by decide +kernel
theorem dX7_scramble_90 : decode cX7_scramble 90 = .ok (.idiv, 1) := by decide +kernel
theorem dX7_scramble_91 : decode cX7_scramble 91 = .ok (.iconst 3, 1) := by decide +kernel
theorem dX7_scramble_92 : decode cX7_scramble 92 = .ok (.irem, 1) := by decide +kernel
theorem dX7_scramble_93 : decode cX7_scramble 93 = .ok (.iadd, 1) := by decide +kernel
theorem dX7_scramble_94 : decode cX7_scramble 94 = .ok (.invokevirtual 76, 3) := by decide +kernel
theorem dX7_scramble_97 : decode cX7_scramble 97 = .ok (.iinc 4 1, 3) := by decide +kernel
theorem dX7_scramble_100 : decode cX7_scramble 100 = .ok (.goto (-67), 3) := by decide +kernel
theorem dX7_scramble_103 : decode cX7_scramble 103 = .ok (.aload_n 0, 1) := by decide +kernel
theorem dX7_scramble_104 : decode cX7_scramble 104 = .ok (.getfield 10, 3) := by decide +kernel
theorem dX7_scramble_107 : decode cX7_scramble 107 = .ok (.getfield 79, 3) := by decide +kernel
theorem dX7_scramble_110 : decode cX7_scramble 110 = .ok (.invokevirtual 83, 3) := by decide +kernel
theorem dX7_scramble_113 : decode cX7_scramble 113 = .ok (.ireturn, 1) := by decide +kernel
theorem dX7_logOf_0 : decode cX7_logOf 0 = .ok (.iload_n 1, 1) := by decide +kernel
theorem dX7_logOf_1 : decode cX7_logOf 1 = .ok (.aload_n 0, 1) := by decide +kernel
theorem dX7_logOf_2 : decode cX7_logOf 2 = .ok (.getfield 10, 3) := by decide +kernel
theorem dX7_logOf_5 : decode cX7_logOf 5 = .ok (.getfield 93, 3) := by decide +kernel
theorem dX7_logOf_8 : decode cX7_logOf 8 = .ok (.invokevirtual 97, 3) := by decide +kernel
theorem dX7_logOf_11 : decode cX7_logOf 11 = .ok (.invokestatic 89, 3) := by decide +kernel
theorem dX7_logOf_14 : decode cX7_logOf 14 = .ok (.iload_n 2, 1) := by decide +kernel
theorem dX7_logOf_15 : decode cX7_logOf 15 = .ok (.iconst 0, 1) := by decide +kernel
theorem dX7_logOf_16 : decode cX7_logOf 16 = .ok (.iconst 2, 1) := by decide +kernel
theorem dX7_logOf_17 : decode cX7_logOf 17 = .ok (.invokestatic 68, 3) := by decide +kernel
theorem dX7_logOf_20 : decode cX7_logOf 20 = .ok (.aload_n 0, 1) := by decide +kernel
theorem dX7_logOf_21 : decode cX7_logOf 21 = .ok (.getfield 10, 3) := by decide +kernel
theorem dX7_logOf_24 : decode cX7_logOf 24 = .ok (.getfield 93, 3) := by decide +kernel
theorem dX7_logOf_27 : decode cX7_logOf 27 = .ok (.iload_n 1, 1) := by decide +kernel
theorem dX7_logOf_28 : decode cX7_logOf 28 = .ok (.iload_n 2, 1) := by decide +kernel
theorem dX7_logOf_29 : decode cX7_logOf 29 = .ok (.invokevirtual 105, 3) := by decide +kernel
theorem dX7_logOf_32 : decode cX7_logOf 32 = .ok (.ireturn, 1) := by decide +kernel
theorem dX7_at_0 : decode cX7_at 0 = .ok (.iload_n 1, 1) := by decide +kernel
theorem dX7_at_1 : decode cX7_at 1 = .ok (.invokestatic 120, 3) := by decide +kernel
theorem dX7_at_4 : decode cX7_at 4 = .ok (.aload_n 0, 1) := by decide +kernel
theorem dX7_at_5 : decode cX7_at 5 = .ok (.getfield 10, 3) := by decide +kernel
theorem dX7_at_8 : decode cX7_at 8 = .ok (.getfield 79, 3) := by decide +kernel
theorem dX7_at_11 : decode cX7_at 11 = .ok (.iload_n 1, 1) := by decide +kernel
theorem dX7_at_12 : decode cX7_at 12 = .ok (.invokevirtual 123, 3) := by decide +kernel
theorem dX7_at_15 : decode cX7_at 15 = .ok (.ireturn, 1) := by decide +kernel
theorem dX7_where_0 : decode cX7_where 0 = .ok (.iload_n 1, 1) := by decide +kernel
theorem dX7_where_1 : decode cX7_where 1 = .ok (.invokestatic 120, 3) := by decide +kernel
theorem dX7_where_4 : decode cX7_where 4 = .ok (.aload_n 0, 1) := by decide +kernel
theorem dX7_where_5 : decode cX7_where 5 = .ok (.getfield 10, 3) := by decide +kernel
theorem dX7_where_8 : decode cX7_where 8 = .ok (.getfield 79, 3) := by decide +kernel
theorem dX7_where_11 : decode cX7_where 11 = .ok (.iload_n 1, 1) := by decide +kernel
theorem dX7_where_12 : decode cX7_where 12 = .ok (.invokevirtual 126, 3) := by decide +kernel
theorem dX7_where_15 : decode cX7_where 15 = .ok (.ireturn, 1) := by decide +kernel
theorem dX7_paint_0 : decode cX7_paint 0 = .ok (.iload_n 1, 1) := by decide +kernel
theorem dX7_paint_1 : decode cX7_paint 1 = .ok (.invokestatic 120, 3) := by decide +kernel
theorem dX7_paint_4 : decode cX7_paint 4 = .ok (.iload_n 2, 1) := by decide +kernel
theorem dX7_paint_5 : decode cX7_paint 5 = .ok (.iconst 0, 1) := by decide +kernel
theorem dX7_paint_6 : decode cX7_paint 6 = .ok (.iconst 5, 1) := by decide +kernel
theorem dX7_paint_7 : decode cX7_paint 7 = .ok (.invokestatic 68, 3) := by decide +kernel
theorem dX7_paint_10 : decode cX7_paint 10 = .ok (.aload_n 0, 1) := by decide +kernel
theorem dX7_paint_11 : decode cX7_paint 11 = .ok (.getfield 10, 3) := by decide +kernel
theorem dX7_paint_14 : decode cX7_paint 14 = .ok (.getfield 79, 3) := by decide +kernel
theorem dX7_paint_17 : decode cX7_paint 17 = .ok (.iload_n 1, 1) := by decide +kernel
theorem dX7_paint_18 : decode cX7_paint 18 = .ok (.invokevirtual 129, 3) := by decide +kernel
theorem dX7_paint_21 : decode cX7_paint 21 = .ok (.istore_n 3, 1) := by decide +kernel
theorem dX7_paint_22 : decode cX7_paint 22 = .ok (.iload_n 3, 1) := by decide +kernel
theorem dX7_paint_23 : decode cX7_paint 23 = .ok (.iload_n 2, 1) := by decide +kernel
theorem dX7_paint_24 : decode cX7_paint 24 = .ok (.if_icmp .ne 9, 3) := by decide +kernel
theorem dX7_paint_27 : decode cX7_paint 27 = .ok (.aload_n 0, 1) := by decide +kernel
theorem dX7_paint_28 : decode cX7_paint 28 = .ok (.iconst 4, 1) := by decide +kernel
theorem dX7_paint_29 : decode cX7_paint 29 = .ok (.iload_n 2, 1) := by decide +kernel
theorem dX7_paint_30 : decode cX7_paint 30 = .ok (.invokevirtual 102, 3) := by decide +kernel
theorem dX7_paint_33 : decode cX7_paint 33 = .ok (.aload_n 0, 1) := by decide +kernel
theorem dX7_paint_34 : decode cX7_paint 34 = .ok (.getfield 19, 3) := by decide +kernel
theorem dX7_paint_37 : decode cX7_paint 37 = .ok (.aload_n 0, 1) := by decide +kernel
theorem dX7_paint_38 : decode cX7_paint 38 = .ok (.getfield 10, 3) := by decide +kernel
theorem dX7_paint_41 : decode cX7_paint 41 = .ok (.invokevirtual 72, 3) := by decide +kernel
theorem dX7_paint_44 : decode cX7_paint 44 = .ok (.aload_n 0, 1) := by decide +kernel
theorem dX7_paint_45 : decode cX7_paint 45 = .ok (.getfield 10, 3) := by decide +kernel
theorem dX7_paint_48 : decode cX7_paint 48 = .ok (.getfield 79, 3) := by decide +kernel
theorem dX7_paint_51 : decode cX7_paint 51 = .ok (.iload_n 1, 1) := by decide +kernel
theorem dX7_paint_52 : decode cX7_paint 52 = .ok (.iload_n 2, 1) := by decide +kernel
theorem dX7_paint_53 : decode cX7_paint 53 = .ok (.invokevirtual 132, 3) := by decide +kernel
theorem dX7_paint_56 : decode cX7_paint 56 = .ok (.iload_n 3, 1) := by decide +kernel
theorem dX7_paint_57 : decode cX7_paint 57 = .ok (.ireturn, 1) := by decide +kernel
theorem dX7_colour_0 : decode cX7_colour 0 = .ok (.iload_n 1, 1) := by decide +kernel
theorem dX7_colour_1 : decode cX7_colour 1 = .ok (.invokestatic 120, 3) := by decide +kernel
theorem dX7_colour_4 : decode cX7_colour 4 = .ok (.aload_n 0, 1) := by decide +kernel
theorem dX7_colour_5 : decode cX7_colour 5 = .ok (.getfield 10, 3) := by decide +kernel
theorem dX7_colour_8 : decode cX7_colour 8 = .ok (.getfield 79, 3) := by decide +kernel
theorem dX7_colour_11 : decode cX7_colour 11 = .ok (.iload_n 1, 1) := by decide +kernel
theorem dX7_colour_12 : decode cX7_colour 12 = .ok (.invokevirtual 135, 3) := by decide +kernel
theorem dX7_colour_15 : decode cX7_colour 15 = .ok (.ireturn, 1) := by decide +kernel
theorem dX7_isDone_0 : decode cX7_isDone 0 = .ok (.iload_n 1, 1) := by decide +kernel
theorem dX7_isDone_1 : decode cX7_isDone 1 = .ok (.invokestatic 64, 3) := by decide +kernel
theorem dX7_isDone_4 : decode cX7_isDone 4 = .ok (.aload_n 0, 1) := by decide +kernel
theorem dX7_isDone_5 : decode cX7_isDone 5 = .ok (.getfield 10, 3) := by decide +kernel
theorem dX7_isDone_8 : decode cX7_isDone 8 = .ok (.getfield 79, 3) := by decide +kernel
theorem dX7_isDone_11 : decode cX7_isDone 11 = .ok (.iload_n 1, 1) := by decide +kernel
theorem dX7_isDone_12 : decode cX7_isDone 12 = .ok (.invokevirtual 138, 3) := by decide +kernel
theorem dX7_isDone_15 : decode cX7_isDone 15 = .ok (.ireturn, 1) := by decide +kernel
theorem dX7_seams_0 : decode cX7_seams 0 = .ok (.aload_n 0, 1) := by decide +kernel
theorem dX7_seams_1 : decode cX7_seams 1 = .ok (.getfield 10, 3) := by decide +kernel
theorem dX7_seams_4 : decode cX7_seams 4 = .ok (.getfield 79, 3) := by decide +kernel
theorem dX7_seams_7 : decode cX7_seams 7 = .ok (.invokevirtual 142, 3) := by decide +kernel
theorem dX7_seams_10 : decode cX7_seams 10 = .ok (.ireturn, 1) := by decide +kernel
theorem dX7_fewest_0 : decode cX7_fewest 0 = .ok (.iload_n 1, 1) := by decide +kernel
theorem dX7_fewest_1 : decode cX7_fewest 1 = .ok (.invokestatic 120, 3) := by decide +kernel
theorem dX7_fewest_4 : decode cX7_fewest 4 = .ok (.iload_n 2, 1) := by decide +kernel
theorem dX7_fewest_5 : decode cX7_fewest 5 = .ok (.invokestatic 120, 3) := by decide +kernel
theorem dX7_fewest_8 : decode cX7_fewest 8 = .ok (.iload_n 1, 1) := by decide +kernel
theorem dX7_fewest_9 : decode cX7_fewest 9 = .ok (.iload_n 2, 1) := by decide +kernel
theorem dX7_fewest_10 : decode cX7_fewest 10 = .ok (.invokestatic 145, 3) := by decide +kernel
theorem dX7_fewest_13 : decode cX7_fewest 13 = .ok (.ireturn, 1) := by decide +kernel
theorem dX7_learn_0 : decode cX7_learn 0 = .ok (.iload_n 1, 1) := by decide +kernel
theorem dX7_learn_1 : decode cX7_learn 1 = .ok (.iconst 5, 1) := by decide +kernel
theorem dX7_learn_2 : decode cX7_learn 2 = .ok (.invokestatic 148, 3) := by decide +kernel
theorem dX7_learn_5 : decode cX7_learn 5 = .ok (.ifCond .ne 23, 3) := by decide +kernel
theorem dX7_learn_8 : decode cX7_learn 8 = .ok (.aload_n 0, 1) := by decide +kernel
theorem dX7_learn_9 : decode cX7_learn 9 = .ok (.getfield 33, 3) := by decide +kernel
theorem dX7_learn_12 : decode cX7_learn 12 = .ok (.getfield 152, 3) := by decide +kernel
theorem dX7_learn_15 : decode cX7_learn 15 = .ok (.invokevirtual 155, 3) := by decide +kernel
theorem dX7_learn_18 : decode cX7_learn 18 = .ok (.new 158, 3) := by decide +kernel
theorem dX7_learn_21 : decode cX7_learn 21 = .ok (.dup, 1) := by decide +kernel
theorem dX7_learn_22 : decode cX7_learn 22 = .ok (.ldc 160, 2) := by decide +kernel
theorem dX7_learn_24 : decode cX7_learn 24 = .ok (.invokespecial 162, 3) := by decide +kernel
theorem dX7_learn_27 : decode cX7_learn 27 = .ok (.athrow, 1) := by decide +kernel
theorem dX7_learn_28 : decode cX7_learn 28 = .ok (.aload_n 0, 1) := by decide +kernel
theorem dX7_learn_29 : decode cX7_learn 29 = .ok (.invokevirtual 165, 3) := by decide +kernel
theorem dX7_learn_32 : decode cX7_learn 32 = .ok (.istore_n 2, 1) := by decide +kernel
theorem dX7_learn_33 : decode cX7_learn 33 = .ok (.aload_n 0, 1) := by decide +kernel
theorem dX7_learn_34 : decode cX7_learn 34 = .ok (.getfield 19, 3) := by decide +kernel
theorem dX7_learn_37 : decode cX7_learn 37 = .ok (.aload_n 0, 1) := by decide +kernel
theorem dX7_learn_38 : decode cX7_learn 38 = .ok (.getfield 10, 3) := by decide +kernel
theorem dX7_learn_41 : decode cX7_learn 41 = .ok (.invokevirtual 72, 3) := by decide +kernel
theorem dX7_learn_44 : decode cX7_learn 44 = .ok (.aload_n 0, 1) := by decide +kernel
theorem dX7_learn_45 : decode cX7_learn 45 = .ok (.getfield 10, 3) := by decide +kernel
theorem dX7_learn_48 : decode cX7_learn 48 = .ok (.iload_n 1, 1) := by decide +kernel
theorem dX7_learn_49 : decode cX7_learn 49 = .ok (.aload_n 0, 1) := by decide +kernel
theorem dX7_learn_50 : decode cX7_learn 50 = .ok (.getfield 33, 3) := by decide +kernel
theorem dX7_learn_53 : decode cX7_learn 53 = .ok (.invokevirtual 168, 3) := by decide +kernel
theorem dX7_learn_56 : decode cX7_learn 56 = .ok (.invokevirtual 172, 3) := by decide +kernel
theorem dX7_learn_59 : decode cX7_learn 59 = .ok (.iload_n 2, 1) := by decide +kernel
theorem dX7_learn_60 : decode cX7_learn 60 = .ok (.ireturn, 1) := by decide +kernel
theorem dX7_use_0 : decode cX7_use 0 = .ok (.iload_n 1, 1) := by decide +kernel
theorem dX7_use_1 : decode cX7_use 1 = .ok (.invokestatic 176, 3) := by decide +kernel
theorem dX7_use_4 : decode cX7_use 4 = .ok (.iload_n 2, 1) := by decide +kernel
theorem dX7_use_5 : decode cX7_use 5 = .ok (.ifCond .ge 8, 3) := by decide +kernel
theorem dX7_use_8 : decode cX7_use 8 = .ok (.iload_n 2, 1) := by decide +kernel
theorem dX7_use_9 : decode cX7_use 9 = .ok (.ineg, 1) := by decide +kernel
theorem dX7_use_10 : decode cX7_use 10 = .ok (.goto 4, 3) := by decide +kernel
theorem dX7_use_13 : decode cX7_use 13 = .ok (.iload_n 2, 1) := by decide +kernel
theorem dX7_use_14 : decode cX7_use 14 = .ok (.istore_n 3, 1) := by decide +kernel
theorem dX7_use_15 : decode cX7_use 15 = .ok (.iload_n 3, 1) := by decide +kernel
theorem dX7_use_16 : decode cX7_use 16 = .ok (.iconst 1, 1) := by decide +kernel
theorem dX7_use_17 : decode cX7_use 17 = .ok (.bipush 99, 2) := by decide +kernel
theorem dX7_use_19 : decode cX7_use 19 = .ok (.invokestatic 68, 3) := by decide +kernel
theorem dX7_use_22 : decode cX7_use 22 = .ok (.aload_n 0, 1) := by decide +kernel
theorem dX7_use_23 : decode cX7_use 23 = .ok (.iload_n 1, 1) := by decide +kernel
theorem dX7_use_24 : decode cX7_use 24 = .ok (.invokevirtual 179, 3) := by decide +kernel
theorem dX7_use_27 : decode cX7_use 27 = .ok (.aload_n 0, 1) := by decide +kernel
theorem dX7_use_28 : decode cX7_use 28 = .ok (.getfield 19, 3) := by decide +kernel
theorem dX7_use_31 : decode cX7_use 31 = .ok (.aload_n 0, 1) := by decide +kernel
theorem dX7_use_32 : decode cX7_use 32 = .ok (.getfield 10, 3) := by decide +kernel
theorem dX7_use_35 : decode cX7_use 35 = .ok (.invokevirtual 72, 3) := by decide +kernel
theorem dX7_use_38 : decode cX7_use 38 = .ok (.iload_n 2, 1) := by decide +kernel
theorem dX7_use_39 : decode cX7_use 39 = .ok (.ifCond .ge 21, 3) := by decide +kernel
theorem dX7_use_42 : decode cX7_use 42 = .ok (.aload_n 0, 1) := by decide +kernel
theorem dX7_use_43 : decode cX7_use 43 = .ok (.getfield 51, 3) := by decide +kernel
theorem dX7_use_46 : decode cX7_use 46 = .ok (.aload_n 0, 1) := by decide +kernel
theorem dX7_use_47 : decode cX7_use 47 = .ok (.getfield 10, 3) := by decide +kernel
theorem dX7_use_50 : decode cX7_use 50 = .ok (.iload_n 1, 1) := by decide +kernel
theorem dX7_use_51 : decode cX7_use 51 = .ok (.invokevirtual 182, 3) := by decide +kernel
theorem dX7_use_54 : decode cX7_use 54 = .ok (.invokevirtual 186, 3) := by decide +kernel
theorem dX7_use_57 : decode cX7_use 57 = .ok (.goto 18, 3) := by decide +kernel
theorem dX7_use_60 : decode cX7_use 60 = .ok (.aload_n 0, 1) := by decide +kernel
theorem dX7_use_61 : decode cX7_use 61 = .ok (.getfield 51, 3) := by decide +kernel
theorem dX7_use_64 : decode cX7_use 64 = .ok (.aload_n 0, 1) := by decide +kernel
theorem dX7_use_65 : decode cX7_use 65 = .ok (.getfield 10, 3) := by decide +kernel
theorem dX7_use_68 : decode cX7_use 68 = .ok (.iload_n 1, 1) := by decide +kernel
theorem dX7_use_69 : decode cX7_use 69 = .ok (.invokevirtual 182, 3) := by decide +kernel
theorem dX7_use_72 : decode cX7_use 72 = .ok (.invokevirtual 190, 3) := by decide +kernel
theorem dX7_use_75 : decode cX7_use 75 = .ok (.aload_n 0, 1) := by decide +kernel
theorem dX7_use_76 : decode cX7_use 76 = .ok (.getfield 47, 3) := by decide +kernel
theorem dX7_use_79 : decode cX7_use 79 = .ok (.aload_n 0, 1) := by decide +kernel
theorem dX7_use_80 : decode cX7_use 80 = .ok (.getfield 51, 3) := by decide +kernel
theorem dX7_use_83 : decode cX7_use 83 = .ok (.iload_n 3, 1) := by decide +kernel
theorem dX7_use_84 : decode cX7_use 84 = .ok (.invokevirtual 193, 3) := by decide +kernel
theorem dX7_use_87 : decode cX7_use 87 = .ok (.aload_n 0, 1) := by decide +kernel
theorem dX7_use_88 : decode cX7_use 88 = .ok (.getfield 10, 3) := by decide +kernel
theorem dX7_use_91 : decode cX7_use 91 = .ok (.getfield 79, 3) := by decide +kernel
theorem dX7_use_94 : decode cX7_use 94 = .ok (.aload_n 0, 1) := by decide +kernel
theorem dX7_use_95 : decode cX7_use 95 = .ok (.getfield 47, 3) := by decide +kernel
theorem dX7_use_98 : decode cX7_use 98 = .ok (.invokevirtual 197, 3) := by decide +kernel
theorem dX7_use_101 : decode cX7_use 101 = .ok (.aload_n 0, 1) := by decide +kernel
theorem dX7_use_102 : decode cX7_use 102 = .ok (.getfield 10, 3) := by decide +kernel
theorem dX7_use_105 : decode cX7_use 105 = .ok (.getfield 93, 3) := by decide +kernel
theorem dX7_use_108 : decode cX7_use 108 = .ok (.invokevirtual 200, 3) := by decide +kernel
theorem dX7_use_111 : decode cX7_use 111 = .ok (.aload_n 0, 1) := by decide +kernel
theorem dX7_use_112 : decode cX7_use 112 = .ok (.getfield 10, 3) := by decide +kernel
theorem dX7_use_115 : decode cX7_use 115 = .ok (.getfield 79, 3) := by decide +kernel
theorem dX7_use_118 : decode cX7_use 118 = .ok (.invokevirtual 83, 3) := by decide +kernel
theorem dX7_use_121 : decode cX7_use 121 = .ok (.ireturn, 1) := by decide +kernel
theorem dX7_join_0 : decode cX7_join 0 = .ok (.iload_n 1, 1) := by decide +kernel
theorem dX7_join_1 : decode cX7_join 1 = .ok (.invokestatic 176, 3) := by decide +kernel
theorem dX7_join_4 : decode cX7_join 4 = .ok (.iload_n 2, 1) := by decide +kernel
theorem dX7_join_5 : decode cX7_join 5 = .ok (.invokestatic 176, 3) := by decide +kernel
theorem dX7_join_8 : decode cX7_join 8 = .ok (.iload_n 3, 1) := by decide +kernel
theorem dX7_join_9 : decode cX7_join 9 = .ok (.invokestatic 176, 3) := by decide +kernel
theorem dX7_join_12 : decode cX7_join 12 = .ok (.aload_n 0, 1) := by decide +kernel
theorem dX7_join_13 : decode cX7_join 13 = .ok (.iload_n 1, 1) := by decide +kernel
theorem dX7_join_14 : decode cX7_join 14 = .ok (.invokevirtual 179, 3) := by decide +kernel
theorem dX7_join_17 : decode cX7_join 17 = .ok (.aload_n 0, 1) := by decide +kernel
theorem dX7_join_18 : decode cX7_join 18 = .ok (.iload_n 2, 1) := by decide +kernel
theorem dX7_join_19 : decode cX7_join 19 = .ok (.invokevirtual 179, 3) := by decide +kernel
theorem dX7_join_22 : decode cX7_join 22 = .ok (.aload_n 0, 1) := by decide +kernel
theorem dX7_join_23 : decode cX7_join 23 = .ok (.getfield 47, 3) := by decide +kernel
theorem dX7_join_26 : decode cX7_join 26 = .ok (.aload_n 0, 1) := by decide +kernel
theorem dX7_join_27 : decode cX7_join 27 = .ok (.getfield 10, 3) := by decide +kernel
theorem dX7_join_30 : decode cX7_join 30 = .ok (.iload_n 1, 1) := by decide +kernel
theorem dX7_join_31 : decode cX7_join 31 = .ok (.invokevirtual 182, 3) := by decide +kernel
theorem dX7_join_34 : decode cX7_join 34 = .ok (.invokevirtual 190, 3) := by decide +kernel
theorem dX7_join_37 : decode cX7_join 37 = .ok (.aload_n 0, 1) := by decide +kernel
theorem dX7_join_38 : decode cX7_join 38 = .ok (.getfield 47, 3) := by decide +kernel
theorem dX7_join_41 : decode cX7_join 41 = .ok (.aload_n 0, 1) := by decide +kernel
theorem dX7_join_42 : decode cX7_join 42 = .ok (.getfield 10, 3) := by decide +kernel
theorem dX7_join_45 : decode cX7_join 45 = .ok (.iload_n 2, 1) := by decide +kernel
theorem dX7_join_46 : decode cX7_join 46 = .ok (.invokevirtual 182, 3) := by decide +kernel
theorem dX7_join_49 : decode cX7_join 49 = .ok (.invokevirtual 201, 3) := by decide +kernel
theorem dX7_join_52 : decode cX7_join 52 = .ok (.aload_n 0, 1) := by decide +kernel
theorem dX7_join_53 : decode cX7_join 53 = .ok (.iload_n 3, 1) := by decide +kernel
theorem dX7_join_54 : decode cX7_join 54 = .ok (.invokevirtual 204, 3) := by decide +kernel
theorem dX7_join_57 : decode cX7_join 57 = .ok (.ireturn, 1) := by decide +kernel
theorem dX7_invert_0 : decode cX7_invert 0 = .ok (.iload_n 1, 1) := by decide +kernel
theorem dX7_invert_1 : decode cX7_invert 1 = .ok (.invokestatic 176, 3) := by decide +kernel
theorem dX7_invert_4 : decode cX7_invert 4 = .ok (.iload_n 2, 1) := by decide +kernel
theorem dX7_invert_5 : decode cX7_invert 5 = .ok (.invokestatic 176, 3) := by decide +kernel
theorem dX7_invert_8 : decode cX7_invert 8 = .ok (.aload_n 0, 1) := by decide +kernel
theorem dX7_invert_9 : decode cX7_invert 9 = .ok (.iload_n 1, 1) := by decide +kernel
theorem dX7_invert_10 : decode cX7_invert 10 = .ok (.invokevirtual 179, 3) := by decide +kernel
theorem dX7_invert_13 : decode cX7_invert 13 = .ok (.aload_n 0, 1) := by decide +kernel
theorem dX7_invert_14 : decode cX7_invert 14 = .ok (.getfield 47, 3) := by decide +kernel
theorem dX7_invert_17 : decode cX7_invert 17 = .ok (.aload_n 0, 1) := by decide +kernel
theorem dX7_invert_18 : decode cX7_invert 18 = .ok (.getfield 10, 3) := by decide +kernel
theorem dX7_invert_21 : decode cX7_invert 21 = .ok (.iload_n 1, 1) := by decide +kernel
theorem dX7_invert_22 : decode cX7_invert 22 = .ok (.invokevirtual 182, 3) := by decide +kernel
theorem dX7_invert_25 : decode cX7_invert 25 = .ok (.invokevirtual 186, 3) := by decide +kernel
theorem dX7_invert_28 : decode cX7_invert 28 = .ok (.aload_n 0, 1) := by decide +kernel
theorem dX7_invert_29 : decode cX7_invert 29 = .ok (.iload_n 2, 1) := by decide +kernel
theorem dX7_invert_30 : decode cX7_invert 30 = .ok (.invokevirtual 204, 3) := by decide +kernel
theorem dX7_invert_33 : decode cX7_invert 33 = .ok (.ireturn, 1) := by decide +kernel
theorem dX7_commute_0 : decode cX7_commute 0 = .ok (.iload_n 1, 1) := by decide +kernel
theorem dX7_commute_1 : decode cX7_commute 1 = .ok (.invokestatic 176, 3) := by decide +kernel
theorem dX7_commute_4 : decode cX7_commute 4 = .ok (.iload_n 2, 1) := by decide +kernel
theorem dX7_commute_5 : decode cX7_commute 5 = .ok (.invokestatic 176, 3) := by decide +kernel
theorem dX7_commute_8 : decode cX7_commute 8 = .ok (.iload_n 3, 1) := by decide +kernel
theorem dX7_commute_9 : decode cX7_commute 9 = .ok (.invokestatic 176, 3) := by decide +kernel
theorem dX7_commute_12 : decode cX7_commute 12 = .ok (.aload_n 0, 1) := by decide +kernel
theorem dX7_commute_13 : decode cX7_commute 13 = .ok (.iload_n 1, 1) := by decide +kernel
theorem dX7_commute_14 : decode cX7_commute 14 = .ok (.invokevirtual 179, 3) := by decide +kernel
theorem dX7_commute_17 : decode cX7_commute 17 = .ok (.aload_n 0, 1) := by decide +kernel
theorem dX7_commute_18 : decode cX7_commute 18 = .ok (.iload_n 2, 1) := by decide +kernel
theorem dX7_commute_19 : decode cX7_commute 19 = .ok (.invokevirtual 179, 3) := by decide +kernel
theorem dX7_commute_22 : decode cX7_commute 22 = .ok (.aload_n 0, 1) := by decide +kernel
theorem dX7_commute_23 : decode cX7_commute 23 = .ok (.getfield 47, 3) := by decide +kernel
theorem dX7_commute_26 : decode cX7_commute 26 = .ok (.aload_n 0, 1) := by decide +kernel
theorem dX7_commute_27 : decode cX7_commute 27 = .ok (.getfield 10, 3) := by decide +kernel
theorem dX7_commute_30 : decode cX7_commute 30 = .ok (.iload_n 1, 1) := by decide +kernel
theorem dX7_commute_31 : decode cX7_commute 31 = .ok (.invokevirtual 182, 3) := by decide +kernel
theorem dX7_commute_34 : decode cX7_commute 34 = .ok (.aload_n 0, 1) := by decide +kernel
theorem dX7_commute_35 : decode cX7_commute 35 = .ok (.getfield 10, 3) := by decide +kernel
theorem dX7_commute_38 : decode cX7_commute 38 = .ok (.iload_n 2, 1) := by decide +kernel
theorem dX7_commute_39 : decode cX7_commute 39 = .ok (.invokevirtual 182, 3) := by decide +kernel
theorem dX7_commute_42 : decode cX7_commute 42 = .ok (.aload_n 0, 1) := by decide +kernel
theorem dX7_commute_43 : decode cX7_commute 43 = .ok (.getfield 51, 3) := by decide +kernel
theorem dX7_commute_46 : decode cX7_commute 46 = .ok (.invokevirtual 207, 3) := by decide +kernel
theorem dX7_commute_49 : decode cX7_commute 49 = .ok (.aload_n 0, 1) := by decide +kernel
theorem dX7_commute_50 : decode cX7_commute 50 = .ok (.iload_n 3, 1) := by decide +kernel
theorem dX7_commute_51 : decode cX7_commute 51 = .ok (.invokevirtual 204, 3) := by decide +kernel
theorem dX7_commute_54 : decode cX7_commute 54 = .ok (.ireturn, 1) := by decide +kernel
theorem dX7_forget_0 : decode cX7_forget 0 = .ok (.iload_n 1, 1) := by decide +kernel
theorem dX7_forget_1 : decode cX7_forget 1 = .ok (.invokestatic 176, 3) := by decide +kernel
theorem dX7_forget_4 : decode cX7_forget 4 = .ok (.aload_n 0, 1) := by decide +kernel
theorem dX7_forget_5 : decode cX7_forget 5 = .ok (.iload_n 1, 1) := by decide +kernel
theorem dX7_forget_6 : decode cX7_forget 6 = .ok (.invokevirtual 179, 3) := by decide +kernel
theorem dX7_forget_9 : decode cX7_forget 9 = .ok (.aload_n 0, 1) := by decide +kernel
theorem dX7_forget_10 : decode cX7_forget 10 = .ok (.getfield 19, 3) := by decide +kernel
theorem dX7_forget_13 : decode cX7_forget 13 = .ok (.aload_n 0, 1) := by decide +kernel
theorem dX7_forget_14 : decode cX7_forget 14 = .ok (.getfield 10, 3) := by decide +kernel
theorem dX7_forget_17 : decode cX7_forget 17 = .ok (.invokevirtual 72, 3) := by decide +kernel
theorem dX7_forget_20 : decode cX7_forget 20 = .ok (.aload_n 0, 1) := by decide +kernel
theorem dX7_forget_21 : decode cX7_forget 21 = .ok (.getfield 10, 3) := by decide +kernel
theorem dX7_forget_24 : decode cX7_forget 24 = .ok (.iload_n 1, 1) := by decide +kernel
theorem dX7_forget_25 : decode cX7_forget 25 = .ok (.invokevirtual 211, 3) := by decide +kernel
theorem dX7_forget_28 : decode cX7_forget 28 = .ok (.aload_n 0, 1) := by decide +kernel
theorem dX7_forget_29 : decode cX7_forget 29 = .ok (.getfield 10, 3) := by decide +kernel
theorem dX7_forget_32 : decode cX7_forget 32 = .ok (.invokevirtual 214, 3) := by decide +kernel
theorem dX7_forget_35 : decode cX7_forget 35 = .ok (.ireturn, 1) := by decide +kernel
theorem dX7_goesTo_0 : decode cX7_goesTo 0 = .ok (.iload_n 1, 1) := by decide +kernel
theorem dX7_goesTo_1 : decode cX7_goesTo 1 = .ok (.invokestatic 176, 3) := by decide +kernel
theorem dX7_goesTo_4 : decode cX7_goesTo 4 = .ok (.iload_n 2, 1) := by decide +kernel
theorem dX7_goesTo_5 : decode cX7_goesTo 5 = .ok (.invokestatic 120, 3) := by decide +kernel
theorem dX7_goesTo_8 : decode cX7_goesTo 8 = .ok (.aload_n 0, 1) := by decide +kernel
theorem dX7_goesTo_9 : decode cX7_goesTo 9 = .ok (.iload_n 1, 1) := by decide +kernel
theorem dX7_goesTo_10 : decode cX7_goesTo 10 = .ok (.invokevirtual 217, 3) := by decide +kernel
theorem dX7_goesTo_13 : decode cX7_goesTo 13 = .ok (.aload_n 0, 1) := by decide +kernel
theorem dX7_goesTo_14 : decode cX7_goesTo 14 = .ok (.getfield 10, 3) := by decide +kernel
theorem dX7_goesTo_17 : decode cX7_goesTo 17 = .ok (.iload_n 1, 1) := by decide +kernel
theorem dX7_goesTo_18 : decode cX7_goesTo 18 = .ok (.invokevirtual 182, 3) := by decide +kernel
theorem dX7_goesTo_21 : decode cX7_goesTo 21 = .ok (.iload_n 2, 1) := by decide +kernel
theorem dX7_goesTo_22 : decode cX7_goesTo 22 = .ok (.invokevirtual 220, 3) := by decide +kernel
theorem dX7_goesTo_25 : decode cX7_goesTo 25 = .ok (.ireturn, 1) := by decide +kernel
theorem dX7_shelfOf_0 : decode cX7_shelfOf 0 = .ok (.iload_n 1, 1) := by decide +kernel
theorem dX7_shelfOf_1 : decode cX7_shelfOf 1 = .ok (.invokestatic 176, 3) := by decide +kernel
theorem dX7_shelfOf_4 : decode cX7_shelfOf 4 = .ok (.iload_n 2, 1) := by decide +kernel
theorem dX7_shelfOf_5 : decode cX7_shelfOf 5 = .ok (.iconst 0, 1) := by decide +kernel
theorem dX7_shelfOf_6 : decode cX7_shelfOf 6 = .ok (.iconst 3, 1) := by decide +kernel
theorem dX7_shelfOf_7 : decode cX7_shelfOf 7 = .ok (.invokestatic 68, 3) := by decide +kernel
theorem dX7_shelfOf_10 : decode cX7_shelfOf 10 = .ok (.aload_n 0, 1) := by decide +kernel
theorem dX7_shelfOf_11 : decode cX7_shelfOf 11 = .ok (.iload_n 1, 1) := by decide +kernel
theorem dX7_shelfOf_12 : decode cX7_shelfOf 12 = .ok (.invokevirtual 217, 3) := by decide +kernel
theorem dX7_shelfOf_15 : decode cX7_shelfOf 15 = .ok (.aload_n 0, 1) := by decide +kernel
theorem dX7_shelfOf_16 : decode cX7_shelfOf 16 = .ok (.getfield 10, 3) := by decide +kernel
theorem dX7_shelfOf_19 : decode cX7_shelfOf 19 = .ok (.iload_n 1, 1) := by decide +kernel
theorem dX7_shelfOf_20 : decode cX7_shelfOf 20 = .ok (.invokevirtual 182, 3) := by decide +kernel
theorem dX7_shelfOf_23 : decode cX7_shelfOf 23 = .ok (.astore_n 3, 1) := by decide +kernel
theorem dX7_shelfOf_24 : decode cX7_shelfOf 24 = .ok (.iload_n 2, 1) := by decide +kernel
theorem dX7_shelfOf_25 : decode cX7_shelfOf 25 = .ok (.tableswitch 43 0 2 #[27, 32, 38], 27) := by decide +kernel
theorem dX7_shelfOf_52 : decode cX7_shelfOf 52 = .ok (.aload_n 3, 1) := by decide +kernel
theorem dX7_shelfOf_53 : decode cX7_shelfOf 53 = .ok (.invokevirtual 223, 3) := by decide +kernel
theorem dX7_shelfOf_56 : decode cX7_shelfOf 56 = .ok (.ireturn, 1) := by decide +kernel
theorem dX7_shelfOf_57 : decode cX7_shelfOf 57 = .ok (.aload_n 3, 1) := by decide +kernel
theorem dX7_shelfOf_58 : decode cX7_shelfOf 58 = .ok (.iconst 2, 1) := by decide +kernel
theorem dX7_shelfOf_59 : decode cX7_shelfOf 59 = .ok (.invokevirtual 226, 3) := by decide +kernel
theorem dX7_shelfOf_62 : decode cX7_shelfOf 62 = .ok (.ireturn, 1) := by decide +kernel
theorem dX7_shelfOf_63 : decode cX7_shelfOf 63 = .ok (.aload_n 3, 1) := by decide +kernel
theorem dX7_shelfOf_64 : decode cX7_shelfOf 64 = .ok (.invokevirtual 229, 3) := by decide +kernel
theorem dX7_shelfOf_67 : decode cX7_shelfOf 67 = .ok (.ireturn, 1) := by decide +kernel
theorem dX7_shelfOf_68 : decode cX7_shelfOf 68 = .ok (.aload_n 3, 1) := by decide +kernel
theorem dX7_shelfOf_69 : decode cX7_shelfOf 69 = .ok (.invokevirtual 232, 3) := by decide +kernel
theorem dX7_shelfOf_72 : decode cX7_shelfOf 72 = .ok (.ireturn, 1) := by decide +kernel
theorem dX7_orderAgain_0 : decode cX7_orderAgain 0 = .ok (.iload_n 1, 1) := by decide +kernel
theorem dX7_orderAgain_1 : decode cX7_orderAgain 1 = .ok (.invokestatic 176, 3) := by decide +kernel
theorem dX7_orderAgain_4 : decode cX7_orderAgain 4 = .ok (.aload_n 0, 1) := by decide +kernel
theorem dX7_orderAgain_5 : decode cX7_orderAgain 5 = .ok (.iload_n 1, 1) := by decide +kernel
theorem dX7_orderAgain_6 : decode cX7_orderAgain 6 = .ok (.invokevirtual 217, 3) := by decide +kernel
theorem dX7_orderAgain_9 : decode cX7_orderAgain 9 = .ok (.aload_n 0, 1) := by decide +kernel
theorem dX7_orderAgain_10 : decode cX7_orderAgain 10 = .ok (.getfield 10, 3) := by decide +kernel
theorem dX7_orderAgain_13 : decode cX7_orderAgain 13 = .ok (.iload_n 1, 1) := by decide +kernel
theorem dX7_orderAgain_14 : decode cX7_orderAgain 14 = .ok (.invokevirtual 182, 3) := by decide +kernel
theorem dX7_orderAgain_17 : decode cX7_orderAgain 17 = .ok (.aload_n 0, 1) := by decide +kernel
theorem dX7_orderAgain_18 : decode cX7_orderAgain 18 = .ok (.getfield 47, 3) := by decide +kernel
theorem dX7_orderAgain_21 : decode cX7_orderAgain 21 = .ok (.invokevirtual 235, 3) := by decide +kernel
theorem dX7_orderAgain_24 : decode cX7_orderAgain 24 = .ok (.ireturn, 1) := by decide +kernel
theorem dX7_isEven_0 : decode cX7_isEven 0 = .ok (.iload_n 1, 1) := by decide +kernel
theorem dX7_isEven_1 : decode cX7_isEven 1 = .ok (.invokestatic 176, 3) := by decide +kernel
theorem dX7_isEven_4 : decode cX7_isEven 4 = .ok (.aload_n 0, 1) := by decide +kernel
theorem dX7_isEven_5 : decode cX7_isEven 5 = .ok (.iload_n 1, 1) := by decide +kernel
theorem dX7_isEven_6 : decode cX7_isEven 6 = .ok (.invokevirtual 217, 3) := by decide +kernel
theorem dX7_isEven_9 : decode cX7_isEven 9 = .ok (.aload_n 0, 1) := by decide +kernel
theorem dX7_isEven_10 : decode cX7_isEven 10 = .ok (.getfield 10, 3) := by decide +kernel
theorem dX7_isEven_13 : decode cX7_isEven 13 = .ok (.iload_n 1, 1) := by decide +kernel
theorem dX7_isEven_14 : decode cX7_isEven 14 = .ok (.invokevirtual 182, 3) := by decide +kernel
theorem dX7_isEven_17 : decode cX7_isEven 17 = .ok (.astore_n 3, 1) := by decide +kernel
theorem dX7_isEven_18 : decode cX7_isEven 18 = .ok (.iload_n 2, 1) := by decide +kernel
theorem dX7_isEven_19 : decode cX7_isEven 19 = .ok (.ifCond .eq 10, 3) := by decide +kernel
theorem dX7_isEven_22 : decode cX7_isEven 22 = .ok (.aload_n 3, 1) := by decide +kernel
theorem dX7_isEven_23 : decode cX7_isEven 23 = .ok (.invokevirtual 239, 3) := by decide +kernel
theorem dX7_isEven_26 : decode cX7_isEven 26 = .ok (.goto 7, 3) := by decide +kernel
theorem dX7_isEven_29 : decode cX7_isEven 29 = .ok (.aload_n 3, 1) := by decide +kernel
theorem dX7_isEven_30 : decode cX7_isEven 30 = .ok (.invokevirtual 243, 3) := by decide +kernel
theorem dX7_isEven_33 : decode cX7_isEven 33 = .ok (.ireturn, 1) := by decide +kernel
theorem dX7_cycle_0 : decode cX7_cycle 0 = .ok (.iload_n 1, 1) := by decide +kernel
theorem dX7_cycle_1 : decode cX7_cycle 1 = .ok (.invokestatic 176, 3) := by decide +kernel
theorem dX7_cycle_4 : decode cX7_cycle 4 = .ok (.iload_n 2, 1) := by decide +kernel
theorem dX7_cycle_5 : decode cX7_cycle 5 = .ok (.invokestatic 120, 3) := by decide +kernel
theorem dX7_cycle_8 : decode cX7_cycle 8 = .ok (.aload_n 0, 1) := by decide +kernel
theorem dX7_cycle_9 : decode cX7_cycle 9 = .ok (.iload_n 1, 1) := by decide +kernel
theorem dX7_cycle_10 : decode cX7_cycle 10 = .ok (.invokevirtual 217, 3) := by decide +kernel
theorem dX7_cycle_13 : decode cX7_cycle 13 = .ok (.aload_n 0, 1) := by decide +kernel
theorem dX7_cycle_14 : decode cX7_cycle 14 = .ok (.getfield 10, 3) := by decide +kernel
theorem dX7_cycle_17 : decode cX7_cycle 17 = .ok (.iload_n 1, 1) := by decide +kernel
theorem dX7_cycle_18 : decode cX7_cycle 18 = .ok (.invokevirtual 182, 3) := by decide +kernel
theorem dX7_cycle_21 : decode cX7_cycle 21 = .ok (.iload_n 2, 1) := by decide +kernel
theorem dX7_cycle_22 : decode cX7_cycle 22 = .ok (.invokevirtual 246, 3) := by decide +kernel
theorem dX7_cycle_25 : decode cX7_cycle 25 = .ok (.ireturn, 1) := by decide +kernel
theorem dX7_commutes_0 : decode cX7_commutes 0 = .ok (.iload_n 1, 1) := by decide +kernel
theorem dX7_commutes_1 : decode cX7_commutes 1 = .ok (.invokestatic 176, 3) := by decide +kernel
theorem dX7_commutes_4 : decode cX7_commutes 4 = .ok (.iload_n 2, 1) := by decide +kernel
theorem dX7_commutes_5 : decode cX7_commutes 5 = .ok (.invokestatic 176, 3) := by decide +kernel
theorem dX7_commutes_8 : decode cX7_commutes 8 = .ok (.aload_n 0, 1) := by decide +kernel
theorem dX7_commutes_9 : decode cX7_commutes 9 = .ok (.iload_n 1, 1) := by decide +kernel
theorem dX7_commutes_10 : decode cX7_commutes 10 = .ok (.invokevirtual 217, 3) := by decide +kernel
theorem dX7_commutes_13 : decode cX7_commutes 13 = .ok (.aload_n 0, 1) := by decide +kernel
theorem dX7_commutes_14 : decode cX7_commutes 14 = .ok (.iload_n 2, 1) := by decide +kernel
theorem dX7_commutes_15 : decode cX7_commutes 15 = .ok (.invokevirtual 217, 3) := by decide +kernel
theorem dX7_commutes_18 : decode cX7_commutes 18 = .ok (.aload_n 0, 1) := by decide +kernel
theorem dX7_commutes_19 : decode cX7_commutes 19 = .ok (.getfield 10, 3) := by decide +kernel
theorem dX7_commutes_22 : decode cX7_commutes 22 = .ok (.iload_n 1, 1) := by decide +kernel
theorem dX7_commutes_23 : decode cX7_commutes 23 = .ok (.invokevirtual 182, 3) := by decide +kernel
theorem dX7_commutes_26 : decode cX7_commutes 26 = .ok (.aload_n 0, 1) := by decide +kernel
theorem dX7_commutes_27 : decode cX7_commutes 27 = .ok (.getfield 10, 3) := by decide +kernel
theorem dX7_commutes_30 : decode cX7_commutes 30 = .ok (.iload_n 2, 1) := by decide +kernel
theorem dX7_commutes_31 : decode cX7_commutes 31 = .ok (.invokevirtual 182, 3) := by decide +kernel
theorem dX7_commutes_34 : decode cX7_commutes 34 = .ok (.invokevirtual 249, 3) := by decide +kernel
theorem dX7_commutes_37 : decode cX7_commutes 37 = .ok (.ireturn, 1) := by decide +kernel
theorem dX7_line_0 : decode cX7_line 0 = .ok (.iload_n 1, 1) := by decide +kernel
theorem dX7_line_1 : decode cX7_line 1 = .ok (.invokestatic 64, 3) := by decide +kernel
theorem dX7_line_4 : decode cX7_line 4 = .ok (.aload_n 0, 1) := by decide +kernel
theorem dX7_line_5 : decode cX7_line 5 = .ok (.getfield 40, 3) := by decide +kernel
theorem dX7_line_8 : decode cX7_line 8 = .ok (.invokevirtual 155, 3) := by decide +kernel
theorem dX7_line_11 : decode cX7_line 11 = .ok (.iconst 0, 1) := by decide +kernel
theorem dX7_line_12 : decode cX7_line 12 = .ok (.istore_n 2, 1) := by decide +kernel
theorem dX7_line_13 : decode cX7_line 13 = .ok (.iload_n 2, 1) := by decide +kernel
theorem dX7_line_14 : decode cX7_line 14 = .ok (.bipush 8, 2) := by decide +kernel
theorem dX7_line_16 : decode cX7_line 16 = .ok (.if_icmp .ge 32, 3) := by decide +kernel
theorem dX7_line_19 : decode cX7_line 19 = .ok (.aload_n 0, 1) := by decide +kernel
theorem dX7_line_20 : decode cX7_line 20 = .ok (.getfield 40, 3) := by decide +kernel
theorem dX7_line_23 : decode cX7_line 23 = .ok (.aload_n 0, 1) := by decide +kernel
theorem dX7_line_24 : decode cX7_line 24 = .ok (.getfield 10, 3) := by decide +kernel
theorem dX7_line_27 : decode cX7_line 27 = .ok (.getfield 79, 3) := by decide +kernel
theorem dX7_line_30 : decode cX7_line 30 = .ok (.iload_n 1, 1) := by decide +kernel
theorem dX7_line_31 : decode cX7_line 31 = .ok (.bipush 8, 2) := by decide +kernel
theorem dX7_line_33 : decode cX7_line 33 = .ok (.imul, 1) := by decide +kernel
theorem dX7_line_34 : decode cX7_line 34 = .ok (.iload_n 2, 1) := by decide +kernel
theorem dX7_line_35 : decode cX7_line 35 = .ok (.iadd, 1) := by decide +kernel
theorem dX7_line_36 : decode cX7_line 36 = .ok (.invokevirtual 135, 3) := by decide +kernel
theorem dX7_line_39 : decode cX7_line 39 = .ok (.invokevirtual 253, 3) := by decide +kernel
theorem dX7_line_42 : decode cX7_line 42 = .ok (.iinc 2 1, 3) := by decide +kernel
theorem dX7_line_45 : decode cX7_line 45 = .ok (.goto (-32), 3) := by decide +kernel
theorem dX7_line_48 : decode cX7_line 48 = .ok (.aload_n 0, 1) := by decide +kernel
theorem dX7_line_49 : decode cX7_line 49 = .ok (.getfield 40, 3) := by decide +kernel
theorem dX7_line_52 : decode cX7_line 52 = .ok (.invokevirtual 256, 3) := by decide +kernel
theorem dX7_line_55 : decode cX7_line 55 = .ok (.ireturn, 1) := by decide +kernel
theorem dX7_logLine_0 : decode cX7_logLine 0 = .ok (.aload_n 0, 1) := by decide +kernel
theorem dX7_logLine_1 : decode cX7_logLine 1 = .ok (.getfield 40, 3) := by decide +kernel
theorem dX7_logLine_4 : decode cX7_logLine 4 = .ok (.invokevirtual 155, 3) := by decide +kernel
theorem dX7_logLine_7 : decode cX7_logLine 7 = .ok (.iconst 0, 1) := by decide +kernel
theorem dX7_logLine_8 : decode cX7_logLine 8 = .ok (.istore_n 1, 1) := by decide +kernel
theorem dX7_logLine_9 : decode cX7_logLine 9 = .ok (.iload_n 1, 1) := by decide +kernel
theorem dX7_logLine_10 : decode cX7_logLine 10 = .ok (.aload_n 0, 1) := by decide +kernel
theorem dX7_logLine_11 : decode cX7_logLine 11 = .ok (.getfield 10, 3) := by decide +kernel
theorem dX7_logLine_14 : decode cX7_logLine 14 = .ok (.getfield 93, 3) := by decide +kernel
theorem dX7_logLine_17 : decode cX7_logLine 17 = .ok (.invokevirtual 97, 3) := by decide +kernel
theorem dX7_logLine_20 : decode cX7_logLine 20 = .ok (.if_icmp .ge 76, 3) := by decide +kernel
theorem dX7_logLine_23 : decode cX7_logLine 23 = .ok (.aload_n 0, 1) := by decide +kernel
theorem dX7_logLine_24 : decode cX7_logLine 24 = .ok (.getfield 40, 3) := by decide +kernel
theorem dX7_logLine_27 : decode cX7_logLine 27 = .ok (.aload_n 0, 1) := by decide +kernel
theorem dX7_logLine_28 : decode cX7_logLine 28 = .ok (.getfield 10, 3) := by decide +kernel
theorem dX7_logLine_31 : decode cX7_logLine 31 = .ok (.getfield 93, 3) := by decide +kernel
theorem dX7_logLine_34 : decode cX7_logLine 34 = .ok (.iload_n 1, 1) := by decide +kernel
theorem dX7_logLine_35 : decode cX7_logLine 35 = .ok (.iconst 0, 1) := by decide +kernel
theorem dX7_logLine_36 : decode cX7_logLine 36 = .ok (.invokevirtual 105, 3) := by decide +kernel
theorem dX7_logLine_39 : decode cX7_logLine 39 = .ok (.ifCond .ne 8, 3) := by decide +kernel
theorem dX7_logLine_42 : decode cX7_logLine 42 = .ok (.bipush 114, 2) := by decide +kernel
theorem dX7_logLine_44 : decode cX7_logLine 44 = .ok (.goto 5, 3) := by decide +kernel
theorem dX7_logLine_47 : decode cX7_logLine 47 = .ok (.bipush 99, 2) := by decide +kernel
theorem dX7_logLine_49 : decode cX7_logLine 49 = .ok (.invokevirtual 257, 3) := by decide +kernel
theorem dX7_logLine_52 : decode cX7_logLine 52 = .ok (.aload_n 0, 1) := by decide +kernel
theorem dX7_logLine_53 : decode cX7_logLine 53 = .ok (.getfield 40, 3) := by decide +kernel
theorem dX7_logLine_56 : decode cX7_logLine 56 = .ok (.aload_n 0, 1) := by decide +kernel
theorem dX7_logLine_57 : decode cX7_logLine 57 = .ok (.getfield 10, 3) := by decide +kernel
theorem dX7_logLine_60 : decode cX7_logLine 60 = .ok (.getfield 93, 3) := by decide +kernel
theorem dX7_logLine_63 : decode cX7_logLine 63 = .ok (.iload_n 1, 1) := by decide +kernel
theorem dX7_logLine_64 : decode cX7_logLine 64 = .ok (.iconst 1, 1) := by decide +kernel
theorem dX7_logLine_65 : decode cX7_logLine 65 = .ok (.invokevirtual 105, 3) := by decide +kernel
theorem dX7_logLine_68 : decode cX7_logLine 68 = .ok (.invokevirtual 253, 3) := by decide +kernel
theorem dX7_logLine_71 : decode cX7_logLine 71 = .ok (.aload_n 0, 1) := by decide +kernel
theorem dX7_logLine_72 : decode cX7_logLine 72 = .ok (.getfield 40, 3) := by decide +kernel
theorem dX7_logLine_75 : decode cX7_logLine 75 = .ok (.aload_n 0, 1) := by decide +kernel
theorem dX7_logLine_76 : decode cX7_logLine 76 = .ok (.getfield 10, 3) := by decide +kernel
theorem dX7_logLine_79 : decode cX7_logLine 79 = .ok (.getfield 93, 3) := by decide +kernel
theorem dX7_logLine_82 : decode cX7_logLine 82 = .ok (.iload_n 1, 1) := by decide +kernel
theorem dX7_logLine_83 : decode cX7_logLine 83 = .ok (.iconst 2, 1) := by decide +kernel
theorem dX7_logLine_84 : decode cX7_logLine 84 = .ok (.invokevirtual 105, 3) := by decide +kernel
theorem dX7_logLine_87 : decode cX7_logLine 87 = .ok (.invokevirtual 253, 3) := by decide +kernel
theorem dX7_logLine_90 : decode cX7_logLine 90 = .ok (.iinc 1 1, 3) := by decide +kernel
theorem dX7_logLine_93 : decode cX7_logLine 93 = .ok (.goto (-84), 3) := by decide +kernel
theorem dX7_logLine_96 : decode cX7_logLine 96 = .ok (.aload_n 0, 1) := by decide +kernel
theorem dX7_logLine_97 : decode cX7_logLine 97 = .ok (.getfield 40, 3) := by decide +kernel
theorem dX7_logLine_100 : decode cX7_logLine 100 = .ok (.invokevirtual 256, 3) := by decide +kernel
theorem dX7_logLine_103 : decode cX7_logLine 103 = .ok (.ireturn, 1) := by decide +kernel
theorem dX7_cycleLine_0 : decode cX7_cycleLine 0 = .ok (.iload_n 1, 1) := by decide +kernel
theorem dX7_cycleLine_1 : decode cX7_cycleLine 1 = .ok (.invokestatic 176, 3) := by decide +kernel
theorem dX7_cycleLine_4 : decode cX7_cycleLine 4 = .ok (.aload_n 0, 1) := by decide +kernel
theorem dX7_cycleLine_5 : decode cX7_cycleLine 5 = .ok (.iload_n 1, 1) := by decide +kernel
theorem dX7_cycleLine_6 : decode cX7_cycleLine 6 = .ok (.invokevirtual 217, 3) := by decide +kernel
theorem dX7_cycleLine_9 : decode cX7_cycleLine 9 = .ok (.aload_n 0, 1) := by decide +kernel
theorem dX7_cycleLine_10 : decode cX7_cycleLine 10 = .ok (.getfield 10, 3) := by decide +kernel
theorem dX7_cycleLine_13 : decode cX7_cycleLine 13 = .ok (.iload_n 1, 1) := by decide +kernel
theorem dX7_cycleLine_14 : decode cX7_cycleLine 14 = .ok (.invokevirtual 182, 3) := by decide +kernel
theorem dX7_cycleLine_17 : decode cX7_cycleLine 17 = .ok (.astore_n 2, 1) := by decide +kernel
theorem dX7_cycleLine_18 : decode cX7_cycleLine 18 = .ok (.aload_n 0, 1) := by decide +kernel
theorem dX7_cycleLine_19 : decode cX7_cycleLine 19 = .ok (.getfield 40, 3) := by decide +kernel
theorem dX7_cycleLine_22 : decode cX7_cycleLine 22 = .ok (.invokevirtual 155, 3) := by decide +kernel
theorem dX7_cycleLine_25 : decode cX7_cycleLine 25 = .ok (.iconst 0, 1) := by decide +kernel
theorem dX7_cycleLine_26 : decode cX7_cycleLine 26 = .ok (.istore_n 3, 1) := by decide +kernel
theorem dX7_cycleLine_27 : decode cX7_cycleLine 27 = .ok (.iload_n 3, 1) := by decide +kernel
theorem dX7_cycleLine_28 : decode cX7_cycleLine 28 = .ok (.bipush 32, 2) := by decide +kernel
theorem dX7_cycleLine_30 : decode cX7_cycleLine 30 = .ok (.if_icmp .ge 35, 3) := by decide +kernel
theorem dX7_cycleLine_33 : decode cX7_cycleLine 33 = .ok (.aload_n 2, 1) := by decide +kernel
theorem dX7_cycleLine_34 : decode cX7_cycleLine 34 = .ok (.iload_n 3, 1) := by decide +kernel
theorem dX7_cycleLine_35 : decode cX7_cycleLine 35 = .ok (.invokevirtual 220, 3) := by decide +kernel
