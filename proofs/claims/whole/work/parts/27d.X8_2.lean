/-! ===== printed: decode rows of the model ===== -/
theorem dX8_back_14 : decode cX8_back 14 = .ok (.aload_n 0, 1) := by decide +kernel
theorem dX8_back_15 : decode cX8_back 15 = .ok (.iconst 1, 1) := by decide +kernel
theorem dX8_back_16 : decode cX8_back 16 = .ok (.iconst 1, 1) := by decide +kernel
theorem dX8_back_17 : decode cX8_back 17 = .ok (.iconst 0, 1) := by decide +kernel
theorem dX8_back_18 : decode cX8_back 18 = .ok (.invokevirtual 110, 3) := by decide +kernel
theorem dX8_back_21 : decode cX8_back 21 = .ok (.invokevirtual 100, 3) := by decide +kernel
theorem dX8_back_24 : decode cX8_back 24 = .ok (.ireturn, 1) := by decide +kernel
theorem dX8_back_25 : decode cX8_back 25 = .ok (.aload_n 0, 1) := by decide +kernel
theorem dX8_back_26 : decode cX8_back 26 = .ok (.getfield 9, 3) := by decide +kernel
theorem dX8_back_29 : decode cX8_back 29 = .ok (.iconst 0, 1) := by decide +kernel
theorem dX8_back_30 : decode cX8_back 30 = .ok (.dup2, 1) := by decide +kernel
theorem dX8_back_31 : decode cX8_back 31 = .ok (.iaload, 1) := by decide +kernel
theorem dX8_back_32 : decode cX8_back 32 = .ok (.iconst 1, 1) := by decide +kernel
theorem dX8_back_33 : decode cX8_back 33 = .ok (.isub, 1) := by decide +kernel
theorem dX8_back_34 : decode cX8_back 34 = .ok (.iastore, 1) := by decide +kernel
theorem dX8_back_35 : decode cX8_back 35 = .ok (.bipush 72, 2) := by decide +kernel
theorem dX8_back_37 : decode cX8_back 37 = .ok (.iconst 3, 1) := by decide +kernel
theorem dX8_back_38 : decode cX8_back 38 = .ok (.aload_n 0, 1) := by decide +kernel
theorem dX8_back_39 : decode cX8_back 39 = .ok (.getfield 9, 3) := by decide +kernel
theorem dX8_back_42 : decode cX8_back 42 = .ok (.iconst 0, 1) := by decide +kernel
theorem dX8_back_43 : decode cX8_back 43 = .ok (.iaload, 1) := by decide +kernel
theorem dX8_back_44 : decode cX8_back 44 = .ok (.imul, 1) := by decide +kernel
theorem dX8_back_45 : decode cX8_back 45 = .ok (.iadd, 1) := by decide +kernel
theorem dX8_back_46 : decode cX8_back 46 = .ok (.istore_n 1, 1) := by decide +kernel
theorem dX8_back_47 : decode cX8_back 47 = .ok (.aload_n 0, 1) := by decide +kernel
theorem dX8_back_48 : decode cX8_back 48 = .ok (.getfield 9, 3) := by decide +kernel
theorem dX8_back_51 : decode cX8_back 51 = .ok (.iload_n 1, 1) := by decide +kernel
theorem dX8_back_52 : decode cX8_back 52 = .ok (.iaload, 1) := by decide +kernel
theorem dX8_back_53 : decode cX8_back 53 = .ok (.iconst 1, 1) := by decide +kernel
theorem dX8_back_54 : decode cX8_back 54 = .ok (.if_icmp .ne 7, 3) := by decide +kernel
theorem dX8_back_57 : decode cX8_back 57 = .ok (.iconst 1, 1) := by decide +kernel
theorem dX8_back_58 : decode cX8_back 58 = .ok (.goto 4, 3) := by decide +kernel
theorem dX8_back_61 : decode cX8_back 61 = .ok (.iconst 0, 1) := by decide +kernel
theorem dX8_back_62 : decode cX8_back 62 = .ok (.istore_n 2, 1) := by decide +kernel
theorem dX8_back_63 : decode cX8_back 63 = .ok (.aload_n 0, 1) := by decide +kernel
theorem dX8_back_64 : decode cX8_back 64 = .ok (.iconst 0, 1) := by decide +kernel
theorem dX8_back_65 : decode cX8_back 65 = .ok (.putfield 60, 3) := by decide +kernel
theorem dX8_back_68 : decode cX8_back 68 = .ok (.aload_n 0, 1) := by decide +kernel
theorem dX8_back_69 : decode cX8_back 69 = .ok (.aload_n 0, 1) := by decide +kernel
theorem dX8_back_70 : decode cX8_back 70 = .ok (.iload_n 2, 1) := by decide +kernel
theorem dX8_back_71 : decode cX8_back 71 = .ok (.aload_n 0, 1) := by decide +kernel
theorem dX8_back_72 : decode cX8_back 72 = .ok (.getfield 9, 3) := by decide +kernel
theorem dX8_back_75 : decode cX8_back 75 = .ok (.iload_n 1, 1) := by decide +kernel
theorem dX8_back_76 : decode cX8_back 76 = .ok (.iconst 1, 1) := by decide +kernel
theorem dX8_back_77 : decode cX8_back 77 = .ok (.iadd, 1) := by decide +kernel
theorem dX8_back_78 : decode cX8_back 78 = .ok (.iaload, 1) := by decide +kernel
theorem dX8_back_79 : decode cX8_back 79 = .ok (.iload_n 2, 1) := by decide +kernel
theorem dX8_back_80 : decode cX8_back 80 = .ok (.ifCond .eq 7, 3) := by decide +kernel
theorem dX8_back_83 : decode cX8_back 83 = .ok (.iconst 4, 1) := by decide +kernel
theorem dX8_back_84 : decode cX8_back 84 = .ok (.goto 5, 3) := by decide +kernel
theorem dX8_back_87 : decode cX8_back 87 = .ok (.bipush 8, 2) := by decide +kernel
theorem dX8_back_89 : decode cX8_back 89 = .ok (.aload_n 0, 1) := by decide +kernel
theorem dX8_back_90 : decode cX8_back 90 = .ok (.getfield 9, 3) := by decide +kernel
theorem dX8_back_93 : decode cX8_back 93 = .ok (.iload_n 1, 1) := by decide +kernel
theorem dX8_back_94 : decode cX8_back 94 = .ok (.iconst 2, 1) := by decide +kernel
theorem dX8_back_95 : decode cX8_back 95 = .ok (.iadd, 1) := by decide +kernel
theorem dX8_back_96 : decode cX8_back 96 = .ok (.iaload, 1) := by decide +kernel
theorem dX8_back_97 : decode cX8_back 97 = .ok (.isub, 1) := by decide +kernel
theorem dX8_back_98 : decode cX8_back 98 = .ok (.invokevirtual 82, 3) := by decide +kernel
theorem dX8_back_101 : decode cX8_back 101 = .ok (.invokevirtual 86, 3) := by decide +kernel
theorem dX8_back_104 : decode cX8_back 104 = .ok (.aload_n 0, 1) := by decide +kernel
theorem dX8_back_105 : decode cX8_back 105 = .ok (.getfield 9, 3) := by decide +kernel
theorem dX8_back_108 : decode cX8_back 108 = .ok (.iconst 1, 1) := by decide +kernel
theorem dX8_back_109 : decode cX8_back 109 = .ok (.dup2, 1) := by decide +kernel
theorem dX8_back_110 : decode cX8_back 110 = .ok (.iaload, 1) := by decide +kernel
theorem dX8_back_111 : decode cX8_back 111 = .ok (.iconst 1, 1) := by decide +kernel
theorem dX8_back_112 : decode cX8_back 112 = .ok (.iadd, 1) := by decide +kernel
theorem dX8_back_113 : decode cX8_back 113 = .ok (.iastore, 1) := by decide +kernel
theorem dX8_back_114 : decode cX8_back 114 = .ok (.aload_n 0, 1) := by decide +kernel
theorem dX8_back_115 : decode cX8_back 115 = .ok (.aload_n 0, 1) := by decide +kernel
theorem dX8_back_116 : decode cX8_back 116 = .ok (.getfield 9, 3) := by decide +kernel
theorem dX8_back_119 : decode cX8_back 119 = .ok (.iconst 0, 1) := by decide +kernel
theorem dX8_back_120 : decode cX8_back 120 = .ok (.iaload, 1) := by decide +kernel
theorem dX8_back_121 : decode cX8_back 121 = .ok (.invokevirtual 100, 3) := by decide +kernel
theorem dX8_back_124 : decode cX8_back 124 = .ok (.ireturn, 1) := by decide +kernel
theorem dX8_scramble_0 : decode cX8_scramble 0 = .ok (.aload_n 0, 1) := by decide +kernel
theorem dX8_scramble_1 : decode cX8_scramble 1 = .ok (.invokevirtual 90, 3) := by decide +kernel
theorem dX8_scramble_4 : decode cX8_scramble 4 = .ok (.iload_n 1, 1) := by decide +kernel
theorem dX8_scramble_5 : decode cX8_scramble 5 = .ok (.iconst 0, 1) := by decide +kernel
theorem dX8_scramble_6 : decode cX8_scramble 6 = .ok (.sipush 9999, 3) := by decide +kernel
theorem dX8_scramble_9 : decode cX8_scramble 9 = .ok (.invokestatic 93, 3) := by decide +kernel
theorem dX8_scramble_12 : decode cX8_scramble 12 = .ok (.ifCond .eq 13, 3) := by decide +kernel
theorem dX8_scramble_15 : decode cX8_scramble 15 = .ok (.iload_n 2, 1) := by decide +kernel
theorem dX8_scramble_16 : decode cX8_scramble 16 = .ok (.iconst 1, 1) := by decide +kernel
theorem dX8_scramble_17 : decode cX8_scramble 17 = .ok (.bipush 60, 2) := by decide +kernel
theorem dX8_scramble_19 : decode cX8_scramble 19 = .ok (.invokestatic 93, 3) := by decide +kernel
theorem dX8_scramble_22 : decode cX8_scramble 22 = .ok (.ifCond .ne 13, 3) := by decide +kernel
theorem dX8_scramble_25 : decode cX8_scramble 25 = .ok (.aload_n 0, 1) := by decide +kernel
theorem dX8_scramble_26 : decode cX8_scramble 26 = .ok (.aload_n 0, 1) := by decide +kernel
theorem dX8_scramble_27 : decode cX8_scramble 27 = .ok (.iconst 1, 1) := by decide +kernel
theorem dX8_scramble_28 : decode cX8_scramble 28 = .ok (.invokevirtual 97, 3) := by decide +kernel
theorem dX8_scramble_31 : decode cX8_scramble 31 = .ok (.invokevirtual 100, 3) := by decide +kernel
theorem dX8_scramble_34 : decode cX8_scramble 34 = .ok (.ireturn, 1) := by decide +kernel
theorem dX8_scramble_35 : decode cX8_scramble 35 = .ok (.iload_n 1, 1) := by decide +kernel
theorem dX8_scramble_36 : decode cX8_scramble 36 = .ok (.iconst 1, 1) := by decide +kernel
theorem dX8_scramble_37 : decode cX8_scramble 37 = .ok (.iadd, 1) := by decide +kernel
theorem dX8_scramble_38 : decode cX8_scramble 38 = .ok (.istore_n 3, 1) := by decide +kernel
theorem dX8_scramble_39 : decode cX8_scramble 39 = .ok (.iconst 0, 1) := by decide +kernel
theorem dX8_scramble_40 : decode cX8_scramble 40 = .ok (.istore 4, 2) := by decide +kernel
theorem dX8_scramble_42 : decode cX8_scramble 42 = .ok (.iload 4, 2) := by decide +kernel
theorem dX8_scramble_44 : decode cX8_scramble 44 = .ok (.iload_n 2, 1) := by decide +kernel
theorem dX8_scramble_45 : decode cX8_scramble 45 = .ok (.if_icmp .ge 80, 3) := by decide +kernel
theorem dX8_scramble_48 : decode cX8_scramble 48 = .ok (.bipush 75, 2) := by decide +kernel
theorem dX8_scramble_50 : decode cX8_scramble 50 = .ok (.iload_n 3, 1) := by decide +kernel
theorem dX8_scramble_51 : decode cX8_scramble 51 = .ok (.imul, 1) := by decide +kernel
theorem dX8_scramble_52 : decode cX8_scramble 52 = .ok (.bipush 74, 2) := by decide +kernel
theorem dX8_scramble_54 : decode cX8_scramble 54 = .ok (.iadd, 1) := by decide +kernel
theorem dX8_scramble_55 : decode cX8_scramble 55 = .ok (.ldc 114, 2) := by decide +kernel
theorem dX8_scramble_57 : decode cX8_scramble 57 = .ok (.irem, 1) := by decide +kernel
theorem dX8_scramble_58 : decode cX8_scramble 58 = .ok (.istore_n 3, 1) := by decide +kernel
theorem dX8_scramble_59 : decode cX8_scramble 59 = .ok (.iload_n 3, 1) := by decide +kernel
theorem dX8_scramble_60 : decode cX8_scramble 60 = .ok (.iconst 2, 1) := by decide +kernel
theorem dX8_scramble_61 : decode cX8_scramble 61 = .ok (.irem, 1) := by decide +kernel
theorem dX8_scramble_62 : decode cX8_scramble 62 = .ok (.iconst 1, 1) := by decide +kernel
theorem dX8_scramble_63 : decode cX8_scramble 63 = .ok (.if_icmp .ne 7, 3) := by decide +kernel
theorem dX8_scramble_66 : decode cX8_scramble 66 = .ok (.iconst 1, 1) := by decide +kernel
theorem dX8_scramble_67 : decode cX8_scramble 67 = .ok (.goto 4, 3) := by decide +kernel
theorem dX8_scramble_70 : decode cX8_scramble 70 = .ok (.iconst 0, 1) := by decide +kernel
theorem dX8_scramble_71 : decode cX8_scramble 71 = .ok (.istore 5, 2) := by decide +kernel
theorem dX8_scramble_73 : decode cX8_scramble 73 = .ok (.iload 5, 2) := by decide +kernel
theorem dX8_scramble_75 : decode cX8_scramble 75 = .ok (.ifCond .eq 25, 3) := by decide +kernel
theorem dX8_scramble_78 : decode cX8_scramble 78 = .ok (.aload_n 0, 1) := by decide +kernel
theorem dX8_scramble_79 : decode cX8_scramble 79 = .ok (.iconst 1, 1) := by decide +kernel
theorem dX8_scramble_80 : decode cX8_scramble 80 = .ok (.iload_n 3, 1) := by decide +kernel
theorem dX8_scramble_81 : decode cX8_scramble 81 = .ok (.iconst 2, 1) := by decide +kernel
theorem dX8_scramble_82 : decode cX8_scramble 82 = .ok (.idiv, 1) := by decide +kernel
theorem dX8_scramble_83 : decode cX8_scramble 83 = .ok (.bipush 8, 2) := by decide +kernel
theorem dX8_scramble_85 : decode cX8_scramble 85 = .ok (.irem, 1) := by decide +kernel
theorem dX8_scramble_86 : decode cX8_scramble 86 = .ok (.iconst 1, 1) := by decide +kernel
theorem dX8_scramble_87 : decode cX8_scramble 87 = .ok (.iload_n 3, 1) := by decide +kernel
theorem dX8_scramble_88 : decode cX8_scramble 88 = .ok (.bipush 16, 2) := by decide +kernel
theorem dX8_scramble_90 : decode cX8_scramble 90 = .ok (.idiv, 1) := by decide +kernel
theorem dX8_scramble_91 : decode cX8_scramble 91 = .ok (.iconst 3, 1) := by decide +kernel
theorem dX8_scramble_92 : decode cX8_scramble 92 = .ok (.irem, 1) := by decide +kernel
theorem dX8_scramble_93 : decode cX8_scramble 93 = .ok (.iadd, 1) := by decide +kernel
theorem dX8_scramble_94 : decode cX8_scramble 94 = .ok (.invokevirtual 103, 3) := by decide +kernel
theorem dX8_scramble_97 : decode cX8_scramble 97 = .ok (.goto 22, 3) := by decide +kernel
theorem dX8_scramble_100 : decode cX8_scramble 100 = .ok (.aload_n 0, 1) := by decide +kernel
theorem dX8_scramble_101 : decode cX8_scramble 101 = .ok (.iconst 0, 1) := by decide +kernel
theorem dX8_scramble_102 : decode cX8_scramble 102 = .ok (.iload_n 3, 1) := by decide +kernel
theorem dX8_scramble_103 : decode cX8_scramble 103 = .ok (.iconst 2, 1) := by decide +kernel
theorem dX8_scramble_104 : decode cX8_scramble 104 = .ok (.idiv, 1) := by decide +kernel
theorem dX8_scramble_105 : decode cX8_scramble 105 = .ok (.iconst 4, 1) := by decide +kernel
theorem dX8_scramble_106 : decode cX8_scramble 106 = .ok (.irem, 1) := by decide +kernel
theorem dX8_scramble_107 : decode cX8_scramble 107 = .ok (.iconst 1, 1) := by decide +kernel
theorem dX8_scramble_108 : decode cX8_scramble 108 = .ok (.iload_n 3, 1) := by decide +kernel
theorem dX8_scramble_109 : decode cX8_scramble 109 = .ok (.bipush 8, 2) := by decide +kernel
theorem dX8_scramble_111 : decode cX8_scramble 111 = .ok (.idiv, 1) := by decide +kernel
theorem dX8_scramble_112 : decode cX8_scramble 112 = .ok (.bipush 7, 2) := by decide +kernel
theorem dX8_scramble_114 : decode cX8_scramble 114 = .ok (.irem, 1) := by decide +kernel
theorem dX8_scramble_115 : decode cX8_scramble 115 = .ok (.iadd, 1) := by decide +kernel
theorem dX8_scramble_116 : decode cX8_scramble 116 = .ok (.invokevirtual 103, 3) := by decide +kernel
theorem dX8_scramble_119 : decode cX8_scramble 119 = .ok (.iinc 4 1, 3) := by decide +kernel
theorem dX8_scramble_122 : decode cX8_scramble 122 = .ok (.goto (-80), 3) := by decide +kernel
theorem dX8_scramble_125 : decode cX8_scramble 125 = .ok (.aload_n 0, 1) := by decide +kernel
theorem dX8_scramble_126 : decode cX8_scramble 126 = .ok (.aload_n 0, 1) := by decide +kernel
theorem dX8_scramble_127 : decode cX8_scramble 127 = .ok (.invokevirtual 107, 3) := by decide +kernel
theorem dX8_scramble_130 : decode cX8_scramble 130 = .ok (.invokevirtual 100, 3) := by decide +kernel
theorem dX8_scramble_133 : decode cX8_scramble 133 = .ok (.ireturn, 1) := by decide +kernel
theorem dX8_logOf_0 : decode cX8_logOf 0 = .ok (.aload_n 0, 1) := by decide +kernel
theorem dX8_logOf_1 : decode cX8_logOf 1 = .ok (.iload_n 1, 1) := by decide +kernel
theorem dX8_logOf_2 : decode cX8_logOf 2 = .ok (.iconst 0, 1) := by decide +kernel
theorem dX8_logOf_3 : decode cX8_logOf 3 = .ok (.aload_n 0, 1) := by decide +kernel
theorem dX8_logOf_4 : decode cX8_logOf 4 = .ok (.getfield 9, 3) := by decide +kernel
theorem dX8_logOf_7 : decode cX8_logOf 7 = .ok (.iconst 0, 1) := by decide +kernel
theorem dX8_logOf_8 : decode cX8_logOf 8 = .ok (.iaload, 1) := by decide +kernel
theorem dX8_logOf_9 : decode cX8_logOf 9 = .ok (.iconst 1, 1) := by decide +kernel
theorem dX8_logOf_10 : decode cX8_logOf 10 = .ok (.isub, 1) := by decide +kernel
theorem dX8_logOf_11 : decode cX8_logOf 11 = .ok (.invokestatic 93, 3) := by decide +kernel
theorem dX8_logOf_14 : decode cX8_logOf 14 = .ok (.ifCond .ne 7, 3) := by decide +kernel
theorem dX8_logOf_17 : decode cX8_logOf 17 = .ok (.iconst 1, 1) := by decide +kernel
theorem dX8_logOf_18 : decode cX8_logOf 18 = .ok (.goto 17, 3) := by decide +kernel
theorem dX8_logOf_21 : decode cX8_logOf 21 = .ok (.iload_n 2, 1) := by decide +kernel
theorem dX8_logOf_22 : decode cX8_logOf 22 = .ok (.iconst 0, 1) := by decide +kernel
theorem dX8_logOf_23 : decode cX8_logOf 23 = .ok (.iconst 2, 1) := by decide +kernel
theorem dX8_logOf_24 : decode cX8_logOf 24 = .ok (.invokestatic 93, 3) := by decide +kernel
theorem dX8_logOf_27 : decode cX8_logOf 27 = .ok (.ifCond .ne 7, 3) := by decide +kernel
theorem dX8_logOf_30 : decode cX8_logOf 30 = .ok (.iconst 2, 1) := by decide +kernel
theorem dX8_logOf_31 : decode cX8_logOf 31 = .ok (.goto 4, 3) := by decide +kernel
theorem dX8_logOf_34 : decode cX8_logOf 34 = .ok (.iconst 0, 1) := by decide +kernel
theorem dX8_logOf_35 : decode cX8_logOf 35 = .ok (.putfield 42, 3) := by decide +kernel
theorem dX8_logOf_38 : decode cX8_logOf 38 = .ok (.aload_n 0, 1) := by decide +kernel
theorem dX8_logOf_39 : decode cX8_logOf 39 = .ok (.getfield 42, 3) := by decide +kernel
theorem dX8_logOf_42 : decode cX8_logOf 42 = .ok (.ifCond .le 7, 3) := by decide +kernel
theorem dX8_logOf_45 : decode cX8_logOf 45 = .ok (.iconst 0, 1) := by decide +kernel
theorem dX8_logOf_46 : decode cX8_logOf 46 = .ok (.goto 16, 3) := by decide +kernel
theorem dX8_logOf_49 : decode cX8_logOf 49 = .ok (.aload_n 0, 1) := by decide +kernel
theorem dX8_logOf_50 : decode cX8_logOf 50 = .ok (.getfield 9, 3) := by decide +kernel
theorem dX8_logOf_53 : decode cX8_logOf 53 = .ok (.bipush 72, 2) := by decide +kernel
theorem dX8_logOf_55 : decode cX8_logOf 55 = .ok (.iconst 3, 1) := by decide +kernel
theorem dX8_logOf_56 : decode cX8_logOf 56 = .ok (.iload_n 1, 1) := by decide +kernel
theorem dX8_logOf_57 : decode cX8_logOf 57 = .ok (.imul, 1) := by decide +kernel
theorem dX8_logOf_58 : decode cX8_logOf 58 = .ok (.iadd, 1) := by decide +kernel
theorem dX8_logOf_59 : decode cX8_logOf 59 = .ok (.iload_n 2, 1) := by decide +kernel
theorem dX8_logOf_60 : decode cX8_logOf 60 = .ok (.iadd, 1) := by decide +kernel
theorem dX8_logOf_61 : decode cX8_logOf 61 = .ok (.iaload, 1) := by decide +kernel
theorem dX8_logOf_62 : decode cX8_logOf 62 = .ok (.ireturn, 1) := by decide +kernel
theorem dX8_isSlot_0 : decode cX8_isSlot 0 = .ok (.iload_n 0, 1) := by decide +kernel
theorem dX8_isSlot_1 : decode cX8_isSlot 1 = .ok (.iconst 0, 1) := by decide +kernel
theorem dX8_isSlot_2 : decode cX8_isSlot 2 = .ok (.bipush 31, 2) := by decide +kernel
theorem dX8_isSlot_4 : decode cX8_isSlot 4 = .ok (.invokestatic 93, 3) := by decide +kernel
theorem dX8_isSlot_7 : decode cX8_isSlot 7 = .ok (.ireturn, 1) := by decide +kernel
theorem dX8_at_0 : decode cX8_at 0 = .ok (.aload_n 0, 1) := by decide +kernel
theorem dX8_at_1 : decode cX8_at 1 = .ok (.iload_n 1, 1) := by decide +kernel
theorem dX8_at_2 : decode cX8_at 2 = .ok (.invokestatic 115, 3) := by decide +kernel
theorem dX8_at_5 : decode cX8_at 5 = .ok (.ifCond .eq 7, 3) := by decide +kernel
theorem dX8_at_8 : decode cX8_at 8 = .ok (.iconst 0, 1) := by decide +kernel
theorem dX8_at_9 : decode cX8_at 9 = .ok (.goto 4, 3) := by decide +kernel
theorem dX8_at_12 : decode cX8_at 12 = .ok (.iconst 1, 1) := by decide +kernel
theorem dX8_at_13 : decode cX8_at 13 = .ok (.putfield 42, 3) := by decide +kernel
theorem dX8_at_16 : decode cX8_at 16 = .ok (.aload_n 0, 1) := by decide +kernel
theorem dX8_at_17 : decode cX8_at 17 = .ok (.getfield 42, 3) := by decide +kernel
theorem dX8_at_20 : decode cX8_at 20 = .ok (.ifCond .le 7, 3) := by decide +kernel
theorem dX8_at_23 : decode cX8_at 23 = .ok (.iconst 0, 1) := by decide +kernel
theorem dX8_at_24 : decode cX8_at 24 = .ok (.goto 12, 3) := by decide +kernel
theorem dX8_at_27 : decode cX8_at 27 = .ok (.aload_n 0, 1) := by decide +kernel
theorem dX8_at_28 : decode cX8_at 28 = .ok (.getfield 9, 3) := by decide +kernel
theorem dX8_at_31 : decode cX8_at 31 = .ok (.bipush 8, 2) := by decide +kernel
theorem dX8_at_33 : decode cX8_at 33 = .ok (.iload_n 1, 1) := by decide +kernel
theorem dX8_at_34 : decode cX8_at 34 = .ok (.iadd, 1) := by decide +kernel
theorem dX8_at_35 : decode cX8_at 35 = .ok (.iaload, 1) := by decide +kernel
theorem dX8_at_36 : decode cX8_at 36 = .ok (.ireturn, 1) := by decide +kernel
theorem dX8_slotOf_0 : decode cX8_slotOf 0 = .ok (.iconst 0, 1) := by decide +kernel
theorem dX8_slotOf_1 : decode cX8_slotOf 1 = .ok (.istore_n 2, 1) := by decide +kernel
theorem dX8_slotOf_2 : decode cX8_slotOf 2 = .ok (.aload_n 0, 1) := by decide +kernel
theorem dX8_slotOf_3 : decode cX8_slotOf 3 = .ok (.getfield 9, 3) := by decide +kernel
theorem dX8_slotOf_6 : decode cX8_slotOf 6 = .ok (.bipush 8, 2) := by decide +kernel
theorem dX8_slotOf_8 : decode cX8_slotOf 8 = .ok (.iload_n 2, 1) := by decide +kernel
theorem dX8_slotOf_9 : decode cX8_slotOf 9 = .ok (.iadd, 1) := by decide +kernel
theorem dX8_slotOf_10 : decode cX8_slotOf 10 = .ok (.iaload, 1) := by decide +kernel
theorem dX8_slotOf_11 : decode cX8_slotOf 11 = .ok (.iload_n 1, 1) := by decide +kernel
theorem dX8_slotOf_12 : decode cX8_slotOf 12 = .ok (.if_icmp .eq 9, 3) := by decide +kernel
theorem dX8_slotOf_15 : decode cX8_slotOf 15 = .ok (.iinc 2 1, 3) := by decide +kernel
theorem dX8_slotOf_18 : decode cX8_slotOf 18 = .ok (.goto (-16), 3) := by decide +kernel
theorem dX8_slotOf_21 : decode cX8_slotOf 21 = .ok (.iload_n 2, 1) := by decide +kernel
theorem dX8_slotOf_22 : decode cX8_slotOf 22 = .ok (.ireturn, 1) := by decide +kernel
theorem dX8_where_0 : decode cX8_where 0 = .ok (.aload_n 0, 1) := by decide +kernel
theorem dX8_where_1 : decode cX8_where 1 = .ok (.iload_n 1, 1) := by decide +kernel
theorem dX8_where_2 : decode cX8_where 2 = .ok (.invokestatic 115, 3) := by decide +kernel
theorem dX8_where_5 : decode cX8_where 5 = .ok (.ifCond .eq 7, 3) := by decide +kernel
theorem dX8_where_8 : decode cX8_where 8 = .ok (.iconst 0, 1) := by decide +kernel
theorem dX8_where_9 : decode cX8_where 9 = .ok (.goto 4, 3) := by decide +kernel
theorem dX8_where_12 : decode cX8_where 12 = .ok (.iconst 1, 1) := by decide +kernel
theorem dX8_where_13 : decode cX8_where 13 = .ok (.putfield 42, 3) := by decide +kernel
theorem dX8_where_16 : decode cX8_where 16 = .ok (.aload_n 0, 1) := by decide +kernel
theorem dX8_where_17 : decode cX8_where 17 = .ok (.getfield 42, 3) := by decide +kernel
theorem dX8_where_20 : decode cX8_where 20 = .ok (.ifCond .le 7, 3) := by decide +kernel
theorem dX8_where_23 : decode cX8_where 23 = .ok (.iconst 0, 1) := by decide +kernel
theorem dX8_where_24 : decode cX8_where 24 = .ok (.goto 8, 3) := by decide +kernel
theorem dX8_where_27 : decode cX8_where 27 = .ok (.aload_n 0, 1) := by decide +kernel
theorem dX8_where_28 : decode cX8_where 28 = .ok (.iload_n 1, 1) := by decide +kernel
theorem dX8_where_29 : decode cX8_where 29 = .ok (.invokevirtual 119, 3) := by decide +kernel
theorem dX8_where_32 : decode cX8_where 32 = .ok (.ireturn, 1) := by decide +kernel
theorem dX8_paint_0 : decode cX8_paint 0 = .ok (.aload_n 0, 1) := by decide +kernel
theorem dX8_paint_1 : decode cX8_paint 1 = .ok (.invokevirtual 90, 3) := by decide +kernel
theorem dX8_paint_4 : decode cX8_paint 4 = .ok (.iload_n 1, 1) := by decide +kernel
theorem dX8_paint_5 : decode cX8_paint 5 = .ok (.invokestatic 115, 3) := by decide +kernel
theorem dX8_paint_8 : decode cX8_paint 8 = .ok (.ifCond .ne 13, 3) := by decide +kernel
theorem dX8_paint_11 : decode cX8_paint 11 = .ok (.aload_n 0, 1) := by decide +kernel
theorem dX8_paint_12 : decode cX8_paint 12 = .ok (.aload_n 0, 1) := by decide +kernel
theorem dX8_paint_13 : decode cX8_paint 13 = .ok (.iconst 1, 1) := by decide +kernel
theorem dX8_paint_14 : decode cX8_paint 14 = .ok (.invokevirtual 97, 3) := by decide +kernel
theorem dX8_paint_17 : decode cX8_paint 17 = .ok (.invokevirtual 100, 3) := by decide +kernel
theorem dX8_paint_20 : decode cX8_paint 20 = .ok (.ireturn, 1) := by decide +kernel
theorem dX8_paint_21 : decode cX8_paint 21 = .ok (.iload_n 2, 1) := by decide +kernel
theorem dX8_paint_22 : decode cX8_paint 22 = .ok (.iconst 0, 1) := by decide +kernel
theorem dX8_paint_23 : decode cX8_paint 23 = .ok (.iconst 5, 1) := by decide +kernel
theorem dX8_paint_24 : decode cX8_paint 24 = .ok (.invokestatic 93, 3) := by decide +kernel
theorem dX8_paint_27 : decode cX8_paint 27 = .ok (.ifCond .ne 13, 3) := by decide +kernel
theorem dX8_paint_30 : decode cX8_paint 30 = .ok (.aload_n 0, 1) := by decide +kernel
theorem dX8_paint_31 : decode cX8_paint 31 = .ok (.aload_n 0, 1) := by decide +kernel
theorem dX8_paint_32 : decode cX8_paint 32 = .ok (.iconst 2, 1) := by decide +kernel
theorem dX8_paint_33 : decode cX8_paint 33 = .ok (.invokevirtual 97, 3) := by decide +kernel
theorem dX8_paint_36 : decode cX8_paint 36 = .ok (.invokevirtual 100, 3) := by decide +kernel
theorem dX8_paint_39 : decode cX8_paint 39 = .ok (.ireturn, 1) := by decide +kernel
theorem dX8_paint_40 : decode cX8_paint 40 = .ok (.aload_n 0, 1) := by decide +kernel
theorem dX8_paint_41 : decode cX8_paint 41 = .ok (.getfield 9, 3) := by decide +kernel
theorem dX8_paint_44 : decode cX8_paint 44 = .ok (.bipush 40, 2) := by decide +kernel
theorem dX8_paint_46 : decode cX8_paint 46 = .ok (.iload_n 1, 1) := by decide +kernel
theorem dX8_paint_47 : decode cX8_paint 47 = .ok (.iadd, 1) := by decide +kernel
theorem dX8_paint_48 : decode cX8_paint 48 = .ok (.iaload, 1) := by decide +kernel
theorem dX8_paint_49 : decode cX8_paint 49 = .ok (.istore_n 3, 1) := by decide +kernel
theorem dX8_paint_50 : decode cX8_paint 50 = .ok (.iload_n 3, 1) := by decide +kernel
theorem dX8_paint_51 : decode cX8_paint 51 = .ok (.iload_n 2, 1) := by decide +kernel
theorem dX8_paint_52 : decode cX8_paint 52 = .ok (.if_icmp .ne 15, 3) := by decide +kernel
theorem dX8_paint_55 : decode cX8_paint 55 = .ok (.aload_n 0, 1) := by decide +kernel
theorem dX8_paint_56 : decode cX8_paint 56 = .ok (.aload_n 0, 1) := by decide +kernel
theorem dX8_paint_57 : decode cX8_paint 57 = .ok (.iconst 3, 1) := by decide +kernel
theorem dX8_paint_58 : decode cX8_paint 58 = .ok (.iconst 4, 1) := by decide +kernel
theorem dX8_paint_59 : decode cX8_paint 59 = .ok (.iload_n 2, 1) := by decide +kernel
theorem dX8_paint_60 : decode cX8_paint 60 = .ok (.invokevirtual 110, 3) := by decide +kernel
theorem dX8_paint_63 : decode cX8_paint 63 = .ok (.invokevirtual 100, 3) := by decide +kernel
theorem dX8_paint_66 : decode cX8_paint 66 = .ok (.ireturn, 1) := by decide +kernel
theorem dX8_paint_67 : decode cX8_paint 67 = .ok (.aload_n 0, 1) := by decide +kernel
theorem dX8_paint_68 : decode cX8_paint 68 = .ok (.getfield 9, 3) := by decide +kernel
theorem dX8_paint_71 : decode cX8_paint 71 = .ok (.bipush 40, 2) := by decide +kernel
theorem dX8_paint_73 : decode cX8_paint 73 = .ok (.iload_n 1, 1) := by decide +kernel
theorem dX8_paint_74 : decode cX8_paint 74 = .ok (.iadd, 1) := by decide +kernel
theorem dX8_paint_75 : decode cX8_paint 75 = .ok (.iload_n 2, 1) := by decide +kernel
theorem dX8_paint_76 : decode cX8_paint 76 = .ok (.iastore, 1) := by decide +kernel
theorem dX8_paint_77 : decode cX8_paint 77 = .ok (.aload_n 0, 1) := by decide +kernel
theorem dX8_paint_78 : decode cX8_paint 78 = .ok (.iload_n 3, 1) := by decide +kernel
theorem dX8_paint_79 : decode cX8_paint 79 = .ok (.invokevirtual 100, 3) := by decide +kernel
theorem dX8_paint_82 : decode cX8_paint 82 = .ok (.ireturn, 1) := by decide +kernel
theorem dX8_colourIn_0 : decode cX8_colourIn 0 = .ok (.aload_n 0, 1) := by decide +kernel
theorem dX8_colourIn_1 : decode cX8_colourIn 1 = .ok (.getfield 9, 3) := by decide +kernel
theorem dX8_colourIn_4 : decode cX8_colourIn 4 = .ok (.bipush 40, 2) := by decide +kernel
theorem dX8_colourIn_6 : decode cX8_colourIn 6 = .ok (.aload_n 0, 1) := by decide +kernel
theorem dX8_colourIn_7 : decode cX8_colourIn 7 = .ok (.getfield 9, 3) := by decide +kernel
theorem dX8_colourIn_10 : decode cX8_colourIn 10 = .ok (.bipush 8, 2) := by decide +kernel
theorem dX8_colourIn_12 : decode cX8_colourIn 12 = .ok (.iload_n 1, 1) := by decide +kernel
theorem dX8_colourIn_13 : decode cX8_colourIn 13 = .ok (.iadd, 1) := by decide +kernel
theorem dX8_colourIn_14 : decode cX8_colourIn 14 = .ok (.iaload, 1) := by decide +kernel
theorem dX8_colourIn_15 : decode cX8_colourIn 15 = .ok (.iadd, 1) := by decide +kernel
theorem dX8_colourIn_16 : decode cX8_colourIn 16 = .ok (.iaload, 1) := by decide +kernel
theorem dX8_colourIn_17 : decode cX8_colourIn 17 = .ok (.ireturn, 1) := by decide +kernel
theorem dX8_colour_0 : decode cX8_colour 0 = .ok (.aload_n 0, 1) := by decide +kernel
theorem dX8_colour_1 : decode cX8_colour 1 = .ok (.iload_n 1, 1) := by decide +kernel
theorem dX8_colour_2 : decode cX8_colour 2 = .ok (.invokestatic 115, 3) := by decide +kernel
theorem dX8_colour_5 : decode cX8_colour 5 = .ok (.ifCond .eq 7, 3) := by decide +kernel
theorem dX8_colour_8 : decode cX8_colour 8 = .ok (.iconst 0, 1) := by decide +kernel
theorem dX8_colour_9 : decode cX8_colour 9 = .ok (.goto 4, 3) := by decide +kernel
theorem dX8_colour_12 : decode cX8_colour 12 = .ok (.iconst 1, 1) := by decide +kernel
theorem dX8_colour_13 : decode cX8_colour 13 = .ok (.putfield 42, 3) := by decide +kernel
theorem dX8_colour_16 : decode cX8_colour 16 = .ok (.aload_n 0, 1) := by decide +kernel
theorem dX8_colour_17 : decode cX8_colour 17 = .ok (.getfield 42, 3) := by decide +kernel
theorem dX8_colour_20 : decode cX8_colour 20 = .ok (.ifCond .le 7, 3) := by decide +kernel
theorem dX8_colour_23 : decode cX8_colour 23 = .ok (.iconst 0, 1) := by decide +kernel
theorem dX8_colour_24 : decode cX8_colour 24 = .ok (.goto 8, 3) := by decide +kernel
theorem dX8_colour_27 : decode cX8_colour 27 = .ok (.aload_n 0, 1) := by decide +kernel
theorem dX8_colour_28 : decode cX8_colour 28 = .ok (.iload_n 1, 1) := by decide +kernel
theorem dX8_colour_29 : decode cX8_colour 29 = .ok (.invokevirtual 122, 3) := by decide +kernel
theorem dX8_colour_32 : decode cX8_colour 32 = .ok (.ireturn, 1) := by decide +kernel
theorem dX8_isOne_0 : decode cX8_isOne 0 = .ok (.iconst 1, 1) := by decide +kernel
theorem dX8_isOne_1 : decode cX8_isOne 1 = .ok (.istore_n 2, 1) := by decide +kernel
theorem dX8_isOne_2 : decode cX8_isOne 2 = .ok (.iconst 1, 1) := by decide +kernel
theorem dX8_isOne_3 : decode cX8_isOne 3 = .ok (.istore_n 3, 1) := by decide +kernel
theorem dX8_isOne_4 : decode cX8_isOne 4 = .ok (.iload_n 3, 1) := by decide +kernel
theorem dX8_isOne_5 : decode cX8_isOne 5 = .ok (.bipush 8, 2) := by decide +kernel
theorem dX8_isOne_7 : decode cX8_isOne 7 = .ok (.if_icmp .ge 40, 3) := by decide +kernel
theorem dX8_isOne_10 : decode cX8_isOne 10 = .ok (.iload_n 2, 1) := by decide +kernel
theorem dX8_isOne_11 : decode cX8_isOne 11 = .ok (.ifCond .eq 28, 3) := by decide +kernel
theorem dX8_isOne_14 : decode cX8_isOne 14 = .ok (.aload_n 0, 1) := by decide +kernel
theorem dX8_isOne_15 : decode cX8_isOne 15 = .ok (.bipush 8, 2) := by decide +kernel
theorem dX8_isOne_17 : decode cX8_isOne 17 = .ok (.iload_n 1, 1) := by decide +kernel
theorem dX8_isOne_18 : decode cX8_isOne 18 = .ok (.imul, 1) := by decide +kernel
theorem dX8_isOne_19 : decode cX8_isOne 19 = .ok (.iload_n 3, 1) := by decide +kernel
theorem dX8_isOne_20 : decode cX8_isOne 20 = .ok (.iadd, 1) := by decide +kernel
theorem dX8_isOne_21 : decode cX8_isOne 21 = .ok (.invokevirtual 122, 3) := by decide +kernel
theorem dX8_isOne_24 : decode cX8_isOne 24 = .ok (.aload_n 0, 1) := by decide +kernel
theorem dX8_isOne_25 : decode cX8_isOne 25 = .ok (.bipush 8, 2) := by decide +kernel
theorem dX8_isOne_27 : decode cX8_isOne 27 = .ok (.iload_n 1, 1) := by decide +kernel
theorem dX8_isOne_28 : decode cX8_isOne 28 = .ok (.imul, 1) := by decide +kernel
theorem dX8_isOne_29 : decode cX8_isOne 29 = .ok (.invokevirtual 122, 3) := by decide +kernel
theorem dX8_isOne_32 : decode cX8_isOne 32 = .ok (.if_icmp .ne 7, 3) := by decide +kernel
theorem dX8_isOne_35 : decode cX8_isOne 35 = .ok (.iconst 1, 1) := by decide +kernel
theorem dX8_isOne_36 : decode cX8_isOne 36 = .ok (.goto 4, 3) := by decide +kernel
theorem dX8_isOne_39 : decode cX8_isOne 39 = .ok (.iconst 0, 1) := by decide +kernel
theorem dX8_isOne_40 : decode cX8_isOne 40 = .ok (.istore_n 2, 1) := by decide +kernel
theorem dX8_isOne_41 : decode cX8_isOne 41 = .ok (.iinc 3 1, 3) := by decide +kernel
theorem dX8_isOne_44 : decode cX8_isOne 44 = .ok (.goto (-40), 3) := by decide +kernel
theorem dX8_isOne_47 : decode cX8_isOne 47 = .ok (.iload_n 2, 1) := by decide +kernel
theorem dX8_isOne_48 : decode cX8_isOne 48 = .ok (.ireturn, 1) := by decide +kernel
theorem dX8_isDone_0 : decode cX8_isDone 0 = .ok (.aload_n 0, 1) := by decide +kernel
theorem dX8_isDone_1 : decode cX8_isDone 1 = .ok (.iload_n 1, 1) := by decide +kernel
theorem dX8_isDone_2 : decode cX8_isDone 2 = .ok (.iconst 0, 1) := by decide +kernel
theorem dX8_isDone_3 : decode cX8_isDone 3 = .ok (.iconst 3, 1) := by decide +kernel
theorem dX8_isDone_4 : decode cX8_isDone 4 = .ok (.invokestatic 93, 3) := by decide +kernel
theorem dX8_isDone_7 : decode cX8_isDone 7 = .ok (.ifCond .eq 7, 3) := by decide +kernel
theorem dX8_isDone_10 : decode cX8_isDone 10 = .ok (.iconst 0, 1) := by decide +kernel
theorem dX8_isDone_11 : decode cX8_isDone 11 = .ok (.goto 4, 3) := by decide +kernel
theorem dX8_isDone_14 : decode cX8_isDone 14 = .ok (.iconst 1, 1) := by decide +kernel
theorem dX8_isDone_15 : decode cX8_isDone 15 = .ok (.putfield 42, 3) := by decide +kernel
theorem dX8_isDone_18 : decode cX8_isDone 18 = .ok (.aload_n 0, 1) := by decide +kernel
theorem dX8_isDone_19 : decode cX8_isDone 19 = .ok (.getfield 42, 3) := by decide +kernel
theorem dX8_isDone_22 : decode cX8_isDone 22 = .ok (.ifCond .ne 15, 3) := by decide +kernel
theorem dX8_isDone_25 : decode cX8_isDone 25 = .ok (.aload_n 0, 1) := by decide +kernel
theorem dX8_isDone_26 : decode cX8_isDone 26 = .ok (.iload_n 1, 1) := by decide +kernel
theorem dX8_isDone_27 : decode cX8_isDone 27 = .ok (.invokevirtual 125, 3) := by decide +kernel
theorem dX8_isDone_30 : decode cX8_isDone 30 = .ok (.ifCond .eq 7, 3) := by decide +kernel
theorem dX8_isDone_33 : decode cX8_isDone 33 = .ok (.iconst 1, 1) := by decide +kernel
theorem dX8_isDone_34 : decode cX8_isDone 34 = .ok (.goto 4, 3) := by decide +kernel
theorem dX8_isDone_37 : decode cX8_isDone 37 = .ok (.iconst 0, 1) := by decide +kernel
theorem dX8_isDone_38 : decode cX8_isDone 38 = .ok (.ireturn, 1) := by decide +kernel
theorem dX8_seamMany_0 : decode cX8_seamMany 0 = .ok (.iconst 0, 1) := by decide +kernel
theorem dX8_seamMany_1 : decode cX8_seamMany 1 = .ok (.istore_n 1, 1) := by decide +kernel
theorem dX8_seamMany_2 : decode cX8_seamMany 2 = .ok (.iconst 0, 1) := by decide +kernel
theorem dX8_seamMany_3 : decode cX8_seamMany 3 = .ok (.istore_n 2, 1) := by decide +kernel
theorem dX8_seamMany_4 : decode cX8_seamMany 4 = .ok (.iload_n 2, 1) := by decide +kernel
theorem dX8_seamMany_5 : decode cX8_seamMany 5 = .ok (.bipush 32, 2) := by decide +kernel
theorem dX8_seamMany_7 : decode cX8_seamMany 7 = .ok (.if_icmp .ge 83, 3) := by decide +kernel
theorem dX8_seamMany_10 : decode cX8_seamMany 10 = .ok (.iload_n 2, 1) := by decide +kernel
theorem dX8_seamMany_11 : decode cX8_seamMany 11 = .ok (.bipush 8, 2) := by decide +kernel
theorem dX8_seamMany_13 : decode cX8_seamMany 13 = .ok (.irem, 1) := by decide +kernel
theorem dX8_seamMany_14 : decode cX8_seamMany 14 = .ok (.bipush 7, 2) := by decide +kernel
theorem dX8_seamMany_16 : decode cX8_seamMany 16 = .ok (.if_icmp .ne 12, 3) := by decide +kernel
theorem dX8_seamMany_19 : decode cX8_seamMany 19 = .ok (.iload_n 2, 1) := by decide +kernel
theorem dX8_seamMany_20 : decode cX8_seamMany 20 = .ok (.bipush 8, 2) := by decide +kernel
theorem dX8_seamMany_22 : decode cX8_seamMany 22 = .ok (.isub, 1) := by decide +kernel
theorem dX8_seamMany_23 : decode cX8_seamMany 23 = .ok (.iconst 1, 1) := by decide +kernel
theorem dX8_seamMany_24 : decode cX8_seamMany 24 = .ok (.iadd, 1) := by decide +kernel
theorem dX8_seamMany_25 : decode cX8_seamMany 25 = .ok (.goto 6, 3) := by decide +kernel
theorem dX8_seamMany_28 : decode cX8_seamMany 28 = .ok (.iload_n 2, 1) := by decide +kernel
theorem dX8_seamMany_29 : decode cX8_seamMany 29 = .ok (.iconst 1, 1) := by decide +kernel
theorem dX8_seamMany_30 : decode cX8_seamMany 30 = .ok (.iadd, 1) := by decide +kernel
theorem dX8_seamMany_31 : decode cX8_seamMany 31 = .ok (.istore_n 3, 1) := by decide +kernel
theorem dX8_seamMany_32 : decode cX8_seamMany 32 = .ok (.iload_n 2, 1) := by decide +kernel
theorem dX8_seamMany_33 : decode cX8_seamMany 33 = .ok (.bipush 8, 2) := by decide +kernel
theorem dX8_seamMany_35 : decode cX8_seamMany 35 = .ok (.iadd, 1) := by decide +kernel
theorem dX8_seamMany_36 : decode cX8_seamMany 36 = .ok (.bipush 32, 2) := by decide +kernel
theorem dX8_seamMany_38 : decode cX8_seamMany 38 = .ok (.irem, 1) := by decide +kernel
theorem dX8_seamMany_39 : decode cX8_seamMany 39 = .ok (.istore 4, 2) := by decide +kernel
theorem dX8_seamMany_41 : decode cX8_seamMany 41 = .ok (.iload_n 1, 1) := by decide +kernel
theorem dX8_seamMany_42 : decode cX8_seamMany 42 = .ok (.aload_n 0, 1) := by decide +kernel
theorem dX8_seamMany_43 : decode cX8_seamMany 43 = .ok (.iload_n 2, 1) := by decide +kernel
theorem dX8_seamMany_44 : decode cX8_seamMany 44 = .ok (.invokevirtual 122, 3) := by decide +kernel
theorem dX8_seamMany_47 : decode cX8_seamMany 47 = .ok (.aload_n 0, 1) := by decide +kernel
theorem dX8_seamMany_48 : decode cX8_seamMany 48 = .ok (.iload_n 3, 1) := by decide +kernel
theorem dX8_seamMany_49 : decode cX8_seamMany 49 = .ok (.invokevirtual 122, 3) := by decide +kernel
theorem dX8_seamMany_52 : decode cX8_seamMany 52 = .ok (.if_icmp .ne 7, 3) := by decide +kernel
theorem dX8_seamMany_55 : decode cX8_seamMany 55 = .ok (.iconst 0, 1) := by decide +kernel
theorem dX8_seamMany_56 : decode cX8_seamMany 56 = .ok (.goto 4, 3) := by decide +kernel
theorem dX8_seamMany_59 : decode cX8_seamMany 59 = .ok (.iconst 1, 1) := by decide +kernel
theorem dX8_seamMany_60 : decode cX8_seamMany 60 = .ok (.iadd, 1) := by decide +kernel
theorem dX8_seamMany_61 : decode cX8_seamMany 61 = .ok (.istore_n 1, 1) := by decide +kernel
theorem dX8_seamMany_62 : decode cX8_seamMany 62 = .ok (.iload_n 1, 1) := by decide +kernel
theorem dX8_seamMany_63 : decode cX8_seamMany 63 = .ok (.aload_n 0, 1) := by decide +kernel
theorem dX8_seamMany_64 : decode cX8_seamMany 64 = .ok (.iload_n 2, 1) := by decide +kernel
theorem dX8_seamMany_65 : decode cX8_seamMany 65 = .ok (.invokevirtual 122, 3) := by decide +kernel
theorem dX8_seamMany_68 : decode cX8_seamMany 68 = .ok (.aload_n 0, 1) := by decide +kernel
theorem dX8_seamMany_69 : decode cX8_seamMany 69 = .ok (.iload 4, 2) := by decide +kernel
theorem dX8_seamMany_71 : decode cX8_seamMany 71 = .ok (.invokevirtual 122, 3) := by decide +kernel
theorem dX8_seamMany_74 : decode cX8_seamMany 74 = .ok (.if_icmp .ne 7, 3) := by decide +kernel
theorem dX8_seamMany_77 : decode cX8_seamMany 77 = .ok (.iconst 0, 1) := by decide +kernel
theorem dX8_seamMany_78 : decode cX8_seamMany 78 = .ok (.goto 4, 3) := by decide +kernel
theorem dX8_seamMany_81 : decode cX8_seamMany 81 = .ok (.iconst 1, 1) := by decide +kernel
theorem dX8_seamMany_82 : decode cX8_seamMany 82 = .ok (.iadd, 1) := by decide +kernel
theorem dX8_seamMany_83 : decode cX8_seamMany 83 = .ok (.istore_n 1, 1) := by decide +kernel
theorem dX8_seamMany_84 : decode cX8_seamMany 84 = .ok (.iinc 2 1, 3) := by decide +kernel
theorem dX8_seamMany_87 : decode cX8_seamMany 87 = .ok (.goto (-83), 3) := by decide +kernel
theorem dX8_seamMany_90 : decode cX8_seamMany 90 = .ok (.iload_n 1, 1) := by decide +kernel
theorem dX8_seamMany_91 : decode cX8_seamMany 91 = .ok (.ireturn, 1) := by decide +kernel
theorem dX8_seams_0 : decode cX8_seams 0 = .ok (.aload_n 0, 1) := by decide +kernel
theorem dX8_seams_1 : decode cX8_seams 1 = .ok (.iconst 0, 1) := by decide +kernel
theorem dX8_seams_2 : decode cX8_seams 2 = .ok (.putfield 42, 3) := by decide +kernel
theorem dX8_seams_5 : decode cX8_seams 5 = .ok (.aload_n 0, 1) := by decide +kernel
theorem dX8_seams_6 : decode cX8_seams 6 = .ok (.invokevirtual 128, 3) := by decide +kernel
theorem dX8_seams_9 : decode cX8_seams 9 = .ok (.ireturn, 1) := by decide +kernel
theorem dX8_apart_0 : decode cX8_apart 0 = .ok (.iload_n 0, 1) := by decide +kernel
theorem dX8_apart_1 : decode cX8_apart 1 = .ok (.bipush 8, 2) := by decide +kernel
theorem dX8_apart_3 : decode cX8_apart 3 = .ok (.idiv, 1) := by decide +kernel
theorem dX8_apart_4 : decode cX8_apart 4 = .ok (.iload_n 1, 1) := by decide +kernel
theorem dX8_apart_5 : decode cX8_apart 5 = .ok (.bipush 8, 2) := by decide +kernel
theorem dX8_apart_7 : decode cX8_apart 7 = .ok (.idiv, 1) := by decide +kernel
theorem dX8_apart_8 : decode cX8_apart 8 = .ok (.if_icmp .eq 14, 3) := by decide +kernel
theorem dX8_apart_11 : decode cX8_apart 11 = .ok (.iload_n 0, 1) := by decide +kernel
theorem dX8_apart_12 : decode cX8_apart 12 = .ok (.bipush 8, 2) := by decide +kernel
theorem dX8_apart_14 : decode cX8_apart 14 = .ok (.irem, 1) := by decide +kernel
theorem dX8_apart_15 : decode cX8_apart 15 = .ok (.iload_n 1, 1) := by decide +kernel
theorem dX8_apart_16 : decode cX8_apart 16 = .ok (.bipush 8, 2) := by decide +kernel
theorem dX8_apart_18 : decode cX8_apart 18 = .ok (.irem, 1) := by decide +kernel
theorem dX8_apart_19 : decode cX8_apart 19 = .ok (.if_icmp .ne 7, 3) := by decide +kernel
theorem dX8_apart_22 : decode cX8_apart 22 = .ok (.iconst 1, 1) := by decide +kernel
theorem dX8_apart_23 : decode cX8_apart 23 = .ok (.goto 4, 3) := by decide +kernel
theorem dX8_apart_26 : decode cX8_apart 26 = .ok (.iconst 0, 1) := by decide +kernel
theorem dX8_apart_27 : decode cX8_apart 27 = .ok (.istore_n 2, 1) := by decide +kernel
theorem dX8_apart_28 : decode cX8_apart 28 = .ok (.iload_n 0, 1) := by decide +kernel
theorem dX8_apart_29 : decode cX8_apart 29 = .ok (.iload_n 1, 1) := by decide +kernel
theorem dX8_apart_30 : decode cX8_apart 30 = .ok (.if_icmp .ne 7, 3) := by decide +kernel
theorem dX8_apart_33 : decode cX8_apart 33 = .ok (.iconst 0, 1) := by decide +kernel
theorem dX8_apart_34 : decode cX8_apart 34 = .ok (.goto 12, 3) := by decide +kernel
theorem dX8_apart_37 : decode cX8_apart 37 = .ok (.iload_n 2, 1) := by decide +kernel
theorem dX8_apart_38 : decode cX8_apart 38 = .ok (.ifCond .eq 7, 3) := by decide +kernel
theorem dX8_apart_41 : decode cX8_apart 41 = .ok (.iconst 1, 1) := by decide +kernel
theorem dX8_apart_42 : decode cX8_apart 42 = .ok (.goto 4, 3) := by decide +kernel
theorem dX8_apart_45 : decode cX8_apart 45 = .ok (.iconst 2, 1) := by decide +kernel
theorem dX8_apart_46 : decode cX8_apart 46 = .ok (.ireturn, 1) := by decide +kernel
theorem dX8_fewest_0 : decode cX8_fewest 0 = .ok (.aload_n 0, 1) := by decide +kernel
theorem dX8_fewest_1 : decode cX8_fewest 1 = .ok (.iload_n 1, 1) := by decide +kernel
theorem dX8_fewest_2 : decode cX8_fewest 2 = .ok (.invokestatic 115, 3) := by decide +kernel
theorem dX8_fewest_5 : decode cX8_fewest 5 = .ok (.ifCond .eq 14, 3) := by decide +kernel
theorem dX8_fewest_8 : decode cX8_fewest 8 = .ok (.iload_n 2, 1) := by decide +kernel
theorem dX8_fewest_9 : decode cX8_fewest 9 = .ok (.invokestatic 115, 3) := by decide +kernel
theorem dX8_fewest_12 : decode cX8_fewest 12 = .ok (.ifCond .eq 7, 3) := by decide +kernel
theorem dX8_fewest_15 : decode cX8_fewest 15 = .ok (.iconst 0, 1) := by decide +kernel
theorem dX8_fewest_16 : decode cX8_fewest 16 = .ok (.goto 4, 3) := by decide +kernel
theorem dX8_fewest_19 : decode cX8_fewest 19 = .ok (.iconst 1, 1) := by decide +kernel
theorem dX8_fewest_20 : decode cX8_fewest 20 = .ok (.putfield 42, 3) := by decide +kernel
theorem dX8_fewest_23 : decode cX8_fewest 23 = .ok (.aload_n 0, 1) := by decide +kernel
theorem dX8_fewest_24 : decode cX8_fewest 24 = .ok (.getfield 42, 3) := by decide +kernel
theorem dX8_fewest_27 : decode cX8_fewest 27 = .ok (.ifCond .le 7, 3) := by decide +kernel
theorem dX8_fewest_30 : decode cX8_fewest 30 = .ok (.iconst 0, 1) := by decide +kernel
theorem dX8_fewest_31 : decode cX8_fewest 31 = .ok (.goto 8, 3) := by decide +kernel
theorem dX8_fewest_34 : decode cX8_fewest 34 = .ok (.iload_n 1, 1) := by decide +kernel
theorem dX8_fewest_35 : decode cX8_fewest 35 = .ok (.iload_n 2, 1) := by decide +kernel
theorem dX8_fewest_36 : decode cX8_fewest 36 = .ok (.invokestatic 131, 3) := by decide +kernel
theorem dX8_fewest_39 : decode cX8_fewest 39 = .ok (.ireturn, 1) := by decide +kernel
theorem dX8_append_0 : decode cX8_append 0 = .ok (.aload_n 0, 1) := by decide +kernel
theorem dX8_append_1 : decode cX8_append 1 = .ok (.aload_n 0, 1) := by decide +kernel
theorem dX8_append_2 : decode cX8_append 2 = .ok (.getfield 134, 3) := by decide +kernel
theorem dX8_append_5 : decode cX8_append 5 = .ok (.bipush 60, 2) := by decide +kernel
theorem dX8_append_7 : decode cX8_append 7 = .ok (.if_icmp .ne 7, 3) := by decide +kernel
theorem dX8_append_10 : decode cX8_append 10 = .ok (.iconst 1, 1) := by decide +kernel
theorem dX8_append_11 : decode cX8_append 11 = .ok (.goto 4, 3) := by decide +kernel
theorem dX8_append_14 : decode cX8_append 14 = .ok (.iconst 0, 1) := by decide +kernel
theorem dX8_append_15 : decode cX8_append 15 = .ok (.putfield 42, 3) := by decide +kernel
theorem dX8_append_18 : decode cX8_append 18 = .ok (.aload_n 0, 1) := by decide +kernel
theorem dX8_append_19 : decode cX8_append 19 = .ok (.getfield 42, 3) := by decide +kernel
theorem dX8_append_22 : decode cX8_append 22 = .ok (.ifCond .le 5, 3) := by decide +kernel
theorem dX8_append_25 : decode cX8_append 25 = .ok (.iconst 0, 1) := by decide +kernel
theorem dX8_append_26 : decode cX8_append 26 = .ok (.ireturn, 1) := by decide +kernel
theorem dX8_append_27 : decode cX8_append 27 = .ok (.aload_n 0, 1) := by decide +kernel
theorem dX8_append_28 : decode cX8_append 28 = .ok (.getfield 31, 3) := by decide +kernel
theorem dX8_append_31 : decode cX8_append 31 = .ok (.aload_n 0, 1) := by decide +kernel
theorem dX8_append_32 : decode cX8_append 32 = .ok (.getfield 134, 3) := by decide +kernel
theorem dX8_append_35 : decode cX8_append 35 = .ok (.iload_n 1, 1) := by decide +kernel
theorem dX8_append_36 : decode cX8_append 36 = .ok (.castore, 1) := by decide +kernel
theorem dX8_append_37 : decode cX8_append 37 = .ok (.aload_n 0, 1) := by decide +kernel
theorem dX8_append_38 : decode cX8_append 38 = .ok (.dup, 1) := by decide +kernel
theorem dX8_append_39 : decode cX8_append 39 = .ok (.getfield 134, 3) := by decide +kernel
theorem dX8_append_42 : decode cX8_append 42 = .ok (.iconst 1, 1) := by decide +kernel
theorem dX8_append_43 : decode cX8_append 43 = .ok (.iadd, 1) := by decide +kernel
theorem dX8_append_44 : decode cX8_append 44 = .ok (.putfield 134, 3) := by decide +kernel
theorem dX8_append_47 : decode cX8_append 47 = .ok (.aload_n 0, 1) := by decide +kernel
theorem dX8_append_48 : decode cX8_append 48 = .ok (.getfield 134, 3) := by decide +kernel
theorem dX8_append_51 : decode cX8_append 51 = .ok (.ireturn, 1) := by decide +kernel
theorem dX8_isHere_0 : decode cX8_isHere 0 = .ok (.aload_n 0, 1) := by decide +kernel
theorem dX8_isHere_1 : decode cX8_isHere 1 = .ok (.getfield 137, 3) := by decide +kernel
theorem dX8_isHere_4 : decode cX8_isHere 4 = .ok (.ifCond .ne 35, 3) := by decide +kernel
theorem dX8_isHere_7 : decode cX8_isHere 7 = .ok (.aload_n 0, 1) := by decide +kernel
theorem dX8_isHere_8 : decode cX8_isHere 8 = .ok (.getfield 141, 3) := by decide +kernel
theorem dX8_isHere_11 : decode cX8_isHere 11 = .ok (.aload_n 0, 1) := by decide +kernel
theorem dX8_isHere_12 : decode cX8_isHere 12 = .ok (.getfield 134, 3) := by decide +kernel
theorem dX8_isHere_15 : decode cX8_isHere 15 = .ok (.if_icmp .ge 24, 3) := by decide +kernel
theorem dX8_isHere_18 : decode cX8_isHere 18 = .ok (.aload_n 0, 1) := by decide +kernel
theorem dX8_isHere_19 : decode cX8_isHere 19 = .ok (.getfield 31, 3) := by decide +kernel
theorem dX8_isHere_22 : decode cX8_isHere 22 = .ok (.aload_n 0, 1) := by decide +kernel
theorem dX8_isHere_23 : decode cX8_isHere 23 = .ok (.getfield 141, 3) := by decide +kernel
theorem dX8_isHere_26 : decode cX8_isHere 26 = .ok (.caload, 1) := by decide +kernel
theorem dX8_isHere_27 : decode cX8_isHere 27 = .ok (.iload_n 1, 1) := by decide +kernel
theorem dX8_isHere_28 : decode cX8_isHere 28 = .ok (.iload_n 2, 1) := by decide +kernel
theorem dX8_isHere_29 : decode cX8_isHere 29 = .ok (.invokestatic 93, 3) := by decide +kernel
theorem dX8_isHere_32 : decode cX8_isHere 32 = .ok (.ifCond .eq 7, 3) := by decide +kernel
theorem dX8_isHere_35 : decode cX8_isHere 35 = .ok (.iconst 1, 1) := by decide +kernel
theorem dX8_isHere_36 : decode cX8_isHere 36 = .ok (.goto 4, 3) := by decide +kernel
theorem dX8_isHere_39 : decode cX8_isHere 39 = .ok (.iconst 0, 1) := by decide +kernel
theorem dX8_isHere_40 : decode cX8_isHere 40 = .ok (.ireturn, 1) := by decide +kernel
theorem dX8_sign_0 : decode cX8_sign 0 = .ok (.aload_n 0, 1) := by decide +kernel
theorem dX8_sign_1 : decode cX8_sign 1 = .ok (.aload_n 0, 1) := by decide +kernel
theorem dX8_sign_2 : decode cX8_sign 2 = .ok (.iload_n 1, 1) := by decide +kernel
theorem dX8_sign_3 : decode cX8_sign 3 = .ok (.iload_n 2, 1) := by decide +kernel
theorem dX8_sign_4 : decode cX8_sign 4 = .ok (.invokevirtual 144, 3) := by decide +kernel
theorem dX8_sign_7 : decode cX8_sign 7 = .ok (.ifCond .ne 7, 3) := by decide +kernel
theorem dX8_sign_10 : decode cX8_sign 10 = .ok (.iconst 1, 1) := by decide +kernel
theorem dX8_sign_11 : decode cX8_sign 11 = .ok (.goto 4, 3) := by decide +kernel
theorem dX8_sign_14 : decode cX8_sign 14 = .ok (.iconst 0, 1) := by decide +kernel
theorem dX8_sign_15 : decode cX8_sign 15 = .ok (.putfield 137, 3) := by decide +kernel
theorem dX8_sign_18 : decode cX8_sign 18 = .ok (.aload_n 0, 1) := by decide +kernel
theorem dX8_sign_19 : decode cX8_sign 19 = .ok (.getfield 137, 3) := by decide +kernel
theorem dX8_sign_22 : decode cX8_sign 22 = .ok (.ifCond .eq 5, 3) := by decide +kernel
theorem dX8_sign_25 : decode cX8_sign 25 = .ok (.iconst 0, 1) := by decide +kernel
theorem dX8_sign_26 : decode cX8_sign 26 = .ok (.ireturn, 1) := by decide +kernel
theorem dX8_sign_27 : decode cX8_sign 27 = .ok (.aload_n 0, 1) := by decide +kernel
theorem dX8_sign_28 : decode cX8_sign 28 = .ok (.dup, 1) := by decide +kernel
theorem dX8_sign_29 : decode cX8_sign 29 = .ok (.getfield 141, 3) := by decide +kernel
theorem dX8_sign_32 : decode cX8_sign 32 = .ok (.iconst 1, 1) := by decide +kernel
theorem dX8_sign_33 : decode cX8_sign 33 = .ok (.iadd, 1) := by decide +kernel
theorem dX8_sign_34 : decode cX8_sign 34 = .ok (.putfield 141, 3) := by decide +kernel
theorem dX8_sign_37 : decode cX8_sign 37 = .ok (.aload_n 0, 1) := by decide +kernel
theorem dX8_sign_38 : decode cX8_sign 38 = .ok (.getfield 31, 3) := by decide +kernel
theorem dX8_sign_41 : decode cX8_sign 41 = .ok (.aload_n 0, 1) := by decide +kernel
theorem dX8_sign_42 : decode cX8_sign 42 = .ok (.getfield 141, 3) := by decide +kernel
theorem dX8_sign_45 : decode cX8_sign 45 = .ok (.iconst 1, 1) := by decide +kernel
theorem dX8_sign_46 : decode cX8_sign 46 = .ok (.isub, 1) := by decide +kernel
theorem dX8_sign_47 : decode cX8_sign 47 = .ok (.caload, 1) := by decide +kernel
theorem dX8_sign_48 : decode cX8_sign 48 = .ok (.iload_n 1, 1) := by decide +kernel
theorem dX8_sign_49 : decode cX8_sign 49 = .ok (.isub, 1) := by decide +kernel
theorem dX8_sign_50 : decode cX8_sign 50 = .ok (.ireturn, 1) := by decide +kernel
theorem dX8_isItem_0 : decode cX8_isItem 0 = .ok (.aload_n 0, 1) := by decide +kernel
theorem dX8_isItem_1 : decode cX8_isItem 1 = .ok (.bipush 114, 2) := by decide +kernel
theorem dX8_isItem_3 : decode cX8_isItem 3 = .ok (.bipush 115, 2) := by decide +kernel
theorem dX8_isItem_5 : decode cX8_isItem 5 = .ok (.invokevirtual 144, 3) := by decide +kernel
theorem dX8_isItem_8 : decode cX8_isItem 8 = .ok (.ifCond .ne 14, 3) := by decide +kernel
theorem dX8_isItem_11 : decode cX8_isItem 11 = .ok (.aload_n 0, 1) := by decide +kernel
theorem dX8_isItem_12 : decode cX8_isItem 12 = .ok (.bipush 99, 2) := by decide +kernel
theorem dX8_isItem_14 : decode cX8_isItem 14 = .ok (.bipush 99, 2) := by decide +kernel
theorem dX8_isItem_16 : decode cX8_isItem 16 = .ok (.invokevirtual 144, 3) := by decide +kernel
theorem dX8_isItem_19 : decode cX8_isItem 19 = .ok (.ifCond .eq 7, 3) := by decide +kernel
theorem dX8_isItem_22 : decode cX8_isItem 22 = .ok (.iconst 1, 1) := by decide +kernel
theorem dX8_isItem_23 : decode cX8_isItem 23 = .ok (.goto 4, 3) := by decide +kernel
theorem dX8_isItem_26 : decode cX8_isItem 26 = .ok (.iconst 0, 1) := by decide +kernel
theorem dX8_isItem_27 : decode cX8_isItem 27 = .ok (.istore_n 1, 1) := by decide +kernel
theorem dX8_isItem_28 : decode cX8_isItem 28 = .ok (.iload_n 1, 1) := by decide +kernel
theorem dX8_isItem_29 : decode cX8_isItem 29 = .ok (.ifCond .ne 25, 3) := by decide +kernel
theorem dX8_isItem_32 : decode cX8_isItem 32 = .ok (.aload_n 0, 1) := by decide +kernel
theorem dX8_isItem_33 : decode cX8_isItem 33 = .ok (.bipush 40, 2) := by decide +kernel
theorem dX8_isItem_35 : decode cX8_isItem 35 = .ok (.bipush 40, 2) := by decide +kernel
theorem dX8_isItem_37 : decode cX8_isItem 37 = .ok (.invokevirtual 144, 3) := by decide +kernel
theorem dX8_isItem_40 : decode cX8_isItem 40 = .ok (.ifCond .ne 14, 3) := by decide +kernel
theorem dX8_isItem_43 : decode cX8_isItem 43 = .ok (.aload_n 0, 1) := by decide +kernel
theorem dX8_isItem_44 : decode cX8_isItem 44 = .ok (.bipush 91, 2) := by decide +kernel
theorem dX8_isItem_46 : decode cX8_isItem 46 = .ok (.bipush 91, 2) := by decide +kernel
theorem dX8_isItem_48 : decode cX8_isItem 48 = .ok (.invokevirtual 144, 3) := by decide +kernel
theorem dX8_isItem_51 : decode cX8_isItem 51 = .ok (.ifCond .eq 7, 3) := by decide +kernel
theorem dX8_isItem_54 : decode cX8_isItem 54 = .ok (.iconst 1, 1) := by decide +kernel
theorem dX8_isItem_55 : decode cX8_isItem 55 = .ok (.goto 4, 3) := by decide +kernel
theorem dX8_isItem_58 : decode cX8_isItem 58 = .ok (.iconst 0, 1) := by decide +kernel
theorem dX8_isItem_59 : decode cX8_isItem 59 = .ok (.ireturn, 1) := by decide +kernel
theorem dX8_sequence_0 : decode cX8_sequence 0 = .ok (.aload_n 0, 1) := by decide +kernel
theorem dX8_sequence_1 : decode cX8_sequence 1 = .ok (.invokevirtual 63, 3) := by decide +kernel
theorem dX8_sequence_4 : decode cX8_sequence 4 = .ok (.istore_n 2, 1) := by decide +kernel
theorem dX8_sequence_5 : decode cX8_sequence 5 = .ok (.iconst 0, 1) := by decide +kernel
theorem dX8_sequence_6 : decode cX8_sequence 6 = .ok (.istore_n 3, 1) := by decide +kernel
theorem dX8_sequence_7 : decode cX8_sequence 7 = .ok (.aload_n 0, 1) := by decide +kernel
theorem dX8_sequence_8 : decode cX8_sequence 8 = .ok (.invokevirtual 148, 3) := by decide +kernel
theorem dX8_sequence_11 : decode cX8_sequence 11 = .ok (.ifCond .ne 8, 3) := by decide +kernel
theorem dX8_sequence_14 : decode cX8_sequence 14 = .ok (.aload_n 0, 1) := by decide +kernel
theorem dX8_sequence_15 : decode cX8_sequence 15 = .ok (.iconst 1, 1) := by decide +kernel
theorem dX8_sequence_16 : decode cX8_sequence 16 = .ok (.putfield 137, 3) := by decide +kernel
theorem dX8_sequence_19 : decode cX8_sequence 19 = .ok (.aload_n 0, 1) := by decide +kernel
theorem dX8_sequence_20 : decode cX8_sequence 20 = .ok (.invokevirtual 148, 3) := by decide +kernel
theorem dX8_sequence_23 : decode cX8_sequence 23 = .ok (.ifCond .eq 59, 3) := by decide +kernel
theorem dX8_sequence_26 : decode cX8_sequence 26 = .ok (.aload_n 0, 1) := by decide +kernel
theorem dX8_sequence_27 : decode cX8_sequence 27 = .ok (.iload_n 1, 1) := by decide +kernel
theorem dX8_sequence_28 : decode cX8_sequence 28 = .ok (.invokevirtual 152, 3) := by decide +kernel
theorem dX8_sequence_31 : decode cX8_sequence 31 = .ok (.istore 4, 2) := by decide +kernel
theorem dX8_sequence_33 : decode cX8_sequence 33 = .ok (.aload_n 0, 1) := by decide +kernel
theorem dX8_sequence_34 : decode cX8_sequence 34 = .ok (.bipush 39, 2) := by decide +kernel
theorem dX8_sequence_36 : decode cX8_sequence 36 = .ok (.bipush 39, 2) := by decide +kernel
theorem dX8_sequence_38 : decode cX8_sequence 38 = .ok (.invokevirtual 144, 3) := by decide +kernel
theorem dX8_sequence_41 : decode cX8_sequence 41 = .ok (.ifCond .eq 21, 3) := by decide +kernel
theorem dX8_sequence_44 : decode cX8_sequence 44 = .ok (.aload_n 0, 1) := by decide +kernel
theorem dX8_sequence_45 : decode cX8_sequence 45 = .ok (.dup, 1) := by decide +kernel
theorem dX8_sequence_46 : decode cX8_sequence 46 = .ok (.getfield 141, 3) := by decide +kernel
theorem dX8_sequence_49 : decode cX8_sequence 49 = .ok (.iconst 1, 1) := by decide +kernel
theorem dX8_sequence_50 : decode cX8_sequence 50 = .ok (.iadd, 1) := by decide +kernel
theorem dX8_sequence_51 : decode cX8_sequence 51 = .ok (.putfield 141, 3) := by decide +kernel
theorem dX8_sequence_54 : decode cX8_sequence 54 = .ok (.aload_n 0, 1) := by decide +kernel
theorem dX8_sequence_55 : decode cX8_sequence 55 = .ok (.iload 4, 2) := by decide +kernel
theorem dX8_sequence_57 : decode cX8_sequence 57 = .ok (.invokevirtual 75, 3) := by decide +kernel
theorem dX8_sequence_60 : decode cX8_sequence 60 = .ok (.istore 4, 2) := by decide +kernel
theorem dX8_sequence_62 : decode cX8_sequence 62 = .ok (.aload_n 0, 1) := by decide +kernel
theorem dX8_sequence_63 : decode cX8_sequence 63 = .ok (.iload_n 2, 1) := by decide +kernel
theorem dX8_sequence_64 : decode cX8_sequence 64 = .ok (.iload 4, 2) := by decide +kernel
theorem dX8_sequence_66 : decode cX8_sequence 66 = .ok (.invokevirtual 67, 3) := by decide +kernel
theorem dX8_sequence_69 : decode cX8_sequence 69 = .ok (.iload_n 3, 1) := by decide +kernel
theorem dX8_sequence_70 : decode cX8_sequence 70 = .ok (.aload_n 0, 1) := by decide +kernel
theorem dX8_sequence_71 : decode cX8_sequence 71 = .ok (.getfield 25, 3) := by decide +kernel
theorem dX8_sequence_74 : decode cX8_sequence 74 = .ok (.iload 4, 2) := by decide +kernel
theorem dX8_sequence_76 : decode cX8_sequence 76 = .ok (.iaload, 1) := by decide +kernel
theorem dX8_sequence_77 : decode cX8_sequence 77 = .ok (.iadd, 1) := by decide +kernel
theorem dX8_sequence_78 : decode cX8_sequence 78 = .ok (.istore_n 3, 1) := by decide +kernel
theorem dX8_sequence_79 : decode cX8_sequence 79 = .ok (.goto (-60), 3) := by decide +kernel
theorem dX8_sequence_82 : decode cX8_sequence 82 = .ok (.aload_n 0, 1) := by decide +kernel
theorem dX8_sequence_83 : decode cX8_sequence 83 = .ok (.getfield 25, 3) := by decide +kernel
theorem dX8_sequence_86 : decode cX8_sequence 86 = .ok (.iload_n 2, 1) := by decide +kernel
theorem dX8_sequence_87 : decode cX8_sequence 87 = .ok (.iload_n 3, 1) := by decide +kernel
theorem dX8_sequence_88 : decode cX8_sequence 88 = .ok (.iastore, 1) := by decide +kernel
theorem dX8_sequence_89 : decode cX8_sequence 89 = .ok (.iload_n 2, 1) := by decide +kernel
theorem dX8_sequence_90 : decode cX8_sequence 90 = .ok (.ireturn, 1) := by decide +kernel
theorem dX8_item_0 : decode cX8_item 0 = .ok (.aload_n 0, 1) := by decide +kernel
theorem dX8_item_1 : decode cX8_item 1 = .ok (.getfield 31, 3) := by decide +kernel
theorem dX8_item_4 : decode cX8_item 4 = .ok (.aload_n 0, 1) := by decide +kernel
theorem dX8_item_5 : decode cX8_item 5 = .ok (.getfield 141, 3) := by decide +kernel
theorem dX8_item_8 : decode cX8_item 8 = .ok (.caload, 1) := by decide +kernel
theorem dX8_item_9 : decode cX8_item 9 = .ok (.istore_n 2, 1) := by decide +kernel
theorem dX8_item_10 : decode cX8_item 10 = .ok (.iload_n 2, 1) := by decide +kernel
theorem dX8_item_11 : decode cX8_item 11 = .ok (.bipush 40, 2) := by decide +kernel
theorem dX8_item_13 : decode cX8_item 13 = .ok (.if_icmp .eq 9, 3) := by decide +kernel
theorem dX8_item_16 : decode cX8_item 16 = .ok (.iload_n 2, 1) := by decide +kernel
theorem dX8_item_17 : decode cX8_item 17 = .ok (.bipush 91, 2) := by decide +kernel
theorem dX8_item_19 : decode cX8_item 19 = .ok (.if_icmp .ne 15, 3) := by decide +kernel
theorem dX8_item_22 : decode cX8_item 22 = .ok (.iload_n 1, 1) := by decide +kernel
theorem dX8_item_23 : decode cX8_item 23 = .ok (.iconst 3, 1) := by decide +kernel
theorem dX8_item_24 : decode cX8_item 24 = .ok (.if_icmp .le 10, 3) := by decide +kernel
theorem dX8_item_27 : decode cX8_item 27 = .ok (.aload_n 0, 1) := by decide +kernel
theorem dX8_item_28 : decode cX8_item 28 = .ok (.iconst 1, 1) := by decide +kernel
theorem dX8_item_29 : decode cX8_item 29 = .ok (.putfield 137, 3) := by decide +kernel
theorem dX8_item_32 : decode cX8_item 32 = .ok (.iconst 0, 1) := by decide +kernel
theorem dX8_item_33 : decode cX8_item 33 = .ok (.ireturn, 1) := by decide +kernel
theorem dX8_item_34 : decode cX8_item 34 = .ok (.aload_n 0, 1) := by decide +kernel
theorem dX8_item_35 : decode cX8_item 35 = .ok (.dup, 1) := by decide +kernel
theorem dX8_item_36 : decode cX8_item 36 = .ok (.getfield 141, 3) := by decide +kernel
theorem dX8_item_39 : decode cX8_item 39 = .ok (.iconst 1, 1) := by decide +kernel
theorem dX8_item_40 : decode cX8_item 40 = .ok (.iadd, 1) := by decide +kernel
theorem dX8_item_41 : decode cX8_item 41 = .ok (.putfield 141, 3) := by decide +kernel
theorem dX8_item_44 : decode cX8_item 44 = .ok (.iload_n 2, 1) := by decide +kernel
theorem dX8_item_45 : decode cX8_item 45 = .ok (.lookupswitch 299 #[(40, 226), (99, 95), (114, 43), (115, 147)], 43) := by decide +kernel
theorem dX8_item_88 : decode cX8_item 88 = .ok (.aload_n 0, 1) := by decide +kernel
theorem dX8_item_89 : decode cX8_item 89 = .ok (.bipush 48, 2) := by decide +kernel
theorem dX8_item_91 : decode cX8_item 91 = .ok (.bipush 51, 2) := by decide +kernel
theorem dX8_item_93 : decode cX8_item 93 = .ok (.invokevirtual 155, 3) := by decide +kernel
theorem dX8_item_96 : decode cX8_item 96 = .ok (.istore_n 3, 1) := by decide +kernel
theorem dX8_item_97 : decode cX8_item 97 = .ok (.aload_n 0, 1) := by decide +kernel
theorem dX8_item_98 : decode cX8_item 98 = .ok (.getfield 137, 3) := by decide +kernel
theorem dX8_item_101 : decode cX8_item 101 = .ok (.ifCond .eq 7, 3) := by decide +kernel
theorem dX8_item_104 : decode cX8_item 104 = .ok (.iconst 0, 1) := by decide +kernel
theorem dX8_item_105 : decode cX8_item 105 = .ok (.goto 13, 3) := by decide +kernel
theorem dX8_item_108 : decode cX8_item 108 = .ok (.iconst 1, 1) := by decide +kernel
theorem dX8_item_109 : decode cX8_item 109 = .ok (.aload_n 0, 1) := by decide +kernel
theorem dX8_item_110 : decode cX8_item 110 = .ok (.bipush 49, 2) := by decide +kernel
theorem dX8_item_112 : decode cX8_item 112 = .ok (.bipush 55, 2) := by decide +kernel
theorem dX8_item_114 : decode cX8_item 114 = .ok (.invokevirtual 155, 3) := by decide +kernel
