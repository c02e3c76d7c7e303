/-! ===== printed: decode rows of X4 ===== -/
theorem dX4_init_0 : decode cX4_init 0 = .ok (.aload_n 0, 1) := by decide +kernel
theorem dX4_init_1 : decode cX4_init 1 = .ok (.invokespecial 3, 3) := by decide +kernel
theorem dX4_init_4 : decode cX4_init 4 = .ok (.aload_n 0, 1) := by decide +kernel
theorem dX4_init_5 : decode cX4_init 5 = .ok (.new 9, 3) := by decide +kernel
theorem dX4_init_8 : decode cX4_init 8 = .ok (.dup, 1) := by decide +kernel
theorem dX4_init_9 : decode cX4_init 9 = .ok (.invokespecial 11, 3) := by decide +kernel
theorem dX4_init_12 : decode cX4_init 12 = .ok (.putfield 12, 3) := by decide +kernel
theorem dX4_init_15 : decode cX4_init 15 = .ok (.aload_n 0, 1) := by decide +kernel
theorem dX4_init_16 : decode cX4_init 16 = .ok (.iconst 0, 1) := by decide +kernel
theorem dX4_init_17 : decode cX4_init 17 = .ok (.putfield 18, 3) := by decide +kernel
theorem dX4_init_20 : decode cX4_init 20 = .ok (.aload_n 0, 1) := by decide +kernel
theorem dX4_init_21 : decode cX4_init 21 = .ok (.iconst 5, 1) := by decide +kernel
theorem dX4_init_22 : decode cX4_init 22 = .ok (.anewarray 22, 3) := by decide +kernel
theorem dX4_init_25 : decode cX4_init 25 = .ok (.putfield 24, 3) := by decide +kernel
theorem dX4_init_28 : decode cX4_init 28 = .ok (.aload_n 0, 1) := by decide +kernel
theorem dX4_init_29 : decode cX4_init 29 = .ok (.iconst 5, 1) := by decide +kernel
theorem dX4_init_30 : decode cX4_init 30 = .ok (.anewarray 22, 3) := by decide +kernel
theorem dX4_init_33 : decode cX4_init 33 = .ok (.putfield 28, 3) := by decide +kernel
theorem dX4_init_36 : decode cX4_init 36 = .ok (.aload_n 0, 1) := by decide +kernel
theorem dX4_init_37 : decode cX4_init 37 = .ok (.iconst 5, 1) := by decide +kernel
theorem dX4_init_38 : decode cX4_init 38 = .ok (.anewarray 22, 3) := by decide +kernel
theorem dX4_init_41 : decode cX4_init 41 = .ok (.putfield 31, 3) := by decide +kernel
theorem dX4_init_44 : decode cX4_init 44 = .ok (.aload_n 0, 1) := by decide +kernel
theorem dX4_init_45 : decode cX4_init 45 = .ok (.new 22, 3) := by decide +kernel
theorem dX4_init_48 : decode cX4_init 48 = .ok (.dup, 1) := by decide +kernel
theorem dX4_init_49 : decode cX4_init 49 = .ok (.invokespecial 34, 3) := by decide +kernel
theorem dX4_init_52 : decode cX4_init 52 = .ok (.putfield 35, 3) := by decide +kernel
theorem dX4_init_55 : decode cX4_init 55 = .ok (.iconst 0, 1) := by decide +kernel
theorem dX4_init_56 : decode cX4_init 56 = .ok (.istore_n 1, 1) := by decide +kernel
theorem dX4_init_57 : decode cX4_init 57 = .ok (.iload_n 1, 1) := by decide +kernel
theorem dX4_init_58 : decode cX4_init 58 = .ok (.iconst 4, 1) := by decide +kernel
theorem dX4_init_59 : decode cX4_init 59 = .ok (.if_icmp .gt 48, 3) := by decide +kernel
theorem dX4_init_62 : decode cX4_init 62 = .ok (.aload_n 0, 1) := by decide +kernel
theorem dX4_init_63 : decode cX4_init 63 = .ok (.getfield 24, 3) := by decide +kernel
theorem dX4_init_66 : decode cX4_init 66 = .ok (.iload_n 1, 1) := by decide +kernel
theorem dX4_init_67 : decode cX4_init 67 = .ok (.new 22, 3) := by decide +kernel
theorem dX4_init_70 : decode cX4_init 70 = .ok (.dup, 1) := by decide +kernel
theorem dX4_init_71 : decode cX4_init 71 = .ok (.invokespecial 34, 3) := by decide +kernel
theorem dX4_init_74 : decode cX4_init 74 = .ok (.aastore, 1) := by decide +kernel
theorem dX4_init_75 : decode cX4_init 75 = .ok (.aload_n 0, 1) := by decide +kernel
theorem dX4_init_76 : decode cX4_init 76 = .ok (.getfield 28, 3) := by decide +kernel
theorem dX4_init_79 : decode cX4_init 79 = .ok (.iload_n 1, 1) := by decide +kernel
theorem dX4_init_80 : decode cX4_init 80 = .ok (.new 22, 3) := by decide +kernel
theorem dX4_init_83 : decode cX4_init 83 = .ok (.dup, 1) := by decide +kernel
theorem dX4_init_84 : decode cX4_init 84 = .ok (.invokespecial 34, 3) := by decide +kernel
theorem dX4_init_87 : decode cX4_init 87 = .ok (.aastore, 1) := by decide +kernel
theorem dX4_init_88 : decode cX4_init 88 = .ok (.aload_n 0, 1) := by decide +kernel
theorem dX4_init_89 : decode cX4_init 89 = .ok (.getfield 31, 3) := by decide +kernel
theorem dX4_init_92 : decode cX4_init 92 = .ok (.iload_n 1, 1) := by decide +kernel
theorem dX4_init_93 : decode cX4_init 93 = .ok (.new 22, 3) := by decide +kernel
theorem dX4_init_96 : decode cX4_init 96 = .ok (.dup, 1) := by decide +kernel
theorem dX4_init_97 : decode cX4_init 97 = .ok (.invokespecial 34, 3) := by decide +kernel
theorem dX4_init_100 : decode cX4_init 100 = .ok (.aastore, 1) := by decide +kernel
theorem dX4_init_101 : decode cX4_init 101 = .ok (.iinc 1 1, 3) := by decide +kernel
theorem dX4_init_104 : decode cX4_init 104 = .ok (.goto (-47), 3) := by decide +kernel
theorem dX4_init_107 : decode cX4_init 107 = .ok (.return_, 1) := by decide +kernel
theorem dX4_place_0 : decode cX4_place 0 = .ok (.aload_n 0, 1) := by decide +kernel
theorem dX4_place_1 : decode cX4_place 1 = .ok (.getfield 18, 3) := by decide +kernel
theorem dX4_place_4 : decode cX4_place 4 = .ok (.ireturn, 1) := by decide +kernel
theorem dX4_result_0 : decode cX4_result 0 = .ok (.aload_n 0, 1) := by decide +kernel
theorem dX4_result_1 : decode cX4_result 1 = .ok (.getfield 24, 3) := by decide +kernel
theorem dX4_result_4 : decode cX4_result 4 = .ok (.iconst 0, 1) := by decide +kernel
theorem dX4_result_5 : decode cX4_result 5 = .ok (.aaload, 1) := by decide +kernel
theorem dX4_result_6 : decode cX4_result 6 = .ok (.areturn, 1) := by decide +kernel
theorem dX4_understand_0 : decode cX4_understand 0 = .ok (.aload_n 0, 1) := by decide +kernel
theorem dX4_understand_1 : decode cX4_understand 1 = .ok (.iconst 0, 1) := by decide +kernel
theorem dX4_understand_2 : decode cX4_understand 2 = .ok (.putfield 18, 3) := by decide +kernel
theorem dX4_understand_5 : decode cX4_understand 5 = .ok (.aload_n 0, 1) := by decide +kernel
theorem dX4_understand_6 : decode cX4_understand 6 = .ok (.iconst 0, 1) := by decide +kernel
theorem dX4_understand_7 : decode cX4_understand 7 = .ok (.aload_n 1, 1) := by decide +kernel
theorem dX4_understand_8 : decode cX4_understand 8 = .ok (.invokevirtual 39, 3) := by decide +kernel
theorem dX4_understand_11 : decode cX4_understand 11 = .ok (.istore_n 2, 1) := by decide +kernel
theorem dX4_understand_12 : decode cX4_understand 12 = .ok (.aload_n 0, 1) := by decide +kernel
theorem dX4_understand_13 : decode cX4_understand 13 = .ok (.getfield 18, 3) := by decide +kernel
theorem dX4_understand_16 : decode cX4_understand 16 = .ok (.aload_n 0, 1) := by decide +kernel
theorem dX4_understand_17 : decode cX4_understand 17 = .ok (.getfield 12, 3) := by decide +kernel
theorem dX4_understand_20 : decode cX4_understand 20 = .ok (.invokevirtual 43, 3) := by decide +kernel
theorem dX4_understand_23 : decode cX4_understand 23 = .ok (.if_icmp .ge 7, 3) := by decide +kernel
theorem dX4_understand_26 : decode cX4_understand 26 = .ok (.iconst (-1), 1) := by decide +kernel
theorem dX4_understand_27 : decode cX4_understand 27 = .ok (.goto 4, 3) := by decide +kernel
theorem dX4_understand_30 : decode cX4_understand 30 = .ok (.iload_n 2, 1) := by decide +kernel
theorem dX4_understand_31 : decode cX4_understand 31 = .ok (.ireturn, 1) := by decide +kernel
theorem dX4_isItemNext_0 : decode cX4_isItemNext 0 = .ok (.aload_n 0, 1) := by decide +kernel
theorem dX4_isItemNext_1 : decode cX4_isItemNext 1 = .ok (.getfield 12, 3) := by decide +kernel
theorem dX4_isItemNext_4 : decode cX4_isItemNext 4 = .ok (.aload_n 0, 1) := by decide +kernel
theorem dX4_isItemNext_5 : decode cX4_isItemNext 5 = .ok (.getfield 18, 3) := by decide +kernel
theorem dX4_isItemNext_8 : decode cX4_isItemNext 8 = .ok (.invokevirtual 47, 3) := by decide +kernel
theorem dX4_isItemNext_11 : decode cX4_isItemNext 11 = .ok (.istore_n 1, 1) := by decide +kernel
theorem dX4_isItemNext_12 : decode cX4_isItemNext 12 = .ok (.iload_n 1, 1) := by decide +kernel
theorem dX4_isItemNext_13 : decode cX4_isItemNext 13 = .ok (.bipush 114, 2) := by decide +kernel
theorem dX4_isItemNext_15 : decode cX4_isItemNext 15 = .ok (.if_icmp .eq 27, 3) := by decide +kernel
theorem dX4_isItemNext_18 : decode cX4_isItemNext 18 = .ok (.iload_n 1, 1) := by decide +kernel
theorem dX4_isItemNext_19 : decode cX4_isItemNext 19 = .ok (.bipush 99, 2) := by decide +kernel
theorem dX4_isItemNext_21 : decode cX4_isItemNext 21 = .ok (.if_icmp .eq 21, 3) := by decide +kernel
theorem dX4_isItemNext_24 : decode cX4_isItemNext 24 = .ok (.iload_n 1, 1) := by decide +kernel
theorem dX4_isItemNext_25 : decode cX4_isItemNext 25 = .ok (.bipush 115, 2) := by decide +kernel
theorem dX4_isItemNext_27 : decode cX4_isItemNext 27 = .ok (.if_icmp .eq 15, 3) := by decide +kernel
theorem dX4_isItemNext_30 : decode cX4_isItemNext 30 = .ok (.iload_n 1, 1) := by decide +kernel
theorem dX4_isItemNext_31 : decode cX4_isItemNext 31 = .ok (.bipush 40, 2) := by decide +kernel
theorem dX4_isItemNext_33 : decode cX4_isItemNext 33 = .ok (.if_icmp .eq 9, 3) := by decide +kernel
theorem dX4_isItemNext_36 : decode cX4_isItemNext 36 = .ok (.iload_n 1, 1) := by decide +kernel
theorem dX4_isItemNext_37 : decode cX4_isItemNext 37 = .ok (.bipush 91, 2) := by decide +kernel
theorem dX4_isItemNext_39 : decode cX4_isItemNext 39 = .ok (.if_icmp .ne 7, 3) := by decide +kernel
theorem dX4_isItemNext_42 : decode cX4_isItemNext 42 = .ok (.iconst 1, 1) := by decide +kernel
theorem dX4_isItemNext_43 : decode cX4_isItemNext 43 = .ok (.goto 4, 3) := by decide +kernel
theorem dX4_isItemNext_46 : decode cX4_isItemNext 46 = .ok (.iconst 0, 1) := by decide +kernel
theorem dX4_isItemNext_47 : decode cX4_isItemNext 47 = .ok (.ireturn, 1) := by decide +kernel
theorem dX4_sequence_0 : decode cX4_sequence 0 = .ok (.iload_n 1, 1) := by decide +kernel
theorem dX4_sequence_1 : decode cX4_sequence 1 = .ok (.iconst 5, 1) := by decide +kernel
theorem dX4_sequence_2 : decode cX4_sequence 2 = .ok (.invokestatic 51, 3) := by decide +kernel
theorem dX4_sequence_5 : decode cX4_sequence 5 = .ok (.ifCond .ne 5, 3) := by decide +kernel
theorem dX4_sequence_8 : decode cX4_sequence 8 = .ok (.iconst (-1), 1) := by decide +kernel
theorem dX4_sequence_9 : decode cX4_sequence 9 = .ok (.ireturn, 1) := by decide +kernel
theorem dX4_sequence_10 : decode cX4_sequence 10 = .ok (.aload_n 0, 1) := by decide +kernel
theorem dX4_sequence_11 : decode cX4_sequence 11 = .ok (.getfield 24, 3) := by decide +kernel
theorem dX4_sequence_14 : decode cX4_sequence 14 = .ok (.iload_n 1, 1) := by decide +kernel
theorem dX4_sequence_15 : decode cX4_sequence 15 = .ok (.aaload, 1) := by decide +kernel
theorem dX4_sequence_16 : decode cX4_sequence 16 = .ok (.astore_n 3, 1) := by decide +kernel
theorem dX4_sequence_17 : decode cX4_sequence 17 = .ok (.aload_n 0, 1) := by decide +kernel
theorem dX4_sequence_18 : decode cX4_sequence 18 = .ok (.getfield 28, 3) := by decide +kernel
theorem dX4_sequence_21 : decode cX4_sequence 21 = .ok (.iload_n 1, 1) := by decide +kernel
theorem dX4_sequence_22 : decode cX4_sequence 22 = .ok (.aaload, 1) := by decide +kernel
theorem dX4_sequence_23 : decode cX4_sequence 23 = .ok (.astore 4, 2) := by decide +kernel
theorem dX4_sequence_25 : decode cX4_sequence 25 = .ok (.aload_n 3, 1) := by decide +kernel
theorem dX4_sequence_26 : decode cX4_sequence 26 = .ok (.invokevirtual 55, 3) := by decide +kernel
theorem dX4_sequence_29 : decode cX4_sequence 29 = .ok (.iconst 0, 1) := by decide +kernel
theorem dX4_sequence_30 : decode cX4_sequence 30 = .ok (.istore 5, 2) := by decide +kernel
theorem dX4_sequence_32 : decode cX4_sequence 32 = .ok (.iconst 0, 1) := by decide +kernel
theorem dX4_sequence_33 : decode cX4_sequence 33 = .ok (.istore 6, 2) := by decide +kernel
theorem dX4_sequence_35 : decode cX4_sequence 35 = .ok (.iload 6, 2) := by decide +kernel
theorem dX4_sequence_37 : decode cX4_sequence 37 = .ok (.bipush 60, 2) := by decide +kernel
theorem dX4_sequence_39 : decode cX4_sequence 39 = .ok (.if_icmp .ge 52, 3) := by decide +kernel
theorem dX4_sequence_42 : decode cX4_sequence 42 = .ok (.iload 6, 2) := by decide +kernel
theorem dX4_sequence_44 : decode cX4_sequence 44 = .ok (.ifCond .eq 10, 3) := by decide +kernel
theorem dX4_sequence_47 : decode cX4_sequence 47 = .ok (.aload_n 0, 1) := by decide +kernel
theorem dX4_sequence_48 : decode cX4_sequence 48 = .ok (.invokevirtual 58, 3) := by decide +kernel
theorem dX4_sequence_51 : decode cX4_sequence 51 = .ok (.ifCond .eq 40, 3) := by decide +kernel
theorem dX4_sequence_54 : decode cX4_sequence 54 = .ok (.aload_n 0, 1) := by decide +kernel
theorem dX4_sequence_55 : decode cX4_sequence 55 = .ok (.iload_n 1, 1) := by decide +kernel
theorem dX4_sequence_56 : decode cX4_sequence 56 = .ok (.aload_n 2, 1) := by decide +kernel
theorem dX4_sequence_57 : decode cX4_sequence 57 = .ok (.aload 4, 2) := by decide +kernel
theorem dX4_sequence_59 : decode cX4_sequence 59 = .ok (.invokevirtual 62, 3) := by decide +kernel
theorem dX4_sequence_62 : decode cX4_sequence 62 = .ok (.istore 7, 2) := by decide +kernel
theorem dX4_sequence_64 : decode cX4_sequence 64 = .ok (.iload 7, 2) := by decide +kernel
theorem dX4_sequence_66 : decode cX4_sequence 66 = .ok (.iconst (-1), 1) := by decide +kernel
theorem dX4_sequence_67 : decode cX4_sequence 67 = .ok (.if_icmp .ne 5, 3) := by decide +kernel
theorem dX4_sequence_70 : decode cX4_sequence 70 = .ok (.iconst (-1), 1) := by decide +kernel
theorem dX4_sequence_71 : decode cX4_sequence 71 = .ok (.ireturn, 1) := by decide +kernel
theorem dX4_sequence_72 : decode cX4_sequence 72 = .ok (.iload 5, 2) := by decide +kernel
theorem dX4_sequence_74 : decode cX4_sequence 74 = .ok (.iload 7, 2) := by decide +kernel
theorem dX4_sequence_76 : decode cX4_sequence 76 = .ok (.iadd, 1) := by decide +kernel
theorem dX4_sequence_77 : decode cX4_sequence 77 = .ok (.istore 5, 2) := by decide +kernel
theorem dX4_sequence_79 : decode cX4_sequence 79 = .ok (.aload_n 3, 1) := by decide +kernel
theorem dX4_sequence_80 : decode cX4_sequence 80 = .ok (.aload 4, 2) := by decide +kernel
theorem dX4_sequence_82 : decode cX4_sequence 82 = .ok (.invokevirtual 66, 3) := by decide +kernel
theorem dX4_sequence_85 : decode cX4_sequence 85 = .ok (.iinc 6 1, 3) := by decide +kernel
theorem dX4_sequence_88 : decode cX4_sequence 88 = .ok (.goto (-53), 3) := by decide +kernel
theorem dX4_sequence_91 : decode cX4_sequence 91 = .ok (.iload 5, 2) := by decide +kernel
theorem dX4_sequence_93 : decode cX4_sequence 93 = .ok (.ireturn, 1) := by decide +kernel
theorem dX4_item_0 : decode cX4_item 0 = .ok (.iconst (-1), 1) := by decide +kernel
theorem dX4_item_1 : decode cX4_item 1 = .ok (.istore 4, 2) := by decide +kernel
theorem dX4_item_3 : decode cX4_item 3 = .ok (.aload_n 0, 1) := by decide +kernel
theorem dX4_item_4 : decode cX4_item 4 = .ok (.getfield 12, 3) := by decide +kernel
theorem dX4_item_7 : decode cX4_item 7 = .ok (.aload_n 0, 1) := by decide +kernel
theorem dX4_item_8 : decode cX4_item 8 = .ok (.getfield 18, 3) := by decide +kernel
theorem dX4_item_11 : decode cX4_item 11 = .ok (.invokevirtual 47, 3) := by decide +kernel
theorem dX4_item_14 : decode cX4_item 14 = .ok (.lookupswitch 107 #[(40, 83), (91, 95), (99, 61), (114, 50), (115, 72)], 50) := by decide +kernel
theorem dX4_item_64 : decode cX4_item 64 = .ok (.aload_n 0, 1) := by decide +kernel
theorem dX4_item_65 : decode cX4_item 65 = .ok (.iconst 0, 1) := by decide +kernel
theorem dX4_item_66 : decode cX4_item 66 = .ok (.aload_n 3, 1) := by decide +kernel
theorem dX4_item_67 : decode cX4_item 67 = .ok (.invokevirtual 70, 3) := by decide +kernel
theorem dX4_item_70 : decode cX4_item 70 = .ok (.istore 4, 2) := by decide +kernel
theorem dX4_item_72 : decode cX4_item 72 = .ok (.goto 51, 3) := by decide +kernel
theorem dX4_item_75 : decode cX4_item 75 = .ok (.aload_n 0, 1) := by decide +kernel
theorem dX4_item_76 : decode cX4_item 76 = .ok (.iconst 1, 1) := by decide +kernel
theorem dX4_item_77 : decode cX4_item 77 = .ok (.aload_n 3, 1) := by decide +kernel
theorem dX4_item_78 : decode cX4_item 78 = .ok (.invokevirtual 70, 3) := by decide +kernel
theorem dX4_item_81 : decode cX4_item 81 = .ok (.istore 4, 2) := by decide +kernel
theorem dX4_item_83 : decode cX4_item 83 = .ok (.goto 40, 3) := by decide +kernel
theorem dX4_item_86 : decode cX4_item 86 = .ok (.aload_n 0, 1) := by decide +kernel
theorem dX4_item_87 : decode cX4_item 87 = .ok (.aload_n 2, 1) := by decide +kernel
theorem dX4_item_88 : decode cX4_item 88 = .ok (.aload_n 3, 1) := by decide +kernel
theorem dX4_item_89 : decode cX4_item 89 = .ok (.invokevirtual 74, 3) := by decide +kernel
theorem dX4_item_92 : decode cX4_item 92 = .ok (.istore 4, 2) := by decide +kernel
theorem dX4_item_94 : decode cX4_item 94 = .ok (.goto 29, 3) := by decide +kernel
theorem dX4_item_97 : decode cX4_item 97 = .ok (.aload_n 0, 1) := by decide +kernel
theorem dX4_item_98 : decode cX4_item 98 = .ok (.iload_n 1, 1) := by decide +kernel
theorem dX4_item_99 : decode cX4_item 99 = .ok (.aload_n 2, 1) := by decide +kernel
theorem dX4_item_100 : decode cX4_item 100 = .ok (.aload_n 3, 1) := by decide +kernel
theorem dX4_item_101 : decode cX4_item 101 = .ok (.invokevirtual 78, 3) := by decide +kernel
theorem dX4_item_104 : decode cX4_item 104 = .ok (.istore 4, 2) := by decide +kernel
theorem dX4_item_106 : decode cX4_item 106 = .ok (.goto 17, 3) := by decide +kernel
theorem dX4_item_109 : decode cX4_item 109 = .ok (.aload_n 0, 1) := by decide +kernel
theorem dX4_item_110 : decode cX4_item 110 = .ok (.iload_n 1, 1) := by decide +kernel
theorem dX4_item_111 : decode cX4_item 111 = .ok (.aload_n 2, 1) := by decide +kernel
theorem dX4_item_112 : decode cX4_item 112 = .ok (.aload_n 3, 1) := by decide +kernel
theorem dX4_item_113 : decode cX4_item 113 = .ok (.invokevirtual 81, 3) := by decide +kernel
theorem dX4_item_116 : decode cX4_item 116 = .ok (.istore 4, 2) := by decide +kernel
theorem dX4_item_118 : decode cX4_item 118 = .ok (.goto 5, 3) := by decide +kernel
theorem dX4_item_121 : decode cX4_item 121 = .ok (.iconst (-1), 1) := by decide +kernel
theorem dX4_item_122 : decode cX4_item 122 = .ok (.ireturn, 1) := by decide +kernel
theorem dX4_item_123 : decode cX4_item 123 = .ok (.iload 4, 2) := by decide +kernel
theorem dX4_item_125 : decode cX4_item 125 = .ok (.iconst (-1), 1) := by decide +kernel
theorem dX4_item_126 : decode cX4_item 126 = .ok (.if_icmp .eq 45, 3) := by decide +kernel
theorem dX4_item_129 : decode cX4_item 129 = .ok (.aload_n 0, 1) := by decide +kernel
theorem dX4_item_130 : decode cX4_item 130 = .ok (.getfield 12, 3) := by decide +kernel
theorem dX4_item_133 : decode cX4_item 133 = .ok (.aload_n 0, 1) := by decide +kernel
theorem dX4_item_134 : decode cX4_item 134 = .ok (.getfield 18, 3) := by decide +kernel
theorem dX4_item_137 : decode cX4_item 137 = .ok (.invokevirtual 47, 3) := by decide +kernel
theorem dX4_item_140 : decode cX4_item 140 = .ok (.bipush 39, 2) := by decide +kernel
theorem dX4_item_142 : decode cX4_item 142 = .ok (.if_icmp .ne 29, 3) := by decide +kernel
theorem dX4_item_145 : decode cX4_item 145 = .ok (.aload_n 0, 1) := by decide +kernel
theorem dX4_item_146 : decode cX4_item 146 = .ok (.dup, 1) := by decide +kernel
theorem dX4_item_147 : decode cX4_item 147 = .ok (.getfield 18, 3) := by decide +kernel
theorem dX4_item_150 : decode cX4_item 150 = .ok (.iconst 1, 1) := by decide +kernel
theorem dX4_item_151 : decode cX4_item 151 = .ok (.iadd, 1) := by decide +kernel
theorem dX4_item_152 : decode cX4_item 152 = .ok (.putfield 18, 3) := by decide +kernel
theorem dX4_item_155 : decode cX4_item 155 = .ok (.aload_n 0, 1) := by decide +kernel
theorem dX4_item_156 : decode cX4_item 156 = .ok (.getfield 35, 3) := by decide +kernel
theorem dX4_item_159 : decode cX4_item 159 = .ok (.aload_n 3, 1) := by decide +kernel
theorem dX4_item_160 : decode cX4_item 160 = .ok (.invokevirtual 84, 3) := by decide +kernel
theorem dX4_item_163 : decode cX4_item 163 = .ok (.aload_n 3, 1) := by decide +kernel
theorem dX4_item_164 : decode cX4_item 164 = .ok (.aload_n 0, 1) := by decide +kernel
theorem dX4_item_165 : decode cX4_item 165 = .ok (.getfield 35, 3) := by decide +kernel
theorem dX4_item_168 : decode cX4_item 168 = .ok (.invokevirtual 87, 3) := by decide +kernel
theorem dX4_item_171 : decode cX4_item 171 = .ok (.iload 4, 2) := by decide +kernel
theorem dX4_item_173 : decode cX4_item 173 = .ok (.ireturn, 1) := by decide +kernel
theorem dX4_digit_0 : decode cX4_digit 0 = .ok (.aload_n 0, 1) := by decide +kernel
theorem dX4_digit_1 : decode cX4_digit 1 = .ok (.getfield 12, 3) := by decide +kernel
theorem dX4_digit_4 : decode cX4_digit 4 = .ok (.aload_n 0, 1) := by decide +kernel
theorem dX4_digit_5 : decode cX4_digit 5 = .ok (.getfield 18, 3) := by decide +kernel
theorem dX4_digit_8 : decode cX4_digit 8 = .ok (.invokevirtual 47, 3) := by decide +kernel
theorem dX4_digit_11 : decode cX4_digit 11 = .ok (.bipush 48, 2) := by decide +kernel
theorem dX4_digit_13 : decode cX4_digit 13 = .ok (.isub, 1) := by decide +kernel
theorem dX4_digit_14 : decode cX4_digit 14 = .ok (.istore_n 3, 1) := by decide +kernel
theorem dX4_digit_15 : decode cX4_digit 15 = .ok (.iload_n 3, 1) := by decide +kernel
theorem dX4_digit_16 : decode cX4_digit 16 = .ok (.iload_n 1, 1) := by decide +kernel
theorem dX4_digit_17 : decode cX4_digit 17 = .ok (.if_icmp .lt 8, 3) := by decide +kernel
theorem dX4_digit_20 : decode cX4_digit 20 = .ok (.iload_n 3, 1) := by decide +kernel
theorem dX4_digit_21 : decode cX4_digit 21 = .ok (.iload_n 2, 1) := by decide +kernel
theorem dX4_digit_22 : decode cX4_digit 22 = .ok (.if_icmp .le 5, 3) := by decide +kernel
theorem dX4_digit_25 : decode cX4_digit 25 = .ok (.iconst (-1), 1) := by decide +kernel
theorem dX4_digit_26 : decode cX4_digit 26 = .ok (.ireturn, 1) := by decide +kernel
theorem dX4_digit_27 : decode cX4_digit 27 = .ok (.aload_n 0, 1) := by decide +kernel
theorem dX4_digit_28 : decode cX4_digit 28 = .ok (.dup, 1) := by decide +kernel
theorem dX4_digit_29 : decode cX4_digit 29 = .ok (.getfield 18, 3) := by decide +kernel
theorem dX4_digit_32 : decode cX4_digit 32 = .ok (.iconst 1, 1) := by decide +kernel
theorem dX4_digit_33 : decode cX4_digit 33 = .ok (.iadd, 1) := by decide +kernel
theorem dX4_digit_34 : decode cX4_digit 34 = .ok (.putfield 18, 3) := by decide +kernel
theorem dX4_digit_37 : decode cX4_digit 37 = .ok (.iload_n 3, 1) := by decide +kernel
theorem dX4_digit_38 : decode cX4_digit 38 = .ok (.ireturn, 1) := by decide +kernel
theorem dX4_moveItem_0 : decode cX4_moveItem 0 = .ok (.aload_n 0, 1) := by decide +kernel
theorem dX4_moveItem_1 : decode cX4_moveItem 1 = .ok (.dup, 1) := by decide +kernel
theorem dX4_moveItem_2 : decode cX4_moveItem 2 = .ok (.getfield 18, 3) := by decide +kernel
theorem dX4_moveItem_5 : decode cX4_moveItem 5 = .ok (.iconst 1, 1) := by decide +kernel
theorem dX4_moveItem_6 : decode cX4_moveItem 6 = .ok (.iadd, 1) := by decide +kernel
theorem dX4_moveItem_7 : decode cX4_moveItem 7 = .ok (.putfield 18, 3) := by decide +kernel
theorem dX4_moveItem_10 : decode cX4_moveItem 10 = .ok (.aload_n 0, 1) := by decide +kernel
theorem dX4_moveItem_11 : decode cX4_moveItem 11 = .ok (.iconst 0, 1) := by decide +kernel
theorem dX4_moveItem_12 : decode cX4_moveItem 12 = .ok (.iload_n 1, 1) := by decide +kernel
theorem dX4_moveItem_13 : decode cX4_moveItem 13 = .ok (.ifCond .ne 7, 3) := by decide +kernel
theorem dX4_moveItem_16 : decode cX4_moveItem 16 = .ok (.iconst 3, 1) := by decide +kernel
theorem dX4_moveItem_17 : decode cX4_moveItem 17 = .ok (.goto 5, 3) := by decide +kernel
theorem dX4_moveItem_20 : decode cX4_moveItem 20 = .ok (.bipush 7, 2) := by decide +kernel
theorem dX4_moveItem_22 : decode cX4_moveItem 22 = .ok (.invokevirtual 90, 3) := by decide +kernel
theorem dX4_moveItem_25 : decode cX4_moveItem 25 = .ok (.istore_n 3, 1) := by decide +kernel
theorem dX4_moveItem_26 : decode cX4_moveItem 26 = .ok (.iload_n 3, 1) := by decide +kernel
theorem dX4_moveItem_27 : decode cX4_moveItem 27 = .ok (.iconst (-1), 1) := by decide +kernel
theorem dX4_moveItem_28 : decode cX4_moveItem 28 = .ok (.if_icmp .ne 7, 3) := by decide +kernel
theorem dX4_moveItem_31 : decode cX4_moveItem 31 = .ok (.iconst (-1), 1) := by decide +kernel
theorem dX4_moveItem_32 : decode cX4_moveItem 32 = .ok (.goto 14, 3) := by decide +kernel
theorem dX4_moveItem_35 : decode cX4_moveItem 35 = .ok (.aload_n 0, 1) := by decide +kernel
theorem dX4_moveItem_36 : decode cX4_moveItem 36 = .ok (.iconst 1, 1) := by decide +kernel
theorem dX4_moveItem_37 : decode cX4_moveItem 37 = .ok (.iload_n 1, 1) := by decide +kernel
theorem dX4_moveItem_38 : decode cX4_moveItem 38 = .ok (.invokestatic 94, 3) := by decide +kernel
theorem dX4_moveItem_41 : decode cX4_moveItem 41 = .ok (.iconst 1, 1) := by decide +kernel
theorem dX4_moveItem_42 : decode cX4_moveItem 42 = .ok (.isub, 1) := by decide +kernel
theorem dX4_moveItem_43 : decode cX4_moveItem 43 = .ok (.invokevirtual 90, 3) := by decide +kernel
theorem dX4_moveItem_46 : decode cX4_moveItem 46 = .ok (.istore 4, 2) := by decide +kernel
theorem dX4_moveItem_48 : decode cX4_moveItem 48 = .ok (.iload 4, 2) := by decide +kernel
theorem dX4_moveItem_50 : decode cX4_moveItem 50 = .ok (.iconst (-1), 1) := by decide +kernel
theorem dX4_moveItem_51 : decode cX4_moveItem 51 = .ok (.if_icmp .ne 5, 3) := by decide +kernel
theorem dX4_moveItem_54 : decode cX4_moveItem 54 = .ok (.iconst (-1), 1) := by decide +kernel
theorem dX4_moveItem_55 : decode cX4_moveItem 55 = .ok (.ireturn, 1) := by decide +kernel
theorem dX4_moveItem_56 : decode cX4_moveItem 56 = .ok (.aload_n 2, 1) := by decide +kernel
theorem dX4_moveItem_57 : decode cX4_moveItem 57 = .ok (.iload_n 1, 1) := by decide +kernel
theorem dX4_moveItem_58 : decode cX4_moveItem 58 = .ok (.iload_n 3, 1) := by decide +kernel
theorem dX4_moveItem_59 : decode cX4_moveItem 59 = .ok (.iload 4, 2) := by decide +kernel
theorem dX4_moveItem_61 : decode cX4_moveItem 61 = .ok (.invokevirtual 97, 3) := by decide +kernel
theorem dX4_moveItem_64 : decode cX4_moveItem 64 = .ok (.iconst 1, 1) := by decide +kernel
theorem dX4_moveItem_65 : decode cX4_moveItem 65 = .ok (.ireturn, 1) := by decide +kernel
theorem dX4_shelfItem_0 : decode cX4_shelfItem 0 = .ok (.aload_n 0, 1) := by decide +kernel
theorem dX4_shelfItem_1 : decode cX4_shelfItem 1 = .ok (.dup, 1) := by decide +kernel
theorem dX4_shelfItem_2 : decode cX4_shelfItem 2 = .ok (.getfield 18, 3) := by decide +kernel
theorem dX4_shelfItem_5 : decode cX4_shelfItem 5 = .ok (.iconst 1, 1) := by decide +kernel
theorem dX4_shelfItem_6 : decode cX4_shelfItem 6 = .ok (.iadd, 1) := by decide +kernel
theorem dX4_shelfItem_7 : decode cX4_shelfItem 7 = .ok (.putfield 18, 3) := by decide +kernel
theorem dX4_shelfItem_10 : decode cX4_shelfItem 10 = .ok (.aload_n 0, 1) := by decide +kernel
theorem dX4_shelfItem_11 : decode cX4_shelfItem 11 = .ok (.getfield 12, 3) := by decide +kernel
theorem dX4_shelfItem_14 : decode cX4_shelfItem 14 = .ok (.aload_n 0, 1) := by decide +kernel
theorem dX4_shelfItem_15 : decode cX4_shelfItem 15 = .ok (.getfield 18, 3) := by decide +kernel
theorem dX4_shelfItem_18 : decode cX4_shelfItem 18 = .ok (.invokevirtual 47, 3) := by decide +kernel
theorem dX4_shelfItem_21 : decode cX4_shelfItem 21 = .ok (.bipush 48, 2) := by decide +kernel
theorem dX4_shelfItem_23 : decode cX4_shelfItem 23 = .ok (.isub, 1) := by decide +kernel
theorem dX4_shelfItem_24 : decode cX4_shelfItem 24 = .ok (.istore_n 3, 1) := by decide +kernel
theorem dX4_shelfItem_25 : decode cX4_shelfItem 25 = .ok (.aload_n 1, 1) := by decide +kernel
theorem dX4_shelfItem_26 : decode cX4_shelfItem 26 = .ok (.iload_n 3, 1) := by decide +kernel
theorem dX4_shelfItem_27 : decode cX4_shelfItem 27 = .ok (.invokevirtual 101, 3) := by decide +kernel
theorem dX4_shelfItem_30 : decode cX4_shelfItem 30 = .ok (.ifCond .ne 5, 3) := by decide +kernel
theorem dX4_shelfItem_33 : decode cX4_shelfItem 33 = .ok (.iconst (-1), 1) := by decide +kernel
theorem dX4_shelfItem_34 : decode cX4_shelfItem 34 = .ok (.ireturn, 1) := by decide +kernel
theorem dX4_shelfItem_35 : decode cX4_shelfItem 35 = .ok (.aload_n 0, 1) := by decide +kernel
theorem dX4_shelfItem_36 : decode cX4_shelfItem 36 = .ok (.dup, 1) := by decide +kernel
theorem dX4_shelfItem_37 : decode cX4_shelfItem 37 = .ok (.getfield 18, 3) := by decide +kernel
theorem dX4_shelfItem_40 : decode cX4_shelfItem 40 = .ok (.iconst 1, 1) := by decide +kernel
theorem dX4_shelfItem_41 : decode cX4_shelfItem 41 = .ok (.iadd, 1) := by decide +kernel
theorem dX4_shelfItem_42 : decode cX4_shelfItem 42 = .ok (.putfield 18, 3) := by decide +kernel
theorem dX4_shelfItem_45 : decode cX4_shelfItem 45 = .ok (.aload_n 2, 1) := by decide +kernel
theorem dX4_shelfItem_46 : decode cX4_shelfItem 46 = .ok (.aload_n 1, 1) := by decide +kernel
theorem dX4_shelfItem_47 : decode cX4_shelfItem 47 = .ok (.iload_n 3, 1) := by decide +kernel
theorem dX4_shelfItem_48 : decode cX4_shelfItem 48 = .ok (.invokevirtual 107, 3) := by decide +kernel
theorem dX4_shelfItem_51 : decode cX4_shelfItem 51 = .ok (.invokevirtual 87, 3) := by decide +kernel
theorem dX4_shelfItem_54 : decode cX4_shelfItem 54 = .ok (.iconst 1, 1) := by decide +kernel
theorem dX4_shelfItem_55 : decode cX4_shelfItem 55 = .ok (.ireturn, 1) := by decide +kernel
theorem dX4_repeatedItem_0 : decode cX4_repeatedItem 0 = .ok (.iload_n 1, 1) := by decide +kernel
theorem dX4_repeatedItem_1 : decode cX4_repeatedItem 1 = .ok (.iconst 4, 1) := by decide +kernel
theorem dX4_repeatedItem_2 : decode cX4_repeatedItem 2 = .ok (.invokestatic 51, 3) := by decide +kernel
theorem dX4_repeatedItem_5 : decode cX4_repeatedItem 5 = .ok (.ifCond .ne 5, 3) := by decide +kernel
theorem dX4_repeatedItem_8 : decode cX4_repeatedItem 8 = .ok (.iconst (-1), 1) := by decide +kernel
theorem dX4_repeatedItem_9 : decode cX4_repeatedItem 9 = .ok (.ireturn, 1) := by decide +kernel
theorem dX4_repeatedItem_10 : decode cX4_repeatedItem 10 = .ok (.aload_n 0, 1) := by decide +kernel
theorem dX4_repeatedItem_11 : decode cX4_repeatedItem 11 = .ok (.dup, 1) := by decide +kernel
theorem dX4_repeatedItem_12 : decode cX4_repeatedItem 12 = .ok (.getfield 18, 3) := by decide +kernel
theorem dX4_repeatedItem_15 : decode cX4_repeatedItem 15 = .ok (.iconst 1, 1) := by decide +kernel
theorem dX4_repeatedItem_16 : decode cX4_repeatedItem 16 = .ok (.iadd, 1) := by decide +kernel
theorem dX4_repeatedItem_17 : decode cX4_repeatedItem 17 = .ok (.putfield 18, 3) := by decide +kernel
theorem dX4_repeatedItem_20 : decode cX4_repeatedItem 20 = .ok (.aload_n 0, 1) := by decide +kernel
theorem dX4_repeatedItem_21 : decode cX4_repeatedItem 21 = .ok (.iload_n 1, 1) := by decide +kernel
theorem dX4_repeatedItem_22 : decode cX4_repeatedItem 22 = .ok (.iconst 1, 1) := by decide +kernel
theorem dX4_repeatedItem_23 : decode cX4_repeatedItem 23 = .ok (.iadd, 1) := by decide +kernel
theorem dX4_repeatedItem_24 : decode cX4_repeatedItem 24 = .ok (.aload_n 2, 1) := by decide +kernel
theorem dX4_repeatedItem_25 : decode cX4_repeatedItem 25 = .ok (.invokevirtual 39, 3) := by decide +kernel
theorem dX4_repeatedItem_28 : decode cX4_repeatedItem 28 = .ok (.istore 4, 2) := by decide +kernel
theorem dX4_repeatedItem_30 : decode cX4_repeatedItem 30 = .ok (.iload 4, 2) := by decide +kernel
theorem dX4_repeatedItem_32 : decode cX4_repeatedItem 32 = .ok (.iconst (-1), 1) := by decide +kernel
theorem dX4_repeatedItem_33 : decode cX4_repeatedItem 33 = .ok (.if_icmp .eq 19, 3) := by decide +kernel
theorem dX4_repeatedItem_36 : decode cX4_repeatedItem 36 = .ok (.aload_n 0, 1) := by decide +kernel
theorem dX4_repeatedItem_37 : decode cX4_repeatedItem 37 = .ok (.getfield 12, 3) := by decide +kernel
theorem dX4_repeatedItem_40 : decode cX4_repeatedItem 40 = .ok (.aload_n 0, 1) := by decide +kernel
theorem dX4_repeatedItem_41 : decode cX4_repeatedItem 41 = .ok (.getfield 18, 3) := by decide +kernel
theorem dX4_repeatedItem_44 : decode cX4_repeatedItem 44 = .ok (.invokevirtual 47, 3) := by decide +kernel
theorem dX4_repeatedItem_47 : decode cX4_repeatedItem 47 = .ok (.bipush 41, 2) := by decide +kernel
theorem dX4_repeatedItem_49 : decode cX4_repeatedItem 49 = .ok (.if_icmp .eq 5, 3) := by decide +kernel
theorem dX4_repeatedItem_52 : decode cX4_repeatedItem 52 = .ok (.iconst (-1), 1) := by decide +kernel
theorem dX4_repeatedItem_53 : decode cX4_repeatedItem 53 = .ok (.ireturn, 1) := by decide +kernel
theorem dX4_repeatedItem_54 : decode cX4_repeatedItem 54 = .ok (.aload_n 0, 1) := by decide +kernel
theorem dX4_repeatedItem_55 : decode cX4_repeatedItem 55 = .ok (.dup, 1) := by decide +kernel
theorem dX4_repeatedItem_56 : decode cX4_repeatedItem 56 = .ok (.getfield 18, 3) := by decide +kernel
theorem dX4_repeatedItem_59 : decode cX4_repeatedItem 59 = .ok (.iconst 1, 1) := by decide +kernel
theorem dX4_repeatedItem_60 : decode cX4_repeatedItem 60 = .ok (.iadd, 1) := by decide +kernel
theorem dX4_repeatedItem_61 : decode cX4_repeatedItem 61 = .ok (.putfield 18, 3) := by decide +kernel
theorem dX4_repeatedItem_64 : decode cX4_repeatedItem 64 = .ok (.aload_n 0, 1) := by decide +kernel
theorem dX4_repeatedItem_65 : decode cX4_repeatedItem 65 = .ok (.iconst 2, 1) := by decide +kernel
theorem dX4_repeatedItem_66 : decode cX4_repeatedItem 66 = .ok (.bipush 9, 2) := by decide +kernel
theorem dX4_repeatedItem_68 : decode cX4_repeatedItem 68 = .ok (.invokevirtual 90, 3) := by decide +kernel
theorem dX4_repeatedItem_71 : decode cX4_repeatedItem 71 = .ok (.istore 5, 2) := by decide +kernel
theorem dX4_repeatedItem_73 : decode cX4_repeatedItem 73 = .ok (.iload 5, 2) := by decide +kernel
theorem dX4_repeatedItem_75 : decode cX4_repeatedItem 75 = .ok (.iconst (-1), 1) := by decide +kernel
theorem dX4_repeatedItem_76 : decode cX4_repeatedItem 76 = .ok (.if_icmp .ne 5, 3) := by decide +kernel
theorem dX4_repeatedItem_79 : decode cX4_repeatedItem 79 = .ok (.iconst (-1), 1) := by decide +kernel
theorem dX4_repeatedItem_80 : decode cX4_repeatedItem 80 = .ok (.ireturn, 1) := by decide +kernel
theorem dX4_repeatedItem_81 : decode cX4_repeatedItem 81 = .ok (.aload_n 3, 1) := by decide +kernel
theorem dX4_repeatedItem_82 : decode cX4_repeatedItem 82 = .ok (.aload_n 0, 1) := by decide +kernel
theorem dX4_repeatedItem_83 : decode cX4_repeatedItem 83 = .ok (.getfield 24, 3) := by decide +kernel
theorem dX4_repeatedItem_86 : decode cX4_repeatedItem 86 = .ok (.iload_n 1, 1) := by decide +kernel
theorem dX4_repeatedItem_87 : decode cX4_repeatedItem 87 = .ok (.iconst 1, 1) := by decide +kernel
theorem dX4_repeatedItem_88 : decode cX4_repeatedItem 88 = .ok (.iadd, 1) := by decide +kernel
theorem dX4_repeatedItem_89 : decode cX4_repeatedItem 89 = .ok (.aaload, 1) := by decide +kernel
theorem dX4_repeatedItem_90 : decode cX4_repeatedItem 90 = .ok (.iload 5, 2) := by decide +kernel
theorem dX4_repeatedItem_92 : decode cX4_repeatedItem 92 = .ok (.invokevirtual 111, 3) := by decide +kernel
theorem dX4_repeatedItem_95 : decode cX4_repeatedItem 95 = .ok (.iload 4, 2) := by decide +kernel
theorem dX4_repeatedItem_97 : decode cX4_repeatedItem 97 = .ok (.iload 5, 2) := by decide +kernel
theorem dX4_repeatedItem_99 : decode cX4_repeatedItem 99 = .ok (.imul, 1) := by decide +kernel
theorem dX4_repeatedItem_100 : decode cX4_repeatedItem 100 = .ok (.ireturn, 1) := by decide +kernel
theorem dX4_commutedItem_0 : decode cX4_commutedItem 0 = .ok (.iload_n 1, 1) := by decide +kernel
theorem dX4_commutedItem_1 : decode cX4_commutedItem 1 = .ok (.iconst 4, 1) := by decide +kernel
theorem dX4_commutedItem_2 : decode cX4_commutedItem 2 = .ok (.invokestatic 51, 3) := by decide +kernel
theorem dX4_commutedItem_5 : decode cX4_commutedItem 5 = .ok (.ifCond .ne 5, 3) := by decide +kernel
theorem dX4_commutedItem_8 : decode cX4_commutedItem 8 = .ok (.iconst (-1), 1) := by decide +kernel
theorem dX4_commutedItem_9 : decode cX4_commutedItem 9 = .ok (.ireturn, 1) := by decide +kernel
theorem dX4_commutedItem_10 : decode cX4_commutedItem 10 = .ok (.aload_n 0, 1) := by decide +kernel
theorem dX4_commutedItem_11 : decode cX4_commutedItem 11 = .ok (.dup, 1) := by decide +kernel
theorem dX4_commutedItem_12 : decode cX4_commutedItem 12 = .ok (.getfield 18, 3) := by decide +kernel
theorem dX4_commutedItem_15 : decode cX4_commutedItem 15 = .ok (.iconst 1, 1) := by decide +kernel
theorem dX4_commutedItem_16 : decode cX4_commutedItem 16 = .ok (.iadd, 1) := by decide +kernel
theorem dX4_commutedItem_17 : decode cX4_commutedItem 17 = .ok (.putfield 18, 3) := by decide +kernel
theorem dX4_commutedItem_20 : decode cX4_commutedItem 20 = .ok (.aload_n 0, 1) := by decide +kernel
theorem dX4_commutedItem_21 : decode cX4_commutedItem 21 = .ok (.iload_n 1, 1) := by decide +kernel
theorem dX4_commutedItem_22 : decode cX4_commutedItem 22 = .ok (.iconst 1, 1) := by decide +kernel
theorem dX4_commutedItem_23 : decode cX4_commutedItem 23 = .ok (.iadd, 1) := by decide +kernel
theorem dX4_commutedItem_24 : decode cX4_commutedItem 24 = .ok (.aload_n 2, 1) := by decide +kernel
theorem dX4_commutedItem_25 : decode cX4_commutedItem 25 = .ok (.invokevirtual 39, 3) := by decide +kernel
theorem dX4_commutedItem_28 : decode cX4_commutedItem 28 = .ok (.istore 4, 2) := by decide +kernel
theorem dX4_commutedItem_30 : decode cX4_commutedItem 30 = .ok (.iload 4, 2) := by decide +kernel
theorem dX4_commutedItem_32 : decode cX4_commutedItem 32 = .ok (.iconst (-1), 1) := by decide +kernel
theorem dX4_commutedItem_33 : decode cX4_commutedItem 33 = .ok (.if_icmp .eq 19, 3) := by decide +kernel
theorem dX4_commutedItem_36 : decode cX4_commutedItem 36 = .ok (.aload_n 0, 1) := by decide +kernel
theorem dX4_commutedItem_37 : decode cX4_commutedItem 37 = .ok (.getfield 12, 3) := by decide +kernel
theorem dX4_commutedItem_40 : decode cX4_commutedItem 40 = .ok (.aload_n 0, 1) := by decide +kernel
theorem dX4_commutedItem_41 : decode cX4_commutedItem 41 = .ok (.getfield 18, 3) := by decide +kernel
theorem dX4_commutedItem_44 : decode cX4_commutedItem 44 = .ok (.invokevirtual 47, 3) := by decide +kernel
theorem dX4_commutedItem_47 : decode cX4_commutedItem 47 = .ok (.bipush 44, 2) := by decide +kernel
theorem dX4_commutedItem_49 : decode cX4_commutedItem 49 = .ok (.if_icmp .eq 5, 3) := by decide +kernel
theorem dX4_commutedItem_52 : decode cX4_commutedItem 52 = .ok (.iconst (-1), 1) := by decide +kernel
theorem dX4_commutedItem_53 : decode cX4_commutedItem 53 = .ok (.ireturn, 1) := by decide +kernel
theorem dX4_commutedItem_54 : decode cX4_commutedItem 54 = .ok (.aload_n 0, 1) := by decide +kernel
theorem dX4_commutedItem_55 : decode cX4_commutedItem 55 = .ok (.dup, 1) := by decide +kernel
theorem dX4_commutedItem_56 : decode cX4_commutedItem 56 = .ok (.getfield 18, 3) := by decide +kernel
theorem dX4_commutedItem_59 : decode cX4_commutedItem 59 = .ok (.iconst 1, 1) := by decide +kernel
theorem dX4_commutedItem_60 : decode cX4_commutedItem 60 = .ok (.iadd, 1) := by decide +kernel
theorem dX4_commutedItem_61 : decode cX4_commutedItem 61 = .ok (.putfield 18, 3) := by decide +kernel
theorem dX4_commutedItem_64 : decode cX4_commutedItem 64 = .ok (.aload_n 0, 1) := by decide +kernel
theorem dX4_commutedItem_65 : decode cX4_commutedItem 65 = .ok (.getfield 31, 3) := by decide +kernel
theorem dX4_commutedItem_68 : decode cX4_commutedItem 68 = .ok (.iload_n 1, 1) := by decide +kernel
theorem dX4_commutedItem_69 : decode cX4_commutedItem 69 = .ok (.aaload, 1) := by decide +kernel
theorem dX4_commutedItem_70 : decode cX4_commutedItem 70 = .ok (.aload_n 0, 1) := by decide +kernel
theorem dX4_commutedItem_71 : decode cX4_commutedItem 71 = .ok (.getfield 24, 3) := by decide +kernel
theorem dX4_commutedItem_74 : decode cX4_commutedItem 74 = .ok (.iload_n 1, 1) := by decide +kernel
theorem dX4_commutedItem_75 : decode cX4_commutedItem 75 = .ok (.iconst 1, 1) := by decide +kernel
theorem dX4_commutedItem_76 : decode cX4_commutedItem 76 = .ok (.iadd, 1) := by decide +kernel
theorem dX4_commutedItem_77 : decode cX4_commutedItem 77 = .ok (.aaload, 1) := by decide +kernel
theorem dX4_commutedItem_78 : decode cX4_commutedItem 78 = .ok (.invokevirtual 87, 3) := by decide +kernel
theorem dX4_commutedItem_81 : decode cX4_commutedItem 81 = .ok (.aload_n 0, 1) := by decide +kernel
theorem dX4_commutedItem_82 : decode cX4_commutedItem 82 = .ok (.iload_n 1, 1) := by decide +kernel
theorem dX4_commutedItem_83 : decode cX4_commutedItem 83 = .ok (.iconst 1, 1) := by decide +kernel
theorem dX4_commutedItem_84 : decode cX4_commutedItem 84 = .ok (.iadd, 1) := by decide +kernel
theorem dX4_commutedItem_85 : decode cX4_commutedItem 85 = .ok (.aload_n 2, 1) := by decide +kernel
theorem dX4_commutedItem_86 : decode cX4_commutedItem 86 = .ok (.invokevirtual 39, 3) := by decide +kernel
theorem dX4_commutedItem_89 : decode cX4_commutedItem 89 = .ok (.istore 5, 2) := by decide +kernel
theorem dX4_commutedItem_91 : decode cX4_commutedItem 91 = .ok (.iload 5, 2) := by decide +kernel
theorem dX4_commutedItem_93 : decode cX4_commutedItem 93 = .ok (.iconst (-1), 1) := by decide +kernel
theorem dX4_commutedItem_94 : decode cX4_commutedItem 94 = .ok (.if_icmp .eq 19, 3) := by decide +kernel
theorem dX4_commutedItem_97 : decode cX4_commutedItem 97 = .ok (.aload_n 0, 1) := by decide +kernel
theorem dX4_commutedItem_98 : decode cX4_commutedItem 98 = .ok (.getfield 12, 3) := by decide +kernel
theorem dX4_commutedItem_101 : decode cX4_commutedItem 101 = .ok (.aload_n 0, 1) := by decide +kernel
theorem dX4_commutedItem_102 : decode cX4_commutedItem 102 = .ok (.getfield 18, 3) := by decide +kernel
theorem dX4_commutedItem_105 : decode cX4_commutedItem 105 = .ok (.invokevirtual 47, 3) := by decide +kernel
theorem dX4_commutedItem_108 : decode cX4_commutedItem 108 = .ok (.bipush 93, 2) := by decide +kernel
theorem dX4_commutedItem_110 : decode cX4_commutedItem 110 = .ok (.if_icmp .eq 5, 3) := by decide +kernel
theorem dX4_commutedItem_113 : decode cX4_commutedItem 113 = .ok (.iconst (-1), 1) := by decide +kernel
theorem dX4_commutedItem_114 : decode cX4_commutedItem 114 = .ok (.ireturn, 1) := by decide +kernel
theorem dX4_commutedItem_115 : decode cX4_commutedItem 115 = .ok (.aload_n 0, 1) := by decide +kernel
theorem dX4_commutedItem_116 : decode cX4_commutedItem 116 = .ok (.dup, 1) := by decide +kernel
theorem dX4_commutedItem_117 : decode cX4_commutedItem 117 = .ok (.getfield 18, 3) := by decide +kernel
theorem dX4_commutedItem_120 : decode cX4_commutedItem 120 = .ok (.iconst 1, 1) := by decide +kernel
theorem dX4_commutedItem_121 : decode cX4_commutedItem 121 = .ok (.iadd, 1) := by decide +kernel
theorem dX4_commutedItem_122 : decode cX4_commutedItem 122 = .ok (.putfield 18, 3) := by decide +kernel
theorem dX4_commutedItem_125 : decode cX4_commutedItem 125 = .ok (.aload_n 3, 1) := by decide +kernel
theorem dX4_commutedItem_126 : decode cX4_commutedItem 126 = .ok (.aload_n 0, 1) := by decide +kernel
theorem dX4_commutedItem_127 : decode cX4_commutedItem 127 = .ok (.getfield 31, 3) := by decide +kernel
theorem dX4_commutedItem_130 : decode cX4_commutedItem 130 = .ok (.iload_n 1, 1) := by decide +kernel
theorem dX4_commutedItem_131 : decode cX4_commutedItem 131 = .ok (.aaload, 1) := by decide +kernel
theorem dX4_commutedItem_132 : decode cX4_commutedItem 132 = .ok (.aload_n 0, 1) := by decide +kernel
theorem dX4_commutedItem_133 : decode cX4_commutedItem 133 = .ok (.getfield 24, 3) := by decide +kernel
theorem dX4_commutedItem_136 : decode cX4_commutedItem 136 = .ok (.iload_n 1, 1) := by decide +kernel
theorem dX4_commutedItem_137 : decode cX4_commutedItem 137 = .ok (.iconst 1, 1) := by decide +kernel
theorem dX4_commutedItem_138 : decode cX4_commutedItem 138 = .ok (.iadd, 1) := by decide +kernel
theorem dX4_commutedItem_139 : decode cX4_commutedItem 139 = .ok (.aaload, 1) := by decide +kernel
theorem dX4_commutedItem_140 : decode cX4_commutedItem 140 = .ok (.aload_n 0, 1) := by decide +kernel
theorem dX4_commutedItem_141 : decode cX4_commutedItem 141 = .ok (.getfield 35, 3) := by decide +kernel
theorem dX4_commutedItem_144 : decode cX4_commutedItem 144 = .ok (.invokevirtual 115, 3) := by decide +kernel
theorem dX4_commutedItem_147 : decode cX4_commutedItem 147 = .ok (.iconst 2, 1) := by decide +kernel
theorem dX4_commutedItem_148 : decode cX4_commutedItem 148 = .ok (.iload 4, 2) := by decide +kernel
theorem dX4_commutedItem_150 : decode cX4_commutedItem 150 = .ok (.iload 5, 2) := by decide +kernel
theorem dX4_commutedItem_152 : decode cX4_commutedItem 152 = .ok (.iadd, 1) := by decide +kernel
theorem dX4_commutedItem_153 : decode cX4_commutedItem 153 = .ok (.imul, 1) := by decide +kernel
theorem dX4_commutedItem_154 : decode cX4_commutedItem 154 = .ok (.ireturn, 1) := by decide +kernel
