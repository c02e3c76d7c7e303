/-! ===== printed: decode rows of X7 ===== -/
theorem dX7_cycleLine_38 : decode cX7_cycleLine 38 = .ok (.iload_n 3, 1) := by decide +kernel
theorem dX7_cycleLine_39 : decode cX7_cycleLine 39 = .ok (.if_icmp .eq 20, 3) := by decide +kernel
theorem dX7_cycleLine_42 : decode cX7_cycleLine 42 = .ok (.aload_n 2, 1) := by decide +kernel
theorem dX7_cycleLine_43 : decode cX7_cycleLine 43 = .ok (.iload_n 3, 1) := by decide +kernel
theorem dX7_cycleLine_44 : decode cX7_cycleLine 44 = .ok (.invokevirtual 261, 3) := by decide +kernel
theorem dX7_cycleLine_47 : decode cX7_cycleLine 47 = .ok (.ifCond .eq 12, 3) := by decide +kernel
theorem dX7_cycleLine_50 : decode cX7_cycleLine 50 = .ok (.aload_n 0, 1) := by decide +kernel
theorem dX7_cycleLine_51 : decode cX7_cycleLine 51 = .ok (.getfield 40, 3) := by decide +kernel
theorem dX7_cycleLine_54 : decode cX7_cycleLine 54 = .ok (.aload_n 2, 1) := by decide +kernel
theorem dX7_cycleLine_55 : decode cX7_cycleLine 55 = .ok (.iload_n 3, 1) := by decide +kernel
theorem dX7_cycleLine_56 : decode cX7_cycleLine 56 = .ok (.invokevirtual 264, 3) := by decide +kernel
theorem dX7_cycleLine_59 : decode cX7_cycleLine 59 = .ok (.iinc 3 1, 3) := by decide +kernel
theorem dX7_cycleLine_62 : decode cX7_cycleLine 62 = .ok (.goto (-35), 3) := by decide +kernel
theorem dX7_cycleLine_65 : decode cX7_cycleLine 65 = .ok (.aload_n 0, 1) := by decide +kernel
theorem dX7_cycleLine_66 : decode cX7_cycleLine 66 = .ok (.getfield 40, 3) := by decide +kernel
theorem dX7_cycleLine_69 : decode cX7_cycleLine 69 = .ok (.invokevirtual 256, 3) := by decide +kernel
theorem dX7_cycleLine_72 : decode cX7_cycleLine 72 = .ok (.ireturn, 1) := by decide +kernel
theorem dX7_character_0 : decode cX7_character 0 = .ok (.iload_n 1, 1) := by decide +kernel
theorem dX7_character_1 : decode cX7_character 1 = .ok (.aload_n 0, 1) := by decide +kernel
theorem dX7_character_2 : decode cX7_character 2 = .ok (.getfield 40, 3) := by decide +kernel
theorem dX7_character_5 : decode cX7_character 5 = .ok (.invokevirtual 256, 3) := by decide +kernel
theorem dX7_character_8 : decode cX7_character 8 = .ok (.invokestatic 89, 3) := by decide +kernel
theorem dX7_character_11 : decode cX7_character 11 = .ok (.aload_n 0, 1) := by decide +kernel
theorem dX7_character_12 : decode cX7_character 12 = .ok (.getfield 40, 3) := by decide +kernel
theorem dX7_character_15 : decode cX7_character 15 = .ok (.iload_n 1, 1) := by decide +kernel
theorem dX7_character_16 : decode cX7_character 16 = .ok (.invokevirtual 267, 3) := by decide +kernel
theorem dX7_character_19 : decode cX7_character 19 = .ok (.i2c, 1) := by decide +kernel
theorem dX7_character_20 : decode cX7_character 20 = .ok (.ireturn, 1) := by decide +kernel
theorem dX7_append_0 : decode cX7_append 0 = .ok (.aload_n 0, 1) := by decide +kernel
theorem dX7_append_1 : decode cX7_append 1 = .ok (.getfield 33, 3) := by decide +kernel
theorem dX7_append_4 : decode cX7_append 4 = .ok (.getfield 152, 3) := by decide +kernel
theorem dX7_append_7 : decode cX7_append 7 = .ok (.invokevirtual 256, 3) := by decide +kernel
theorem dX7_append_10 : decode cX7_append 10 = .ok (.bipush 60, 2) := by decide +kernel
theorem dX7_append_12 : decode cX7_append 12 = .ok (.if_icmp .lt 14, 3) := by decide +kernel
theorem dX7_append_15 : decode cX7_append 15 = .ok (.new 270, 3) := by decide +kernel
theorem dX7_append_18 : decode cX7_append 18 = .ok (.dup, 1) := by decide +kernel
theorem dX7_append_19 : decode cX7_append 19 = .ok (.ldc_w 272, 3) := by decide +kernel
theorem dX7_append_22 : decode cX7_append 22 = .ok (.invokespecial 274, 3) := by decide +kernel
theorem dX7_append_25 : decode cX7_append 25 = .ok (.athrow, 1) := by decide +kernel
theorem dX7_append_26 : decode cX7_append 26 = .ok (.aload_n 0, 1) := by decide +kernel
theorem dX7_append_27 : decode cX7_append 27 = .ok (.getfield 33, 3) := by decide +kernel
theorem dX7_append_30 : decode cX7_append 30 = .ok (.getfield 152, 3) := by decide +kernel
theorem dX7_append_33 : decode cX7_append 33 = .ok (.iload_n 1, 1) := by decide +kernel
theorem dX7_append_34 : decode cX7_append 34 = .ok (.invokevirtual 257, 3) := by decide +kernel
theorem dX7_append_37 : decode cX7_append 37 = .ok (.aload_n 0, 1) := by decide +kernel
theorem dX7_append_38 : decode cX7_append 38 = .ok (.getfield 33, 3) := by decide +kernel
theorem dX7_append_41 : decode cX7_append 41 = .ok (.getfield 152, 3) := by decide +kernel
theorem dX7_append_44 : decode cX7_append 44 = .ok (.invokevirtual 256, 3) := by decide +kernel
theorem dX7_append_47 : decode cX7_append 47 = .ok (.ireturn, 1) := by decide +kernel
theorem dX7_read_0 : decode cX7_read 0 = .ok (.aload_n 0, 1) := by decide +kernel
theorem dX7_read_1 : decode cX7_read 1 = .ok (.invokevirtual 165, 3) := by decide +kernel
theorem dX7_read_4 : decode cX7_read 4 = .ok (.istore_n 1, 1) := by decide +kernel
theorem dX7_read_5 : decode cX7_read 5 = .ok (.aload_n 0, 1) := by decide +kernel
theorem dX7_read_6 : decode cX7_read 6 = .ok (.getfield 19, 3) := by decide +kernel
theorem dX7_read_9 : decode cX7_read 9 = .ok (.aload_n 0, 1) := by decide +kernel
theorem dX7_read_10 : decode cX7_read 10 = .ok (.getfield 10, 3) := by decide +kernel
theorem dX7_read_13 : decode cX7_read 13 = .ok (.invokevirtual 72, 3) := by decide +kernel
theorem dX7_read_16 : decode cX7_read 16 = .ok (.aload_n 0, 1) := by decide +kernel
theorem dX7_read_17 : decode cX7_read 17 = .ok (.getfield 10, 3) := by decide +kernel
theorem dX7_read_20 : decode cX7_read 20 = .ok (.getfield 79, 3) := by decide +kernel
theorem dX7_read_23 : decode cX7_read 23 = .ok (.aload_n 0, 1) := by decide +kernel
theorem dX7_read_24 : decode cX7_read 24 = .ok (.getfield 33, 3) := by decide +kernel
theorem dX7_read_27 : decode cX7_read 27 = .ok (.invokevirtual 168, 3) := by decide +kernel
theorem dX7_read_30 : decode cX7_read 30 = .ok (.invokevirtual 197, 3) := by decide +kernel
theorem dX7_read_33 : decode cX7_read 33 = .ok (.aload_n 0, 1) := by decide +kernel
theorem dX7_read_34 : decode cX7_read 34 = .ok (.getfield 10, 3) := by decide +kernel
theorem dX7_read_37 : decode cX7_read 37 = .ok (.getfield 93, 3) := by decide +kernel
theorem dX7_read_40 : decode cX7_read 40 = .ok (.invokevirtual 200, 3) := by decide +kernel
theorem dX7_read_43 : decode cX7_read 43 = .ok (.aload_n 0, 1) := by decide +kernel
theorem dX7_read_44 : decode cX7_read 44 = .ok (.getfield 10, 3) := by decide +kernel
theorem dX7_read_47 : decode cX7_read 47 = .ok (.dup, 1) := by decide +kernel
theorem dX7_read_48 : decode cX7_read 48 = .ok (.getfield 275, 3) := by decide +kernel
theorem dX7_read_51 : decode cX7_read 51 = .ok (.iconst 1, 1) := by decide +kernel
theorem dX7_read_52 : decode cX7_read 52 = .ok (.iadd, 1) := by decide +kernel
theorem dX7_read_53 : decode cX7_read 53 = .ok (.putfield 275, 3) := by decide +kernel
theorem dX7_read_56 : decode cX7_read 56 = .ok (.iload_n 1, 1) := by decide +kernel
theorem dX7_read_57 : decode cX7_read 57 = .ok (.ireturn, 1) := by decide +kernel
theorem dX7_account_0 : decode cX7_account 0 = .ok (.iload_n 1, 1) := by decide +kernel
theorem dX7_account_1 : decode cX7_account 1 = .ok (.tableswitch 123 0 7 #[47, 58, 69, 80, 88, 96, 104, 115], 47) := by decide +kernel
theorem dX7_account_48 : decode cX7_account 48 = .ok (.aload_n 0, 1) := by decide +kernel
theorem dX7_account_49 : decode cX7_account 49 = .ok (.getfield 10, 3) := by decide +kernel
theorem dX7_account_52 : decode cX7_account 52 = .ok (.getfield 79, 3) := by decide +kernel
theorem dX7_account_55 : decode cX7_account 55 = .ok (.invokevirtual 83, 3) := by decide +kernel
theorem dX7_account_58 : decode cX7_account 58 = .ok (.ireturn, 1) := by decide +kernel
theorem dX7_account_59 : decode cX7_account 59 = .ok (.aload_n 0, 1) := by decide +kernel
theorem dX7_account_60 : decode cX7_account 60 = .ok (.getfield 10, 3) := by decide +kernel
theorem dX7_account_63 : decode cX7_account 63 = .ok (.getfield 79, 3) := by decide +kernel
theorem dX7_account_66 : decode cX7_account 66 = .ok (.invokevirtual 285, 3) := by decide +kernel
theorem dX7_account_69 : decode cX7_account 69 = .ok (.ireturn, 1) := by decide +kernel
theorem dX7_account_70 : decode cX7_account 70 = .ok (.aload_n 0, 1) := by decide +kernel
theorem dX7_account_71 : decode cX7_account 71 = .ok (.getfield 10, 3) := by decide +kernel
theorem dX7_account_74 : decode cX7_account 74 = .ok (.getfield 93, 3) := by decide +kernel
theorem dX7_account_77 : decode cX7_account 77 = .ok (.invokevirtual 97, 3) := by decide +kernel
theorem dX7_account_80 : decode cX7_account 80 = .ok (.ireturn, 1) := by decide +kernel
theorem dX7_account_81 : decode cX7_account 81 = .ok (.aload_n 0, 1) := by decide +kernel
theorem dX7_account_82 : decode cX7_account 82 = .ok (.getfield 10, 3) := by decide +kernel
theorem dX7_account_85 : decode cX7_account 85 = .ok (.getfield 288, 3) := by decide +kernel
theorem dX7_account_88 : decode cX7_account 88 = .ok (.ireturn, 1) := by decide +kernel
theorem dX7_account_89 : decode cX7_account 89 = .ok (.aload_n 0, 1) := by decide +kernel
theorem dX7_account_90 : decode cX7_account 90 = .ok (.getfield 10, 3) := by decide +kernel
theorem dX7_account_93 : decode cX7_account 93 = .ok (.getfield 275, 3) := by decide +kernel
theorem dX7_account_96 : decode cX7_account 96 = .ok (.ireturn, 1) := by decide +kernel
theorem dX7_account_97 : decode cX7_account 97 = .ok (.aload_n 0, 1) := by decide +kernel
theorem dX7_account_98 : decode cX7_account 98 = .ok (.getfield 10, 3) := by decide +kernel
theorem dX7_account_101 : decode cX7_account 101 = .ok (.invokevirtual 214, 3) := by decide +kernel
theorem dX7_account_104 : decode cX7_account 104 = .ok (.ireturn, 1) := by decide +kernel
theorem dX7_account_105 : decode cX7_account 105 = .ok (.aload_n 0, 1) := by decide +kernel
theorem dX7_account_106 : decode cX7_account 106 = .ok (.getfield 33, 3) := by decide +kernel
theorem dX7_account_109 : decode cX7_account 109 = .ok (.getfield 152, 3) := by decide +kernel
theorem dX7_account_112 : decode cX7_account 112 = .ok (.invokevirtual 256, 3) := by decide +kernel
theorem dX7_account_115 : decode cX7_account 115 = .ok (.ireturn, 1) := by decide +kernel
theorem dX7_account_116 : decode cX7_account 116 = .ok (.aload_n 0, 1) := by decide +kernel
theorem dX7_account_117 : decode cX7_account 117 = .ok (.getfield 19, 3) := by decide +kernel
theorem dX7_account_120 : decode cX7_account 120 = .ok (.invokevirtual 291, 3) := by decide +kernel
theorem dX7_account_123 : decode cX7_account 123 = .ok (.ireturn, 1) := by decide +kernel
theorem dX7_account_124 : decode cX7_account 124 = .ok (.new 292, 3) := by decide +kernel
theorem dX7_account_127 : decode cX7_account 127 = .ok (.dup, 1) := by decide +kernel
theorem dX7_account_128 : decode cX7_account 128 = .ok (.ldc_w 294, 3) := by decide +kernel
theorem dX7_account_131 : decode cX7_account 131 = .ok (.invokespecial 296, 3) := by decide +kernel
theorem dX7_account_134 : decode cX7_account 134 = .ok (.athrow, 1) := by decide +kernel
theorem dX7_isWell_0 : decode cX7_isWell 0 = .ok (.aload_n 0, 1) := by decide +kernel
theorem dX7_isWell_1 : decode cX7_isWell 1 = .ok (.getfield 10, 3) := by decide +kernel
theorem dX7_isWell_4 : decode cX7_isWell 4 = .ok (.getfield 79, 3) := by decide +kernel
theorem dX7_isWell_7 : decode cX7_isWell 7 = .ok (.invokevirtual 297, 3) := by decide +kernel
theorem dX7_isWell_10 : decode cX7_isWell 10 = .ok (.ifCond .ne 5, 3) := by decide +kernel
theorem dX7_isWell_13 : decode cX7_isWell 13 = .ok (.iconst 0, 1) := by decide +kernel
theorem dX7_isWell_14 : decode cX7_isWell 14 = .ok (.ireturn, 1) := by decide +kernel
theorem dX7_isWell_15 : decode cX7_isWell 15 = .ok (.iconst 0, 1) := by decide +kernel
theorem dX7_isWell_16 : decode cX7_isWell 16 = .ok (.istore_n 1, 1) := by decide +kernel
theorem dX7_isWell_17 : decode cX7_isWell 17 = .ok (.iload_n 1, 1) := by decide +kernel
theorem dX7_isWell_18 : decode cX7_isWell 18 = .ok (.iconst 5, 1) := by decide +kernel
theorem dX7_isWell_19 : decode cX7_isWell 19 = .ok (.if_icmp .ge 37, 3) := by decide +kernel
theorem dX7_isWell_22 : decode cX7_isWell 22 = .ok (.aload_n 0, 1) := by decide +kernel
theorem dX7_isWell_23 : decode cX7_isWell 23 = .ok (.getfield 10, 3) := by decide +kernel
theorem dX7_isWell_26 : decode cX7_isWell 26 = .ok (.iload_n 1, 1) := by decide +kernel
theorem dX7_isWell_27 : decode cX7_isWell 27 = .ok (.invokevirtual 300, 3) := by decide +kernel
theorem dX7_isWell_30 : decode cX7_isWell 30 = .ok (.ifCond .eq 20, 3) := by decide +kernel
theorem dX7_isWell_33 : decode cX7_isWell 33 = .ok (.aload_n 0, 1) := by decide +kernel
theorem dX7_isWell_34 : decode cX7_isWell 34 = .ok (.aload_n 0, 1) := by decide +kernel
theorem dX7_isWell_35 : decode cX7_isWell 35 = .ok (.getfield 10, 3) := by decide +kernel
theorem dX7_isWell_38 : decode cX7_isWell 38 = .ok (.iload_n 1, 1) := by decide +kernel
theorem dX7_isWell_39 : decode cX7_isWell 39 = .ok (.invokevirtual 182, 3) := by decide +kernel
theorem dX7_isWell_42 : decode cX7_isWell 42 = .ok (.invokevirtual 303, 3) := by decide +kernel
theorem dX7_isWell_45 : decode cX7_isWell 45 = .ok (.ifCond .ne 5, 3) := by decide +kernel
theorem dX7_isWell_48 : decode cX7_isWell 48 = .ok (.iconst 0, 1) := by decide +kernel
theorem dX7_isWell_49 : decode cX7_isWell 49 = .ok (.ireturn, 1) := by decide +kernel
theorem dX7_isWell_50 : decode cX7_isWell 50 = .ok (.iinc 1 1, 3) := by decide +kernel
theorem dX7_isWell_53 : decode cX7_isWell 53 = .ok (.goto (-36), 3) := by decide +kernel
theorem dX7_isWell_56 : decode cX7_isWell 56 = .ok (.iconst 1, 1) := by decide +kernel
theorem dX7_isWell_57 : decode cX7_isWell 57 = .ok (.ireturn, 1) := by decide +kernel
theorem dX7_meanAway_0 : decode cX7_meanAway 0 = .ok (.aload_n 0, 1) := by decide +kernel
theorem dX7_meanAway_1 : decode cX7_meanAway 1 = .ok (.getfield 10, 3) := by decide +kernel
theorem dX7_meanAway_4 : decode cX7_meanAway 4 = .ok (.getfield 79, 3) := by decide +kernel
theorem dX7_meanAway_7 : decode cX7_meanAway 7 = .ok (.invokevirtual 306, 3) := by decide +kernel
theorem dX7_meanAway_10 : decode cX7_meanAway 10 = .ok (.i2d, 1) := by decide +kernel
theorem dX7_meanAway_11 : decode cX7_meanAway 11 = .ok (.ldc2_w 309, 3) := by decide +kernel
theorem dX7_meanAway_14 : decode cX7_meanAway 14 = .ok (.ddiv, 1) := by decide +kernel
theorem dX7_meanAway_15 : decode cX7_meanAway 15 = .ok (.dreturn, 1) := by decide +kernel
theorem dX7_seamShare_0 : decode cX7_seamShare 0 = .ok (.aload_n 0, 1) := by decide +kernel
theorem dX7_seamShare_1 : decode cX7_seamShare 1 = .ok (.getfield 10, 3) := by decide +kernel
theorem dX7_seamShare_4 : decode cX7_seamShare 4 = .ok (.getfield 79, 3) := by decide +kernel
theorem dX7_seamShare_7 : decode cX7_seamShare 7 = .ok (.invokevirtual 142, 3) := by decide +kernel
theorem dX7_seamShare_10 : decode cX7_seamShare 10 = .ok (.i2f, 1) := by decide +kernel
theorem dX7_seamShare_11 : decode cX7_seamShare 11 = .ok (.ldc_w 311, 3) := by decide +kernel
theorem dX7_seamShare_14 : decode cX7_seamShare 14 = .ok (.fdiv, 1) := by decide +kernel
theorem dX7_seamShare_15 : decode cX7_seamShare 15 = .ok (.freturn, 1) := by decide +kernel
theorem dX7_undo_0 : decode cX7_undo 0 = .ok (.aload_n 0, 1) := by decide +kernel
theorem dX7_undo_1 : decode cX7_undo 1 = .ok (.getfield 19, 3) := by decide +kernel
theorem dX7_undo_4 : decode cX7_undo 4 = .ok (.invokevirtual 291, 3) := by decide +kernel
theorem dX7_undo_7 : decode cX7_undo 7 = .ok (.ifCond .ne 14, 3) := by decide +kernel
theorem dX7_undo_10 : decode cX7_undo 10 = .ok (.new 270, 3) := by decide +kernel
theorem dX7_undo_13 : decode cX7_undo 13 = .ok (.dup, 1) := by decide +kernel
theorem dX7_undo_14 : decode cX7_undo 14 = .ok (.ldc_w 312, 3) := by decide +kernel
theorem dX7_undo_17 : decode cX7_undo 17 = .ok (.invokespecial 274, 3) := by decide +kernel
theorem dX7_undo_20 : decode cX7_undo 20 = .ok (.athrow, 1) := by decide +kernel
theorem dX7_undo_21 : decode cX7_undo 21 = .ok (.aload_n 0, 1) := by decide +kernel
theorem dX7_undo_22 : decode cX7_undo 22 = .ok (.getfield 19, 3) := by decide +kernel
theorem dX7_undo_25 : decode cX7_undo 25 = .ok (.aload_n 0, 1) := by decide +kernel
theorem dX7_undo_26 : decode cX7_undo 26 = .ok (.getfield 10, 3) := by decide +kernel
theorem dX7_undo_29 : decode cX7_undo 29 = .ok (.invokevirtual 314, 3) := by decide +kernel
theorem dX7_undo_32 : decode cX7_undo 32 = .ok (.aload_n 0, 1) := by decide +kernel
theorem dX7_undo_33 : decode cX7_undo 33 = .ok (.getfield 19, 3) := by decide +kernel
theorem dX7_undo_36 : decode cX7_undo 36 = .ok (.invokevirtual 291, 3) := by decide +kernel
theorem dX7_undo_39 : decode cX7_undo 39 = .ok (.ireturn, 1) := by decide +kernel
theorem dX7_isIndex_0 : decode cX7_isIndex 0 = .ok (.iload_n 0, 1) := by decide +kernel
theorem dX7_isIndex_1 : decode cX7_isIndex 1 = .ok (.ifCond .lt 12, 3) := by decide +kernel
theorem dX7_isIndex_4 : decode cX7_isIndex 4 = .ok (.iload_n 0, 1) := by decide +kernel
theorem dX7_isIndex_5 : decode cX7_isIndex 5 = .ok (.iload_n 1, 1) := by decide +kernel
theorem dX7_isIndex_6 : decode cX7_isIndex 6 = .ok (.if_icmp .ge 7, 3) := by decide +kernel
theorem dX7_isIndex_9 : decode cX7_isIndex 9 = .ok (.iconst 1, 1) := by decide +kernel
theorem dX7_isIndex_10 : decode cX7_isIndex 10 = .ok (.goto 4, 3) := by decide +kernel
theorem dX7_isIndex_13 : decode cX7_isIndex 13 = .ok (.iconst 0, 1) := by decide +kernel
theorem dX7_isIndex_14 : decode cX7_isIndex 14 = .ok (.ireturn, 1) := by decide +kernel
theorem dX7_needIndex_0 : decode cX7_needIndex 0 = .ok (.iload_n 0, 1) := by decide +kernel
theorem dX7_needIndex_1 : decode cX7_needIndex 1 = .ok (.iload_n 1, 1) := by decide +kernel
theorem dX7_needIndex_2 : decode cX7_needIndex 2 = .ok (.invokestatic 148, 3) := by decide +kernel
theorem dX7_needIndex_5 : decode cX7_needIndex 5 = .ok (.ifCond .ne 14, 3) := by decide +kernel
theorem dX7_needIndex_8 : decode cX7_needIndex 8 = .ok (.new 158, 3) := by decide +kernel
theorem dX7_needIndex_11 : decode cX7_needIndex 11 = .ok (.dup, 1) := by decide +kernel
theorem dX7_needIndex_12 : decode cX7_needIndex 12 = .ok (.ldc_w 323, 3) := by decide +kernel
theorem dX7_needIndex_15 : decode cX7_needIndex 15 = .ok (.invokespecial 162, 3) := by decide +kernel
theorem dX7_needIndex_18 : decode cX7_needIndex 18 = .ok (.athrow, 1) := by decide +kernel
theorem dX7_needIndex_19 : decode cX7_needIndex 19 = .ok (.return_, 1) := by decide +kernel
theorem dX7_needRing_0 : decode cX7_needRing 0 = .ok (.iload_n 0, 1) := by decide +kernel
theorem dX7_needRing_1 : decode cX7_needRing 1 = .ok (.iconst 4, 1) := by decide +kernel
theorem dX7_needRing_2 : decode cX7_needRing 2 = .ok (.invokestatic 89, 3) := by decide +kernel
theorem dX7_needRing_5 : decode cX7_needRing 5 = .ok (.return_, 1) := by decide +kernel
theorem dX7_needSlot_0 : decode cX7_needSlot 0 = .ok (.iload_n 0, 1) := by decide +kernel
theorem dX7_needSlot_1 : decode cX7_needSlot 1 = .ok (.bipush 32, 2) := by decide +kernel
theorem dX7_needSlot_3 : decode cX7_needSlot 3 = .ok (.invokestatic 89, 3) := by decide +kernel
theorem dX7_needSlot_6 : decode cX7_needSlot 6 = .ok (.return_, 1) := by decide +kernel
theorem dX7_needShelf_0 : decode cX7_needShelf 0 = .ok (.iload_n 0, 1) := by decide +kernel
theorem dX7_needShelf_1 : decode cX7_needShelf 1 = .ok (.iconst 5, 1) := by decide +kernel
theorem dX7_needShelf_2 : decode cX7_needShelf 2 = .ok (.invokestatic 89, 3) := by decide +kernel
theorem dX7_needShelf_5 : decode cX7_needShelf 5 = .ok (.return_, 1) := by decide +kernel
theorem dX7_needFromTo_0 : decode cX7_needFromTo 0 = .ok (.iload_n 0, 1) := by decide +kernel
theorem dX7_needFromTo_1 : decode cX7_needFromTo 1 = .ok (.iload_n 1, 1) := by decide +kernel
theorem dX7_needFromTo_2 : decode cX7_needFromTo 2 = .ok (.if_icmp .lt 8, 3) := by decide +kernel
theorem dX7_needFromTo_5 : decode cX7_needFromTo 5 = .ok (.iload_n 0, 1) := by decide +kernel
theorem dX7_needFromTo_6 : decode cX7_needFromTo 6 = .ok (.iload_n 2, 1) := by decide +kernel
theorem dX7_needFromTo_7 : decode cX7_needFromTo 7 = .ok (.if_icmp .le 14, 3) := by decide +kernel
theorem dX7_needFromTo_10 : decode cX7_needFromTo 10 = .ok (.new 292, 3) := by decide +kernel
theorem dX7_needFromTo_13 : decode cX7_needFromTo 13 = .ok (.dup, 1) := by decide +kernel
theorem dX7_needFromTo_14 : decode cX7_needFromTo 14 = .ok (.ldc_w 325, 3) := by decide +kernel
theorem dX7_needFromTo_17 : decode cX7_needFromTo 17 = .ok (.invokespecial 296, 3) := by decide +kernel
theorem dX7_needFromTo_20 : decode cX7_needFromTo 20 = .ok (.athrow, 1) := by decide +kernel
theorem dX7_needFromTo_21 : decode cX7_needFromTo 21 = .ok (.return_, 1) := by decide +kernel
theorem dX7_needFilled_0 : decode cX7_needFilled 0 = .ok (.aload_n 0, 1) := by decide +kernel
theorem dX7_needFilled_1 : decode cX7_needFilled 1 = .ok (.getfield 10, 3) := by decide +kernel
theorem dX7_needFilled_4 : decode cX7_needFilled 4 = .ok (.iload_n 1, 1) := by decide +kernel
theorem dX7_needFilled_5 : decode cX7_needFilled 5 = .ok (.invokevirtual 300, 3) := by decide +kernel
theorem dX7_needFilled_8 : decode cX7_needFilled 8 = .ok (.ifCond .ne 9, 3) := by decide +kernel
theorem dX7_needFilled_11 : decode cX7_needFilled 11 = .ok (.aload_n 0, 1) := by decide +kernel
theorem dX7_needFilled_12 : decode cX7_needFilled 12 = .ok (.iconst 3, 1) := by decide +kernel
theorem dX7_needFilled_13 : decode cX7_needFilled 13 = .ok (.iload_n 1, 1) := by decide +kernel
theorem dX7_needFilled_14 : decode cX7_needFilled 14 = .ok (.invokevirtual 102, 3) := by decide +kernel
theorem dX7_needFilled_17 : decode cX7_needFilled 17 = .ok (.return_, 1) := by decide +kernel
theorem dX7_needLearnt_0 : decode cX7_needLearnt 0 = .ok (.aload_n 0, 1) := by decide +kernel
theorem dX7_needLearnt_1 : decode cX7_needLearnt 1 = .ok (.getfield 10, 3) := by decide +kernel
theorem dX7_needLearnt_4 : decode cX7_needLearnt 4 = .ok (.iload_n 1, 1) := by decide +kernel
theorem dX7_needLearnt_5 : decode cX7_needLearnt 5 = .ok (.invokevirtual 300, 3) := by decide +kernel
theorem dX7_needLearnt_8 : decode cX7_needLearnt 8 = .ok (.ifCond .ne 14, 3) := by decide +kernel
theorem dX7_needLearnt_11 : decode cX7_needLearnt 11 = .ok (.new 278, 3) := by decide +kernel
theorem dX7_needLearnt_14 : decode cX7_needLearnt 14 = .ok (.dup, 1) := by decide +kernel
theorem dX7_needLearnt_15 : decode cX7_needLearnt 15 = .ok (.ldc_w 327, 3) := by decide +kernel
theorem dX7_needLearnt_18 : decode cX7_needLearnt 18 = .ok (.invokespecial 282, 3) := by decide +kernel
theorem dX7_needLearnt_21 : decode cX7_needLearnt 21 = .ok (.athrow, 1) := by decide +kernel
theorem dX7_needLearnt_22 : decode cX7_needLearnt 22 = .ok (.return_, 1) := by decide +kernel
theorem dX7_refuse_0 : decode cX7_refuse 0 = .ok (.aload_n 0, 1) := by decide +kernel
theorem dX7_refuse_1 : decode cX7_refuse 1 = .ok (.iload_n 1, 1) := by decide +kernel
theorem dX7_refuse_2 : decode cX7_refuse 2 = .ok (.putfield 58, 3) := by decide +kernel
theorem dX7_refuse_5 : decode cX7_refuse 5 = .ok (.aload_n 0, 1) := by decide +kernel
theorem dX7_refuse_6 : decode cX7_refuse 6 = .ok (.iload_n 2, 1) := by decide +kernel
theorem dX7_refuse_7 : decode cX7_refuse 7 = .ok (.putfield 61, 3) := by decide +kernel
theorem dX7_refuse_10 : decode cX7_refuse 10 = .ok (.new 329, 3) := by decide +kernel
theorem dX7_refuse_13 : decode cX7_refuse 13 = .ok (.dup, 1) := by decide +kernel
theorem dX7_refuse_14 : decode cX7_refuse 14 = .ok (.ldc_w 331, 3) := by decide +kernel
theorem dX7_refuse_17 : decode cX7_refuse 17 = .ok (.invokespecial 333, 3) := by decide +kernel
theorem dX7_refuse_20 : decode cX7_refuse 20 = .ok (.athrow, 1) := by decide +kernel
theorem dX7_roundOf_0 : decode cX7_roundOf 0 = .ok (.iload_n 0, 1) := by decide +kernel
theorem dX7_roundOf_1 : decode cX7_roundOf 1 = .ok (.ifCond .ne 8, 3) := by decide +kernel
theorem dX7_roundOf_4 : decode cX7_roundOf 4 = .ok (.bipush 8, 2) := by decide +kernel
theorem dX7_roundOf_6 : decode cX7_roundOf 6 = .ok (.goto 4, 3) := by decide +kernel
theorem dX7_roundOf_9 : decode cX7_roundOf 9 = .ok (.iconst 4, 1) := by decide +kernel
theorem dX7_roundOf_10 : decode cX7_roundOf 10 = .ok (.ireturn, 1) := by decide +kernel
theorem dX7_doMove_0 : decode cX7_doMove 0 = .ok (.aload_n 0, 1) := by decide +kernel
theorem dX7_doMove_1 : decode cX7_doMove 1 = .ok (.getfield 47, 3) := by decide +kernel
theorem dX7_doMove_4 : decode cX7_doMove 4 = .ok (.iload_n 1, 1) := by decide +kernel
theorem dX7_doMove_5 : decode cX7_doMove 5 = .ok (.iload_n 2, 1) := by decide +kernel
theorem dX7_doMove_6 : decode cX7_doMove 6 = .ok (.iload_n 3, 1) := by decide +kernel
theorem dX7_doMove_7 : decode cX7_doMove 7 = .ok (.invokevirtual 334, 3) := by decide +kernel
theorem dX7_doMove_10 : decode cX7_doMove 10 = .ok (.aload_n 0, 1) := by decide +kernel
theorem dX7_doMove_11 : decode cX7_doMove 11 = .ok (.getfield 10, 3) := by decide +kernel
theorem dX7_doMove_14 : decode cX7_doMove 14 = .ok (.getfield 79, 3) := by decide +kernel
theorem dX7_doMove_17 : decode cX7_doMove 17 = .ok (.aload_n 0, 1) := by decide +kernel
theorem dX7_doMove_18 : decode cX7_doMove 18 = .ok (.getfield 47, 3) := by decide +kernel
theorem dX7_doMove_21 : decode cX7_doMove 21 = .ok (.invokevirtual 197, 3) := by decide +kernel
theorem dX7_doMove_24 : decode cX7_doMove 24 = .ok (.aload_n 0, 1) := by decide +kernel
theorem dX7_doMove_25 : decode cX7_doMove 25 = .ok (.getfield 10, 3) := by decide +kernel
theorem dX7_doMove_28 : decode cX7_doMove 28 = .ok (.dup, 1) := by decide +kernel
theorem dX7_doMove_29 : decode cX7_doMove 29 = .ok (.getfield 288, 3) := by decide +kernel
theorem dX7_doMove_32 : decode cX7_doMove 32 = .ok (.iconst 1, 1) := by decide +kernel
theorem dX7_doMove_33 : decode cX7_doMove 33 = .ok (.iadd, 1) := by decide +kernel
theorem dX7_doMove_34 : decode cX7_doMove 34 = .ok (.putfield 288, 3) := by decide +kernel
theorem dX7_doMove_37 : decode cX7_doMove 37 = .ok (.return_, 1) := by decide +kernel
theorem dX7_doLoggedMove_0 : decode cX7_doLoggedMove 0 = .ok (.aload_n 0, 1) := by decide +kernel
theorem dX7_doLoggedMove_1 : decode cX7_doLoggedMove 1 = .ok (.iload_n 1, 1) := by decide +kernel
theorem dX7_doLoggedMove_2 : decode cX7_doLoggedMove 2 = .ok (.iload_n 2, 1) := by decide +kernel
theorem dX7_doLoggedMove_3 : decode cX7_doLoggedMove 3 = .ok (.iload_n 3, 1) := by decide +kernel
theorem dX7_doLoggedMove_4 : decode cX7_doLoggedMove 4 = .ok (.invokevirtual 113, 3) := by decide +kernel
theorem dX7_doLoggedMove_7 : decode cX7_doLoggedMove 7 = .ok (.aload_n 0, 1) := by decide +kernel
theorem dX7_doLoggedMove_8 : decode cX7_doLoggedMove 8 = .ok (.getfield 10, 3) := by decide +kernel
theorem dX7_doLoggedMove_11 : decode cX7_doLoggedMove 11 = .ok (.getfield 93, 3) := by decide +kernel
theorem dX7_doLoggedMove_14 : decode cX7_doLoggedMove 14 = .ok (.iload_n 1, 1) := by decide +kernel
theorem dX7_doLoggedMove_15 : decode cX7_doLoggedMove 15 = .ok (.iload_n 2, 1) := by decide +kernel
theorem dX7_doLoggedMove_16 : decode cX7_doLoggedMove 16 = .ok (.iload_n 3, 1) := by decide +kernel
theorem dX7_doLoggedMove_17 : decode cX7_doLoggedMove 17 = .ok (.invokevirtual 337, 3) := by decide +kernel
theorem dX7_doLoggedMove_20 : decode cX7_doLoggedMove 20 = .ok (.return_, 1) := by decide +kernel
theorem dX7_putMade_0 : decode cX7_putMade 0 = .ok (.aload_n 0, 1) := by decide +kernel
theorem dX7_putMade_1 : decode cX7_putMade 1 = .ok (.getfield 19, 3) := by decide +kernel
theorem dX7_putMade_4 : decode cX7_putMade 4 = .ok (.aload_n 0, 1) := by decide +kernel
theorem dX7_putMade_5 : decode cX7_putMade 5 = .ok (.getfield 10, 3) := by decide +kernel
theorem dX7_putMade_8 : decode cX7_putMade 8 = .ok (.invokevirtual 72, 3) := by decide +kernel
theorem dX7_putMade_11 : decode cX7_putMade 11 = .ok (.aload_n 0, 1) := by decide +kernel
theorem dX7_putMade_12 : decode cX7_putMade 12 = .ok (.getfield 10, 3) := by decide +kernel
theorem dX7_putMade_15 : decode cX7_putMade 15 = .ok (.iload_n 1, 1) := by decide +kernel
theorem dX7_putMade_16 : decode cX7_putMade 16 = .ok (.aload_n 0, 1) := by decide +kernel
theorem dX7_putMade_17 : decode cX7_putMade 17 = .ok (.getfield 47, 3) := by decide +kernel
theorem dX7_putMade_20 : decode cX7_putMade 20 = .ok (.invokevirtual 172, 3) := by decide +kernel
theorem dX7_putMade_23 : decode cX7_putMade 23 = .ok (.aload_n 0, 1) := by decide +kernel
theorem dX7_putMade_24 : decode cX7_putMade 24 = .ok (.getfield 47, 3) := by decide +kernel
theorem dX7_putMade_27 : decode cX7_putMade 27 = .ok (.invokevirtual 223, 3) := by decide +kernel
theorem dX7_putMade_30 : decode cX7_putMade 30 = .ok (.ireturn, 1) := by decide +kernel
theorem dX7_isUndoneByInverse_0 : decode cX7_isUndoneByInverse 0 = .ok (.aload_n 0, 1) := by decide +kernel
theorem dX7_isUndoneByInverse_1 : decode cX7_isUndoneByInverse 1 = .ok (.getfield 47, 3) := by decide +kernel
theorem dX7_isUndoneByInverse_4 : decode cX7_isUndoneByInverse 4 = .ok (.aload_n 1, 1) := by decide +kernel
theorem dX7_isUndoneByInverse_5 : decode cX7_isUndoneByInverse 5 = .ok (.invokevirtual 190, 3) := by decide +kernel
theorem dX7_isUndoneByInverse_8 : decode cX7_isUndoneByInverse 8 = .ok (.aload_n 0, 1) := by decide +kernel
theorem dX7_isUndoneByInverse_9 : decode cX7_isUndoneByInverse 9 = .ok (.getfield 51, 3) := by decide +kernel
theorem dX7_isUndoneByInverse_12 : decode cX7_isUndoneByInverse 12 = .ok (.aload_n 1, 1) := by decide +kernel
theorem dX7_isUndoneByInverse_13 : decode cX7_isUndoneByInverse 13 = .ok (.invokevirtual 186, 3) := by decide +kernel
theorem dX7_isUndoneByInverse_16 : decode cX7_isUndoneByInverse 16 = .ok (.aload_n 0, 1) := by decide +kernel
theorem dX7_isUndoneByInverse_17 : decode cX7_isUndoneByInverse 17 = .ok (.getfield 47, 3) := by decide +kernel
theorem dX7_isUndoneByInverse_20 : decode cX7_isUndoneByInverse 20 = .ok (.aload_n 0, 1) := by decide +kernel
theorem dX7_isUndoneByInverse_21 : decode cX7_isUndoneByInverse 21 = .ok (.getfield 51, 3) := by decide +kernel
theorem dX7_isUndoneByInverse_24 : decode cX7_isUndoneByInverse 24 = .ok (.invokevirtual 201, 3) := by decide +kernel
theorem dX7_isUndoneByInverse_27 : decode cX7_isUndoneByInverse 27 = .ok (.aload_n 0, 1) := by decide +kernel
theorem dX7_isUndoneByInverse_28 : decode cX7_isUndoneByInverse 28 = .ok (.getfield 47, 3) := by decide +kernel
theorem dX7_isUndoneByInverse_31 : decode cX7_isUndoneByInverse 31 = .ok (.invokevirtual 340, 3) := by decide +kernel
theorem dX7_isUndoneByInverse_34 : decode cX7_isUndoneByInverse 34 = .ok (.ireturn, 1) := by decide +kernel
theorem dX7_takeSequence_0 : decode cX7_takeSequence 0 = .ok (.aload_n 0, 1) := by decide +kernel
theorem dX7_takeSequence_1 : decode cX7_takeSequence 1 = .ok (.getfield 33, 3) := by decide +kernel
theorem dX7_takeSequence_4 : decode cX7_takeSequence 4 = .ok (.aload_n 0, 1) := by decide +kernel
theorem dX7_takeSequence_5 : decode cX7_takeSequence 5 = .ok (.getfield 10, 3) := by decide +kernel
theorem dX7_takeSequence_8 : decode cX7_takeSequence 8 = .ok (.invokevirtual 343, 3) := by decide +kernel
theorem dX7_takeSequence_11 : decode cX7_takeSequence 11 = .ok (.istore_n 1, 1) := by decide +kernel
theorem dX7_takeSequence_12 : decode cX7_takeSequence 12 = .ok (.aload_n 0, 1) := by decide +kernel
theorem dX7_takeSequence_13 : decode cX7_takeSequence 13 = .ok (.getfield 33, 3) := by decide +kernel
theorem dX7_takeSequence_16 : decode cX7_takeSequence 16 = .ok (.getfield 152, 3) := by decide +kernel
theorem dX7_takeSequence_19 : decode cX7_takeSequence 19 = .ok (.invokevirtual 155, 3) := by decide +kernel
theorem dX7_takeSequence_22 : decode cX7_takeSequence 22 = .ok (.iload_n 1, 1) := by decide +kernel
theorem dX7_takeSequence_23 : decode cX7_takeSequence 23 = .ok (.iconst (-1), 1) := by decide +kernel
theorem dX7_takeSequence_24 : decode cX7_takeSequence 24 = .ok (.if_icmp .ne 25, 3) := by decide +kernel
theorem dX7_takeSequence_27 : decode cX7_takeSequence 27 = .ok (.aload_n 0, 1) := by decide +kernel
theorem dX7_takeSequence_28 : decode cX7_takeSequence 28 = .ok (.aload_n 0, 1) := by decide +kernel
theorem dX7_takeSequence_29 : decode cX7_takeSequence 29 = .ok (.getfield 33, 3) := by decide +kernel
theorem dX7_takeSequence_32 : decode cX7_takeSequence 32 = .ok (.invokevirtual 347, 3) := by decide +kernel
theorem dX7_takeSequence_35 : decode cX7_takeSequence 35 = .ok (.putfield 54, 3) := by decide +kernel
theorem dX7_takeSequence_38 : decode cX7_takeSequence 38 = .ok (.new 292, 3) := by decide +kernel
theorem dX7_takeSequence_41 : decode cX7_takeSequence 41 = .ok (.dup, 1) := by decide +kernel
theorem dX7_takeSequence_42 : decode cX7_takeSequence 42 = .ok (.ldc_w 350, 3) := by decide +kernel
theorem dX7_takeSequence_45 : decode cX7_takeSequence 45 = .ok (.invokespecial 296, 3) := by decide +kernel
theorem dX7_takeSequence_48 : decode cX7_takeSequence 48 = .ok (.athrow, 1) := by decide +kernel
theorem dX7_takeSequence_49 : decode cX7_takeSequence 49 = .ok (.iload_n 1, 1) := by decide +kernel
theorem dX7_takeSequence_50 : decode cX7_takeSequence 50 = .ok (.sipush 200, 3) := by decide +kernel
theorem dX7_takeSequence_53 : decode cX7_takeSequence 53 = .ok (.if_icmp .le 11, 3) := by decide +kernel
theorem dX7_takeSequence_56 : decode cX7_takeSequence 56 = .ok (.aload_n 0, 1) := by decide +kernel
theorem dX7_takeSequence_57 : decode cX7_takeSequence 57 = .ok (.iconst 2, 1) := by decide +kernel
theorem dX7_takeSequence_58 : decode cX7_takeSequence 58 = .ok (.sipush 200, 3) := by decide +kernel
theorem dX7_takeSequence_61 : decode cX7_takeSequence 61 = .ok (.invokevirtual 102, 3) := by decide +kernel
theorem dX7_takeSequence_64 : decode cX7_takeSequence 64 = .ok (.iload_n 1, 1) := by decide +kernel
theorem dX7_takeSequence_65 : decode cX7_takeSequence 65 = .ok (.ireturn, 1) := by decide +kernel
theorem dX7_movesBetween_0 : decode cX7_movesBetween 0 = .ok (.iload_n 0, 1) := by decide +kernel
theorem dX7_movesBetween_1 : decode cX7_movesBetween 1 = .ok (.bipush 8, 2) := by decide +kernel
theorem dX7_movesBetween_3 : decode cX7_movesBetween 3 = .ok (.irem, 1) := by decide +kernel
theorem dX7_movesBetween_4 : decode cX7_movesBetween 4 = .ok (.iload_n 1, 1) := by decide +kernel
theorem dX7_movesBetween_5 : decode cX7_movesBetween 5 = .ok (.bipush 8, 2) := by decide +kernel
theorem dX7_movesBetween_7 : decode cX7_movesBetween 7 = .ok (.irem, 1) := by decide +kernel
theorem dX7_movesBetween_8 : decode cX7_movesBetween 8 = .ok (.if_icmp .ne 7, 3) := by decide +kernel
theorem dX7_movesBetween_11 : decode cX7_movesBetween 11 = .ok (.iconst 0, 1) := by decide +kernel
theorem dX7_movesBetween_12 : decode cX7_movesBetween 12 = .ok (.goto 4, 3) := by decide +kernel
theorem dX7_movesBetween_15 : decode cX7_movesBetween 15 = .ok (.iconst 1, 1) := by decide +kernel
theorem dX7_movesBetween_16 : decode cX7_movesBetween 16 = .ok (.istore_n 2, 1) := by decide +kernel
theorem dX7_movesBetween_17 : decode cX7_movesBetween 17 = .ok (.iload_n 0, 1) := by decide +kernel
theorem dX7_movesBetween_18 : decode cX7_movesBetween 18 = .ok (.bipush 8, 2) := by decide +kernel
theorem dX7_movesBetween_20 : decode cX7_movesBetween 20 = .ok (.idiv, 1) := by decide +kernel
theorem dX7_movesBetween_21 : decode cX7_movesBetween 21 = .ok (.iload_n 1, 1) := by decide +kernel
theorem dX7_movesBetween_22 : decode cX7_movesBetween 22 = .ok (.bipush 8, 2) := by decide +kernel
theorem dX7_movesBetween_24 : decode cX7_movesBetween 24 = .ok (.idiv, 1) := by decide +kernel
theorem dX7_movesBetween_25 : decode cX7_movesBetween 25 = .ok (.if_icmp .ne 7, 3) := by decide +kernel
theorem dX7_movesBetween_28 : decode cX7_movesBetween 28 = .ok (.iconst 0, 1) := by decide +kernel
theorem dX7_movesBetween_29 : decode cX7_movesBetween 29 = .ok (.goto 4, 3) := by decide +kernel
theorem dX7_movesBetween_32 : decode cX7_movesBetween 32 = .ok (.iconst 1, 1) := by decide +kernel
theorem dX7_movesBetween_33 : decode cX7_movesBetween 33 = .ok (.istore_n 3, 1) := by decide +kernel
theorem dX7_movesBetween_34 : decode cX7_movesBetween 34 = .ok (.iload_n 2, 1) := by decide +kernel
theorem dX7_movesBetween_35 : decode cX7_movesBetween 35 = .ok (.iload_n 3, 1) := by decide +kernel
theorem dX7_movesBetween_36 : decode cX7_movesBetween 36 = .ok (.iadd, 1) := by decide +kernel
theorem dX7_movesBetween_37 : decode cX7_movesBetween 37 = .ok (.ireturn, 1) := by decide +kernel
