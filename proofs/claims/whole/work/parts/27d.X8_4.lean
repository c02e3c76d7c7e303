/-! ===== printed: decode rows of the model ===== -/
theorem dX8_order_3 : decode cX8_order 3 = .ok (.istore_n 3, 1) := by decide +kernel
theorem dX8_order_4 : decode cX8_order 4 = .ok (.iload_n 3, 1) := by decide +kernel
theorem dX8_order_5 : decode cX8_order 5 = .ok (.bipush 32, 2) := by decide +kernel
theorem dX8_order_7 : decode cX8_order 7 = .ok (.if_icmp .ge 29, 3) := by decide +kernel
theorem dX8_order_10 : decode cX8_order 10 = .ok (.aload_n 0, 1) := by decide +kernel
theorem dX8_order_11 : decode cX8_order 11 = .ok (.iload_n 1, 1) := by decide +kernel
theorem dX8_order_12 : decode cX8_order 12 = .ok (.iload_n 3, 1) := by decide +kernel
theorem dX8_order_13 : decode cX8_order 13 = .ok (.invokevirtual 189, 3) := by decide +kernel
theorem dX8_order_16 : decode cX8_order 16 = .ok (.istore 4, 2) := by decide +kernel
theorem dX8_order_18 : decode cX8_order 18 = .ok (.iload_n 2, 1) := by decide +kernel
theorem dX8_order_19 : decode cX8_order 19 = .ok (.iload_n 2, 1) := by decide +kernel
theorem dX8_order_20 : decode cX8_order 20 = .ok (.iload 4, 2) := by decide +kernel
theorem dX8_order_22 : decode cX8_order 22 = .ok (.invokestatic 186, 3) := by decide +kernel
theorem dX8_order_25 : decode cX8_order 25 = .ok (.idiv, 1) := by decide +kernel
theorem dX8_order_26 : decode cX8_order 26 = .ok (.iload 4, 2) := by decide +kernel
theorem dX8_order_28 : decode cX8_order 28 = .ok (.imul, 1) := by decide +kernel
theorem dX8_order_29 : decode cX8_order 29 = .ok (.istore_n 2, 1) := by decide +kernel
theorem dX8_order_30 : decode cX8_order 30 = .ok (.iinc 3 1, 3) := by decide +kernel
theorem dX8_order_33 : decode cX8_order 33 = .ok (.goto (-29), 3) := by decide +kernel
theorem dX8_order_36 : decode cX8_order 36 = .ok (.iload_n 2, 1) := by decide +kernel
theorem dX8_order_37 : decode cX8_order 37 = .ok (.ireturn, 1) := by decide +kernel
theorem dX8_shelfOf_0 : decode cX8_shelfOf 0 = .ok (.aload_n 0, 1) := by decide +kernel
theorem dX8_shelfOf_1 : decode cX8_shelfOf 1 = .ok (.iload_n 1, 1) := by decide +kernel
theorem dX8_shelfOf_2 : decode cX8_shelfOf 2 = .ok (.invokestatic 171, 3) := by decide +kernel
theorem dX8_shelfOf_5 : decode cX8_shelfOf 5 = .ok (.ifCond .ne 7, 3) := by decide +kernel
theorem dX8_shelfOf_8 : decode cX8_shelfOf 8 = .ok (.iconst 1, 1) := by decide +kernel
theorem dX8_shelfOf_9 : decode cX8_shelfOf 9 = .ok (.goto 29, 3) := by decide +kernel
theorem dX8_shelfOf_12 : decode cX8_shelfOf 12 = .ok (.iload_n 2, 1) := by decide +kernel
theorem dX8_shelfOf_13 : decode cX8_shelfOf 13 = .ok (.iconst 0, 1) := by decide +kernel
theorem dX8_shelfOf_14 : decode cX8_shelfOf 14 = .ok (.iconst 3, 1) := by decide +kernel
theorem dX8_shelfOf_15 : decode cX8_shelfOf 15 = .ok (.invokestatic 93, 3) := by decide +kernel
theorem dX8_shelfOf_18 : decode cX8_shelfOf 18 = .ok (.ifCond .ne 7, 3) := by decide +kernel
theorem dX8_shelfOf_21 : decode cX8_shelfOf 21 = .ok (.iconst 2, 1) := by decide +kernel
theorem dX8_shelfOf_22 : decode cX8_shelfOf 22 = .ok (.goto 16, 3) := by decide +kernel
theorem dX8_shelfOf_25 : decode cX8_shelfOf 25 = .ok (.aload_n 0, 1) := by decide +kernel
theorem dX8_shelfOf_26 : decode cX8_shelfOf 26 = .ok (.iload_n 1, 1) := by decide +kernel
theorem dX8_shelfOf_27 : decode cX8_shelfOf 27 = .ok (.invokevirtual 177, 3) := by decide +kernel
theorem dX8_shelfOf_30 : decode cX8_shelfOf 30 = .ok (.ifCond .eq 7, 3) := by decide +kernel
theorem dX8_shelfOf_33 : decode cX8_shelfOf 33 = .ok (.iconst 3, 1) := by decide +kernel
theorem dX8_shelfOf_34 : decode cX8_shelfOf 34 = .ok (.goto 4, 3) := by decide +kernel
theorem dX8_shelfOf_37 : decode cX8_shelfOf 37 = .ok (.iconst 0, 1) := by decide +kernel
theorem dX8_shelfOf_38 : decode cX8_shelfOf 38 = .ok (.putfield 42, 3) := by decide +kernel
theorem dX8_shelfOf_41 : decode cX8_shelfOf 41 = .ok (.aload_n 0, 1) := by decide +kernel
theorem dX8_shelfOf_42 : decode cX8_shelfOf 42 = .ok (.getfield 42, 3) := by decide +kernel
theorem dX8_shelfOf_45 : decode cX8_shelfOf 45 = .ok (.ifCond .le 5, 3) := by decide +kernel
theorem dX8_shelfOf_48 : decode cX8_shelfOf 48 = .ok (.iconst 0, 1) := by decide +kernel
theorem dX8_shelfOf_49 : decode cX8_shelfOf 49 = .ok (.ireturn, 1) := by decide +kernel
theorem dX8_shelfOf_50 : decode cX8_shelfOf 50 = .ok (.iconst 0, 1) := by decide +kernel
theorem dX8_shelfOf_51 : decode cX8_shelfOf 51 = .ok (.istore_n 3, 1) := by decide +kernel
theorem dX8_shelfOf_52 : decode cX8_shelfOf 52 = .ok (.iconst 0, 1) := by decide +kernel
theorem dX8_shelfOf_53 : decode cX8_shelfOf 53 = .ok (.istore 4, 2) := by decide +kernel
theorem dX8_shelfOf_55 : decode cX8_shelfOf 55 = .ok (.iconst 0, 1) := by decide +kernel
theorem dX8_shelfOf_56 : decode cX8_shelfOf 56 = .ok (.istore 5, 2) := by decide +kernel
theorem dX8_shelfOf_58 : decode cX8_shelfOf 58 = .ok (.iconst 0, 1) := by decide +kernel
theorem dX8_shelfOf_59 : decode cX8_shelfOf 59 = .ok (.istore 6, 2) := by decide +kernel
theorem dX8_shelfOf_61 : decode cX8_shelfOf 61 = .ok (.iload 6, 2) := by decide +kernel
theorem dX8_shelfOf_63 : decode cX8_shelfOf 63 = .ok (.bipush 32, 2) := by decide +kernel
theorem dX8_shelfOf_65 : decode cX8_shelfOf 65 = .ok (.if_icmp .ge 67, 3) := by decide +kernel
theorem dX8_shelfOf_68 : decode cX8_shelfOf 68 = .ok (.aload_n 0, 1) := by decide +kernel
theorem dX8_shelfOf_69 : decode cX8_shelfOf 69 = .ok (.iload_n 1, 1) := by decide +kernel
theorem dX8_shelfOf_70 : decode cX8_shelfOf 70 = .ok (.iload 6, 2) := by decide +kernel
theorem dX8_shelfOf_72 : decode cX8_shelfOf 72 = .ok (.invokevirtual 189, 3) := by decide +kernel
theorem dX8_shelfOf_75 : decode cX8_shelfOf 75 = .ok (.istore 7, 2) := by decide +kernel
theorem dX8_shelfOf_77 : decode cX8_shelfOf 77 = .ok (.iload_n 3, 1) := by decide +kernel
theorem dX8_shelfOf_78 : decode cX8_shelfOf 78 = .ok (.iload 7, 2) := by decide +kernel
theorem dX8_shelfOf_80 : decode cX8_shelfOf 80 = .ok (.iconst 1, 1) := by decide +kernel
theorem dX8_shelfOf_81 : decode cX8_shelfOf 81 = .ok (.if_icmp .le 7, 3) := by decide +kernel
theorem dX8_shelfOf_84 : decode cX8_shelfOf 84 = .ok (.iconst 1, 1) := by decide +kernel
theorem dX8_shelfOf_85 : decode cX8_shelfOf 85 = .ok (.goto 4, 3) := by decide +kernel
theorem dX8_shelfOf_88 : decode cX8_shelfOf 88 = .ok (.iconst 0, 1) := by decide +kernel
theorem dX8_shelfOf_89 : decode cX8_shelfOf 89 = .ok (.iadd, 1) := by decide +kernel
theorem dX8_shelfOf_90 : decode cX8_shelfOf 90 = .ok (.istore_n 3, 1) := by decide +kernel
theorem dX8_shelfOf_91 : decode cX8_shelfOf 91 = .ok (.iload 4, 2) := by decide +kernel
theorem dX8_shelfOf_93 : decode cX8_shelfOf 93 = .ok (.iload 7, 2) := by decide +kernel
theorem dX8_shelfOf_95 : decode cX8_shelfOf 95 = .ok (.iconst 1, 1) := by decide +kernel
theorem dX8_shelfOf_96 : decode cX8_shelfOf 96 = .ok (.if_icmp .le 17, 3) := by decide +kernel
theorem dX8_shelfOf_99 : decode cX8_shelfOf 99 = .ok (.aload_n 0, 1) := by decide +kernel
theorem dX8_shelfOf_100 : decode cX8_shelfOf 100 = .ok (.iload_n 1, 1) := by decide +kernel
theorem dX8_shelfOf_101 : decode cX8_shelfOf 101 = .ok (.iload 6, 2) := by decide +kernel
theorem dX8_shelfOf_103 : decode cX8_shelfOf 103 = .ok (.invokevirtual 192, 3) := by decide +kernel
theorem dX8_shelfOf_106 : decode cX8_shelfOf 106 = .ok (.ifCond .eq 7, 3) := by decide +kernel
theorem dX8_shelfOf_109 : decode cX8_shelfOf 109 = .ok (.iconst 1, 1) := by decide +kernel
theorem dX8_shelfOf_110 : decode cX8_shelfOf 110 = .ok (.goto 4, 3) := by decide +kernel
theorem dX8_shelfOf_113 : decode cX8_shelfOf 113 = .ok (.iconst 0, 1) := by decide +kernel
theorem dX8_shelfOf_114 : decode cX8_shelfOf 114 = .ok (.iadd, 1) := by decide +kernel
theorem dX8_shelfOf_115 : decode cX8_shelfOf 115 = .ok (.istore 4, 2) := by decide +kernel
theorem dX8_shelfOf_117 : decode cX8_shelfOf 117 = .ok (.iload 5, 2) := by decide +kernel
theorem dX8_shelfOf_119 : decode cX8_shelfOf 119 = .ok (.iload 7, 2) := by decide +kernel
theorem dX8_shelfOf_121 : decode cX8_shelfOf 121 = .ok (.invokestatic 196, 3) := by decide +kernel
theorem dX8_shelfOf_124 : decode cX8_shelfOf 124 = .ok (.istore 5, 2) := by decide +kernel
theorem dX8_shelfOf_126 : decode cX8_shelfOf 126 = .ok (.iinc 6 1, 3) := by decide +kernel
theorem dX8_shelfOf_129 : decode cX8_shelfOf 129 = .ok (.goto (-68), 3) := by decide +kernel
theorem dX8_shelfOf_132 : decode cX8_shelfOf 132 = .ok (.iload_n 2, 1) := by decide +kernel
theorem dX8_shelfOf_133 : decode cX8_shelfOf 133 = .ok (.ifCond .ne 7, 3) := by decide +kernel
theorem dX8_shelfOf_136 : decode cX8_shelfOf 136 = .ok (.iload_n 3, 1) := by decide +kernel
theorem dX8_shelfOf_137 : decode cX8_shelfOf 137 = .ok (.goto 28, 3) := by decide +kernel
theorem dX8_shelfOf_140 : decode cX8_shelfOf 140 = .ok (.iload_n 2, 1) := by decide +kernel
theorem dX8_shelfOf_141 : decode cX8_shelfOf 141 = .ok (.iconst 1, 1) := by decide +kernel
theorem dX8_shelfOf_142 : decode cX8_shelfOf 142 = .ok (.if_icmp .ne 8, 3) := by decide +kernel
theorem dX8_shelfOf_145 : decode cX8_shelfOf 145 = .ok (.iload 4, 2) := by decide +kernel
theorem dX8_shelfOf_147 : decode cX8_shelfOf 147 = .ok (.goto 18, 3) := by decide +kernel
theorem dX8_shelfOf_150 : decode cX8_shelfOf 150 = .ok (.iload_n 2, 1) := by decide +kernel
theorem dX8_shelfOf_151 : decode cX8_shelfOf 151 = .ok (.iconst 2, 1) := by decide +kernel
theorem dX8_shelfOf_152 : decode cX8_shelfOf 152 = .ok (.if_icmp .ne 8, 3) := by decide +kernel
theorem dX8_shelfOf_155 : decode cX8_shelfOf 155 = .ok (.iload 5, 2) := by decide +kernel
theorem dX8_shelfOf_157 : decode cX8_shelfOf 157 = .ok (.goto 8, 3) := by decide +kernel
theorem dX8_shelfOf_160 : decode cX8_shelfOf 160 = .ok (.aload_n 0, 1) := by decide +kernel
theorem dX8_shelfOf_161 : decode cX8_shelfOf 161 = .ok (.iload_n 1, 1) := by decide +kernel
theorem dX8_shelfOf_162 : decode cX8_shelfOf 162 = .ok (.invokevirtual 201, 3) := by decide +kernel
theorem dX8_shelfOf_165 : decode cX8_shelfOf 165 = .ok (.ireturn, 1) := by decide +kernel
theorem dX8_orderAgain_0 : decode cX8_orderAgain 0 = .ok (.aload_n 0, 1) := by decide +kernel
theorem dX8_orderAgain_1 : decode cX8_orderAgain 1 = .ok (.iload_n 1, 1) := by decide +kernel
theorem dX8_orderAgain_2 : decode cX8_orderAgain 2 = .ok (.invokestatic 171, 3) := by decide +kernel
theorem dX8_orderAgain_5 : decode cX8_orderAgain 5 = .ok (.ifCond .ne 7, 3) := by decide +kernel
theorem dX8_orderAgain_8 : decode cX8_orderAgain 8 = .ok (.iconst 1, 1) := by decide +kernel
theorem dX8_orderAgain_9 : decode cX8_orderAgain 9 = .ok (.goto 16, 3) := by decide +kernel
theorem dX8_orderAgain_12 : decode cX8_orderAgain 12 = .ok (.aload_n 0, 1) := by decide +kernel
theorem dX8_orderAgain_13 : decode cX8_orderAgain 13 = .ok (.iload_n 1, 1) := by decide +kernel
theorem dX8_orderAgain_14 : decode cX8_orderAgain 14 = .ok (.invokevirtual 177, 3) := by decide +kernel
theorem dX8_orderAgain_17 : decode cX8_orderAgain 17 = .ok (.ifCond .eq 7, 3) := by decide +kernel
theorem dX8_orderAgain_20 : decode cX8_orderAgain 20 = .ok (.iconst 2, 1) := by decide +kernel
theorem dX8_orderAgain_21 : decode cX8_orderAgain 21 = .ok (.goto 4, 3) := by decide +kernel
theorem dX8_orderAgain_24 : decode cX8_orderAgain 24 = .ok (.iconst 0, 1) := by decide +kernel
theorem dX8_orderAgain_25 : decode cX8_orderAgain 25 = .ok (.putfield 42, 3) := by decide +kernel
theorem dX8_orderAgain_28 : decode cX8_orderAgain 28 = .ok (.aload_n 0, 1) := by decide +kernel
theorem dX8_orderAgain_29 : decode cX8_orderAgain 29 = .ok (.getfield 42, 3) := by decide +kernel
theorem dX8_orderAgain_32 : decode cX8_orderAgain 32 = .ok (.ifCond .le 7, 3) := by decide +kernel
theorem dX8_orderAgain_35 : decode cX8_orderAgain 35 = .ok (.iconst 0, 1) := by decide +kernel
theorem dX8_orderAgain_36 : decode cX8_orderAgain 36 = .ok (.goto 8, 3) := by decide +kernel
theorem dX8_orderAgain_39 : decode cX8_orderAgain 39 = .ok (.aload_n 0, 1) := by decide +kernel
theorem dX8_orderAgain_40 : decode cX8_orderAgain 40 = .ok (.iload_n 1, 1) := by decide +kernel
theorem dX8_orderAgain_41 : decode cX8_orderAgain 41 = .ok (.invokevirtual 201, 3) := by decide +kernel
theorem dX8_orderAgain_44 : decode cX8_orderAgain 44 = .ok (.ireturn, 1) := by decide +kernel
theorem dX8_isEven_0 : decode cX8_isEven 0 = .ok (.aload_n 0, 1) := by decide +kernel
theorem dX8_isEven_1 : decode cX8_isEven 1 = .ok (.iload_n 1, 1) := by decide +kernel
theorem dX8_isEven_2 : decode cX8_isEven 2 = .ok (.invokestatic 171, 3) := by decide +kernel
theorem dX8_isEven_5 : decode cX8_isEven 5 = .ok (.ifCond .ne 7, 3) := by decide +kernel
theorem dX8_isEven_8 : decode cX8_isEven 8 = .ok (.iconst 1, 1) := by decide +kernel
theorem dX8_isEven_9 : decode cX8_isEven 9 = .ok (.goto 16, 3) := by decide +kernel
theorem dX8_isEven_12 : decode cX8_isEven 12 = .ok (.aload_n 0, 1) := by decide +kernel
theorem dX8_isEven_13 : decode cX8_isEven 13 = .ok (.iload_n 1, 1) := by decide +kernel
theorem dX8_isEven_14 : decode cX8_isEven 14 = .ok (.invokevirtual 177, 3) := by decide +kernel
theorem dX8_isEven_17 : decode cX8_isEven 17 = .ok (.ifCond .eq 7, 3) := by decide +kernel
theorem dX8_isEven_20 : decode cX8_isEven 20 = .ok (.iconst 2, 1) := by decide +kernel
theorem dX8_isEven_21 : decode cX8_isEven 21 = .ok (.goto 4, 3) := by decide +kernel
theorem dX8_isEven_24 : decode cX8_isEven 24 = .ok (.iconst 0, 1) := by decide +kernel
theorem dX8_isEven_25 : decode cX8_isEven 25 = .ok (.putfield 42, 3) := by decide +kernel
theorem dX8_isEven_28 : decode cX8_isEven 28 = .ok (.iconst 0, 1) := by decide +kernel
theorem dX8_isEven_29 : decode cX8_isEven 29 = .ok (.istore_n 3, 1) := by decide +kernel
theorem dX8_isEven_30 : decode cX8_isEven 30 = .ok (.iconst 0, 1) := by decide +kernel
theorem dX8_isEven_31 : decode cX8_isEven 31 = .ok (.istore 4, 2) := by decide +kernel
theorem dX8_isEven_33 : decode cX8_isEven 33 = .ok (.iload 4, 2) := by decide +kernel
theorem dX8_isEven_35 : decode cX8_isEven 35 = .ok (.bipush 32, 2) := by decide +kernel
theorem dX8_isEven_37 : decode cX8_isEven 37 = .ok (.if_icmp .ge 34, 3) := by decide +kernel
theorem dX8_isEven_40 : decode cX8_isEven 40 = .ok (.aload_n 0, 1) := by decide +kernel
theorem dX8_isEven_41 : decode cX8_isEven 41 = .ok (.getfield 42, 3) := by decide +kernel
theorem dX8_isEven_44 : decode cX8_isEven 44 = .ok (.ifCond .ne 27, 3) := by decide +kernel
theorem dX8_isEven_47 : decode cX8_isEven 47 = .ok (.iload_n 3, 1) := by decide +kernel
theorem dX8_isEven_48 : decode cX8_isEven 48 = .ok (.aload_n 0, 1) := by decide +kernel
theorem dX8_isEven_49 : decode cX8_isEven 49 = .ok (.iload_n 1, 1) := by decide +kernel
theorem dX8_isEven_50 : decode cX8_isEven 50 = .ok (.iload 4, 2) := by decide +kernel
theorem dX8_isEven_52 : decode cX8_isEven 52 = .ok (.invokevirtual 192, 3) := by decide +kernel
theorem dX8_isEven_55 : decode cX8_isEven 55 = .ok (.ifCond .eq 7, 3) := by decide +kernel
theorem dX8_isEven_58 : decode cX8_isEven 58 = .ok (.iconst 1, 1) := by decide +kernel
theorem dX8_isEven_59 : decode cX8_isEven 59 = .ok (.goto 4, 3) := by decide +kernel
theorem dX8_isEven_62 : decode cX8_isEven 62 = .ok (.iconst 0, 1) := by decide +kernel
theorem dX8_isEven_63 : decode cX8_isEven 63 = .ok (.iadd, 1) := by decide +kernel
theorem dX8_isEven_64 : decode cX8_isEven 64 = .ok (.istore_n 3, 1) := by decide +kernel
theorem dX8_isEven_65 : decode cX8_isEven 65 = .ok (.iinc 4 1, 3) := by decide +kernel
theorem dX8_isEven_68 : decode cX8_isEven 68 = .ok (.goto (-35), 3) := by decide +kernel
theorem dX8_isEven_71 : decode cX8_isEven 71 = .ok (.aload_n 0, 1) := by decide +kernel
theorem dX8_isEven_72 : decode cX8_isEven 72 = .ok (.getfield 42, 3) := by decide +kernel
theorem dX8_isEven_75 : decode cX8_isEven 75 = .ok (.ifCond .ne 16, 3) := by decide +kernel
theorem dX8_isEven_78 : decode cX8_isEven 78 = .ok (.bipush 32, 2) := by decide +kernel
theorem dX8_isEven_80 : decode cX8_isEven 80 = .ok (.iload_n 3, 1) := by decide +kernel
theorem dX8_isEven_81 : decode cX8_isEven 81 = .ok (.isub, 1) := by decide +kernel
theorem dX8_isEven_82 : decode cX8_isEven 82 = .ok (.iconst 2, 1) := by decide +kernel
theorem dX8_isEven_83 : decode cX8_isEven 83 = .ok (.irem, 1) := by decide +kernel
theorem dX8_isEven_84 : decode cX8_isEven 84 = .ok (.ifCond .ne 7, 3) := by decide +kernel
theorem dX8_isEven_87 : decode cX8_isEven 87 = .ok (.iconst 1, 1) := by decide +kernel
theorem dX8_isEven_88 : decode cX8_isEven 88 = .ok (.goto 4, 3) := by decide +kernel
theorem dX8_isEven_91 : decode cX8_isEven 91 = .ok (.iconst 0, 1) := by decide +kernel
theorem dX8_isEven_92 : decode cX8_isEven 92 = .ok (.ireturn, 1) := by decide +kernel
theorem dX8_cycle_0 : decode cX8_cycle 0 = .ok (.aload_n 0, 1) := by decide +kernel
theorem dX8_cycle_1 : decode cX8_cycle 1 = .ok (.iload_n 1, 1) := by decide +kernel
theorem dX8_cycle_2 : decode cX8_cycle 2 = .ok (.invokestatic 171, 3) := by decide +kernel
theorem dX8_cycle_5 : decode cX8_cycle 5 = .ok (.ifCond .eq 10, 3) := by decide +kernel
theorem dX8_cycle_8 : decode cX8_cycle 8 = .ok (.iload_n 2, 1) := by decide +kernel
theorem dX8_cycle_9 : decode cX8_cycle 9 = .ok (.invokestatic 115, 3) := by decide +kernel
theorem dX8_cycle_12 : decode cX8_cycle 12 = .ok (.ifCond .ne 7, 3) := by decide +kernel
theorem dX8_cycle_15 : decode cX8_cycle 15 = .ok (.iconst 1, 1) := by decide +kernel
theorem dX8_cycle_16 : decode cX8_cycle 16 = .ok (.goto 16, 3) := by decide +kernel
theorem dX8_cycle_19 : decode cX8_cycle 19 = .ok (.aload_n 0, 1) := by decide +kernel
theorem dX8_cycle_20 : decode cX8_cycle 20 = .ok (.iload_n 1, 1) := by decide +kernel
theorem dX8_cycle_21 : decode cX8_cycle 21 = .ok (.invokevirtual 177, 3) := by decide +kernel
theorem dX8_cycle_24 : decode cX8_cycle 24 = .ok (.ifCond .eq 7, 3) := by decide +kernel
theorem dX8_cycle_27 : decode cX8_cycle 27 = .ok (.iconst 2, 1) := by decide +kernel
theorem dX8_cycle_28 : decode cX8_cycle 28 = .ok (.goto 4, 3) := by decide +kernel
theorem dX8_cycle_31 : decode cX8_cycle 31 = .ok (.iconst 0, 1) := by decide +kernel
theorem dX8_cycle_32 : decode cX8_cycle 32 = .ok (.putfield 42, 3) := by decide +kernel
theorem dX8_cycle_35 : decode cX8_cycle 35 = .ok (.aload_n 0, 1) := by decide +kernel
theorem dX8_cycle_36 : decode cX8_cycle 36 = .ok (.getfield 42, 3) := by decide +kernel
theorem dX8_cycle_39 : decode cX8_cycle 39 = .ok (.ifCond .le 7, 3) := by decide +kernel
theorem dX8_cycle_42 : decode cX8_cycle 42 = .ok (.iconst 0, 1) := by decide +kernel
theorem dX8_cycle_43 : decode cX8_cycle 43 = .ok (.goto 9, 3) := by decide +kernel
theorem dX8_cycle_46 : decode cX8_cycle 46 = .ok (.aload_n 0, 1) := by decide +kernel
theorem dX8_cycle_47 : decode cX8_cycle 47 = .ok (.iload_n 1, 1) := by decide +kernel
theorem dX8_cycle_48 : decode cX8_cycle 48 = .ok (.iload_n 2, 1) := by decide +kernel
theorem dX8_cycle_49 : decode cX8_cycle 49 = .ok (.invokevirtual 189, 3) := by decide +kernel
theorem dX8_cycle_52 : decode cX8_cycle 52 = .ok (.ireturn, 1) := by decide +kernel
theorem dX8_commutes_0 : decode cX8_commutes 0 = .ok (.aload_n 0, 1) := by decide +kernel
theorem dX8_commutes_1 : decode cX8_commutes 1 = .ok (.iload_n 1, 1) := by decide +kernel
theorem dX8_commutes_2 : decode cX8_commutes 2 = .ok (.invokestatic 171, 3) := by decide +kernel
theorem dX8_commutes_5 : decode cX8_commutes 5 = .ok (.ifCond .eq 10, 3) := by decide +kernel
theorem dX8_commutes_8 : decode cX8_commutes 8 = .ok (.iload_n 2, 1) := by decide +kernel
theorem dX8_commutes_9 : decode cX8_commutes 9 = .ok (.invokestatic 171, 3) := by decide +kernel
theorem dX8_commutes_12 : decode cX8_commutes 12 = .ok (.ifCond .ne 7, 3) := by decide +kernel
theorem dX8_commutes_15 : decode cX8_commutes 15 = .ok (.iconst 1, 1) := by decide +kernel
theorem dX8_commutes_16 : decode cX8_commutes 16 = .ok (.goto 24, 3) := by decide +kernel
theorem dX8_commutes_19 : decode cX8_commutes 19 = .ok (.aload_n 0, 1) := by decide +kernel
theorem dX8_commutes_20 : decode cX8_commutes 20 = .ok (.iload_n 1, 1) := by decide +kernel
theorem dX8_commutes_21 : decode cX8_commutes 21 = .ok (.invokevirtual 177, 3) := by decide +kernel
theorem dX8_commutes_24 : decode cX8_commutes 24 = .ok (.ifCond .ne 11, 3) := by decide +kernel
theorem dX8_commutes_27 : decode cX8_commutes 27 = .ok (.aload_n 0, 1) := by decide +kernel
theorem dX8_commutes_28 : decode cX8_commutes 28 = .ok (.iload_n 2, 1) := by decide +kernel
theorem dX8_commutes_29 : decode cX8_commutes 29 = .ok (.invokevirtual 177, 3) := by decide +kernel
theorem dX8_commutes_32 : decode cX8_commutes 32 = .ok (.ifCond .eq 7, 3) := by decide +kernel
theorem dX8_commutes_35 : decode cX8_commutes 35 = .ok (.iconst 2, 1) := by decide +kernel
theorem dX8_commutes_36 : decode cX8_commutes 36 = .ok (.goto 4, 3) := by decide +kernel
theorem dX8_commutes_39 : decode cX8_commutes 39 = .ok (.iconst 0, 1) := by decide +kernel
theorem dX8_commutes_40 : decode cX8_commutes 40 = .ok (.putfield 42, 3) := by decide +kernel
theorem dX8_commutes_43 : decode cX8_commutes 43 = .ok (.aload_n 0, 1) := by decide +kernel
theorem dX8_commutes_44 : decode cX8_commutes 44 = .ok (.getfield 42, 3) := by decide +kernel
theorem dX8_commutes_47 : decode cX8_commutes 47 = .ok (.ifCond .ne 7, 3) := by decide +kernel
theorem dX8_commutes_50 : decode cX8_commutes 50 = .ok (.iconst 1, 1) := by decide +kernel
theorem dX8_commutes_51 : decode cX8_commutes 51 = .ok (.goto 4, 3) := by decide +kernel
theorem dX8_commutes_54 : decode cX8_commutes 54 = .ok (.iconst 0, 1) := by decide +kernel
theorem dX8_commutes_55 : decode cX8_commutes 55 = .ok (.istore_n 3, 1) := by decide +kernel
theorem dX8_commutes_56 : decode cX8_commutes 56 = .ok (.iconst 0, 1) := by decide +kernel
theorem dX8_commutes_57 : decode cX8_commutes 57 = .ok (.istore 4, 2) := by decide +kernel
theorem dX8_commutes_59 : decode cX8_commutes 59 = .ok (.iload 4, 2) := by decide +kernel
theorem dX8_commutes_61 : decode cX8_commutes 61 = .ok (.bipush 32, 2) := by decide +kernel
theorem dX8_commutes_63 : decode cX8_commutes 63 = .ok (.if_icmp .ge 46, 3) := by decide +kernel
theorem dX8_commutes_66 : decode cX8_commutes 66 = .ok (.iload_n 3, 1) := by decide +kernel
theorem dX8_commutes_67 : decode cX8_commutes 67 = .ok (.ifCond .eq 42, 3) := by decide +kernel
theorem dX8_commutes_70 : decode cX8_commutes 70 = .ok (.aload_n 0, 1) := by decide +kernel
theorem dX8_commutes_71 : decode cX8_commutes 71 = .ok (.iload_n 2, 1) := by decide +kernel
theorem dX8_commutes_72 : decode cX8_commutes 72 = .ok (.aload_n 0, 1) := by decide +kernel
theorem dX8_commutes_73 : decode cX8_commutes 73 = .ok (.iload_n 1, 1) := by decide +kernel
theorem dX8_commutes_74 : decode cX8_commutes 74 = .ok (.iload 4, 2) := by decide +kernel
theorem dX8_commutes_76 : decode cX8_commutes 76 = .ok (.invokevirtual 183, 3) := by decide +kernel
theorem dX8_commutes_79 : decode cX8_commutes 79 = .ok (.invokevirtual 183, 3) := by decide +kernel
theorem dX8_commutes_82 : decode cX8_commutes 82 = .ok (.aload_n 0, 1) := by decide +kernel
theorem dX8_commutes_83 : decode cX8_commutes 83 = .ok (.iload_n 1, 1) := by decide +kernel
theorem dX8_commutes_84 : decode cX8_commutes 84 = .ok (.aload_n 0, 1) := by decide +kernel
theorem dX8_commutes_85 : decode cX8_commutes 85 = .ok (.iload_n 2, 1) := by decide +kernel
theorem dX8_commutes_86 : decode cX8_commutes 86 = .ok (.iload 4, 2) := by decide +kernel
theorem dX8_commutes_88 : decode cX8_commutes 88 = .ok (.invokevirtual 183, 3) := by decide +kernel
theorem dX8_commutes_91 : decode cX8_commutes 91 = .ok (.invokevirtual 183, 3) := by decide +kernel
theorem dX8_commutes_94 : decode cX8_commutes 94 = .ok (.if_icmp .ne 7, 3) := by decide +kernel
theorem dX8_commutes_97 : decode cX8_commutes 97 = .ok (.iconst 1, 1) := by decide +kernel
theorem dX8_commutes_98 : decode cX8_commutes 98 = .ok (.goto 4, 3) := by decide +kernel
theorem dX8_commutes_101 : decode cX8_commutes 101 = .ok (.iconst 0, 1) := by decide +kernel
theorem dX8_commutes_102 : decode cX8_commutes 102 = .ok (.istore_n 3, 1) := by decide +kernel
theorem dX8_commutes_103 : decode cX8_commutes 103 = .ok (.iinc 4 1, 3) := by decide +kernel
theorem dX8_commutes_106 : decode cX8_commutes 106 = .ok (.goto (-47), 3) := by decide +kernel
theorem dX8_commutes_109 : decode cX8_commutes 109 = .ok (.iload_n 3, 1) := by decide +kernel
theorem dX8_commutes_110 : decode cX8_commutes 110 = .ok (.ireturn, 1) := by decide +kernel
theorem dX8_says_0 : decode cX8_says 0 = .ok (.aload_n 0, 1) := by decide +kernel
theorem dX8_says_1 : decode cX8_says 1 = .ok (.getfield 39, 3) := by decide +kernel
theorem dX8_says_4 : decode cX8_says 4 = .ok (.aload_n 0, 1) := by decide +kernel
theorem dX8_says_5 : decode cX8_says 5 = .ok (.getfield 204, 3) := by decide +kernel
theorem dX8_says_8 : decode cX8_says 8 = .ok (.iload_n 1, 1) := by decide +kernel
theorem dX8_says_9 : decode cX8_says 9 = .ok (.castore, 1) := by decide +kernel
theorem dX8_says_10 : decode cX8_says 10 = .ok (.aload_n 0, 1) := by decide +kernel
theorem dX8_says_11 : decode cX8_says 11 = .ok (.dup, 1) := by decide +kernel
theorem dX8_says_12 : decode cX8_says 12 = .ok (.getfield 204, 3) := by decide +kernel
theorem dX8_says_15 : decode cX8_says 15 = .ok (.iconst 1, 1) := by decide +kernel
theorem dX8_says_16 : decode cX8_says 16 = .ok (.iadd, 1) := by decide +kernel
theorem dX8_says_17 : decode cX8_says 17 = .ok (.putfield 204, 3) := by decide +kernel
theorem dX8_says_20 : decode cX8_says 20 = .ok (.return_, 1) := by decide +kernel
theorem dX8_saysNumber_0 : decode cX8_saysNumber 0 = .ok (.iload_n 1, 1) := by decide +kernel
theorem dX8_saysNumber_1 : decode cX8_saysNumber 1 = .ok (.bipush 9, 2) := by decide +kernel
theorem dX8_saysNumber_3 : decode cX8_saysNumber 3 = .ok (.if_icmp .le 11, 3) := by decide +kernel
theorem dX8_saysNumber_6 : decode cX8_saysNumber 6 = .ok (.aload_n 0, 1) := by decide +kernel
theorem dX8_saysNumber_7 : decode cX8_saysNumber 7 = .ok (.iload_n 1, 1) := by decide +kernel
theorem dX8_saysNumber_8 : decode cX8_saysNumber 8 = .ok (.bipush 10, 2) := by decide +kernel
theorem dX8_saysNumber_10 : decode cX8_saysNumber 10 = .ok (.idiv, 1) := by decide +kernel
theorem dX8_saysNumber_11 : decode cX8_saysNumber 11 = .ok (.invokevirtual 207, 3) := by decide +kernel
theorem dX8_saysNumber_14 : decode cX8_saysNumber 14 = .ok (.aload_n 0, 1) := by decide +kernel
theorem dX8_saysNumber_15 : decode cX8_saysNumber 15 = .ok (.bipush 48, 2) := by decide +kernel
theorem dX8_saysNumber_17 : decode cX8_saysNumber 17 = .ok (.iload_n 1, 1) := by decide +kernel
theorem dX8_saysNumber_18 : decode cX8_saysNumber 18 = .ok (.bipush 10, 2) := by decide +kernel
theorem dX8_saysNumber_20 : decode cX8_saysNumber 20 = .ok (.irem, 1) := by decide +kernel
theorem dX8_saysNumber_21 : decode cX8_saysNumber 21 = .ok (.iadd, 1) := by decide +kernel
theorem dX8_saysNumber_22 : decode cX8_saysNumber 22 = .ok (.i2c, 1) := by decide +kernel
theorem dX8_saysNumber_23 : decode cX8_saysNumber 23 = .ok (.invokevirtual 210, 3) := by decide +kernel
theorem dX8_saysNumber_26 : decode cX8_saysNumber 26 = .ok (.return_, 1) := by decide +kernel
theorem dX8_line_0 : decode cX8_line 0 = .ok (.aload_n 0, 1) := by decide +kernel
theorem dX8_line_1 : decode cX8_line 1 = .ok (.iload_n 1, 1) := by decide +kernel
theorem dX8_line_2 : decode cX8_line 2 = .ok (.iconst 0, 1) := by decide +kernel
theorem dX8_line_3 : decode cX8_line 3 = .ok (.iconst 3, 1) := by decide +kernel
theorem dX8_line_4 : decode cX8_line 4 = .ok (.invokestatic 93, 3) := by decide +kernel
theorem dX8_line_7 : decode cX8_line 7 = .ok (.ifCond .eq 7, 3) := by decide +kernel
theorem dX8_line_10 : decode cX8_line 10 = .ok (.iconst 0, 1) := by decide +kernel
theorem dX8_line_11 : decode cX8_line 11 = .ok (.goto 4, 3) := by decide +kernel
theorem dX8_line_14 : decode cX8_line 14 = .ok (.iconst 1, 1) := by decide +kernel
theorem dX8_line_15 : decode cX8_line 15 = .ok (.putfield 42, 3) := by decide +kernel
theorem dX8_line_18 : decode cX8_line 18 = .ok (.aload_n 0, 1) := by decide +kernel
theorem dX8_line_19 : decode cX8_line 19 = .ok (.getfield 42, 3) := by decide +kernel
theorem dX8_line_22 : decode cX8_line 22 = .ok (.ifCond .le 5, 3) := by decide +kernel
theorem dX8_line_25 : decode cX8_line 25 = .ok (.iconst 0, 1) := by decide +kernel
theorem dX8_line_26 : decode cX8_line 26 = .ok (.ireturn, 1) := by decide +kernel
theorem dX8_line_27 : decode cX8_line 27 = .ok (.aload_n 0, 1) := by decide +kernel
theorem dX8_line_28 : decode cX8_line 28 = .ok (.iconst 0, 1) := by decide +kernel
theorem dX8_line_29 : decode cX8_line 29 = .ok (.putfield 204, 3) := by decide +kernel
theorem dX8_line_32 : decode cX8_line 32 = .ok (.iconst 0, 1) := by decide +kernel
theorem dX8_line_33 : decode cX8_line 33 = .ok (.istore_n 2, 1) := by decide +kernel
theorem dX8_line_34 : decode cX8_line 34 = .ok (.iload_n 2, 1) := by decide +kernel
theorem dX8_line_35 : decode cX8_line 35 = .ok (.bipush 8, 2) := by decide +kernel
theorem dX8_line_37 : decode cX8_line 37 = .ok (.if_icmp .ge 23, 3) := by decide +kernel
theorem dX8_line_40 : decode cX8_line 40 = .ok (.aload_n 0, 1) := by decide +kernel
theorem dX8_line_41 : decode cX8_line 41 = .ok (.aload_n 0, 1) := by decide +kernel
theorem dX8_line_42 : decode cX8_line 42 = .ok (.bipush 8, 2) := by decide +kernel
theorem dX8_line_44 : decode cX8_line 44 = .ok (.iload_n 1, 1) := by decide +kernel
theorem dX8_line_45 : decode cX8_line 45 = .ok (.imul, 1) := by decide +kernel
theorem dX8_line_46 : decode cX8_line 46 = .ok (.iload_n 2, 1) := by decide +kernel
theorem dX8_line_47 : decode cX8_line 47 = .ok (.iadd, 1) := by decide +kernel
theorem dX8_line_48 : decode cX8_line 48 = .ok (.invokevirtual 122, 3) := by decide +kernel
theorem dX8_line_51 : decode cX8_line 51 = .ok (.invokevirtual 207, 3) := by decide +kernel
theorem dX8_line_54 : decode cX8_line 54 = .ok (.iinc 2 1, 3) := by decide +kernel
theorem dX8_line_57 : decode cX8_line 57 = .ok (.goto (-23), 3) := by decide +kernel
theorem dX8_line_60 : decode cX8_line 60 = .ok (.aload_n 0, 1) := by decide +kernel
theorem dX8_line_61 : decode cX8_line 61 = .ok (.getfield 204, 3) := by decide +kernel
theorem dX8_line_64 : decode cX8_line 64 = .ok (.ireturn, 1) := by decide +kernel
theorem dX8_logLine_0 : decode cX8_logLine 0 = .ok (.aload_n 0, 1) := by decide +kernel
theorem dX8_logLine_1 : decode cX8_logLine 1 = .ok (.iconst 0, 1) := by decide +kernel
theorem dX8_logLine_2 : decode cX8_logLine 2 = .ok (.putfield 42, 3) := by decide +kernel
theorem dX8_logLine_5 : decode cX8_logLine 5 = .ok (.aload_n 0, 1) := by decide +kernel
theorem dX8_logLine_6 : decode cX8_logLine 6 = .ok (.iconst 0, 1) := by decide +kernel
theorem dX8_logLine_7 : decode cX8_logLine 7 = .ok (.putfield 204, 3) := by decide +kernel
theorem dX8_logLine_10 : decode cX8_logLine 10 = .ok (.iconst 0, 1) := by decide +kernel
theorem dX8_logLine_11 : decode cX8_logLine 11 = .ok (.istore_n 1, 1) := by decide +kernel
theorem dX8_logLine_12 : decode cX8_logLine 12 = .ok (.iload_n 1, 1) := by decide +kernel
theorem dX8_logLine_13 : decode cX8_logLine 13 = .ok (.aload_n 0, 1) := by decide +kernel
theorem dX8_logLine_14 : decode cX8_logLine 14 = .ok (.getfield 9, 3) := by decide +kernel
theorem dX8_logLine_17 : decode cX8_logLine 17 = .ok (.iconst 0, 1) := by decide +kernel
theorem dX8_logLine_18 : decode cX8_logLine 18 = .ok (.iaload, 1) := by decide +kernel
theorem dX8_logLine_19 : decode cX8_logLine 19 = .ok (.if_icmp .ge 69, 3) := by decide +kernel
theorem dX8_logLine_22 : decode cX8_logLine 22 = .ok (.aload_n 0, 1) := by decide +kernel
theorem dX8_logLine_23 : decode cX8_logLine 23 = .ok (.aload_n 0, 1) := by decide +kernel
theorem dX8_logLine_24 : decode cX8_logLine 24 = .ok (.getfield 9, 3) := by decide +kernel
theorem dX8_logLine_27 : decode cX8_logLine 27 = .ok (.bipush 72, 2) := by decide +kernel
theorem dX8_logLine_29 : decode cX8_logLine 29 = .ok (.iconst 3, 1) := by decide +kernel
theorem dX8_logLine_30 : decode cX8_logLine 30 = .ok (.iload_n 1, 1) := by decide +kernel
theorem dX8_logLine_31 : decode cX8_logLine 31 = .ok (.imul, 1) := by decide +kernel
theorem dX8_logLine_32 : decode cX8_logLine 32 = .ok (.iadd, 1) := by decide +kernel
theorem dX8_logLine_33 : decode cX8_logLine 33 = .ok (.iaload, 1) := by decide +kernel
theorem dX8_logLine_34 : decode cX8_logLine 34 = .ok (.iconst 1, 1) := by decide +kernel
theorem dX8_logLine_35 : decode cX8_logLine 35 = .ok (.if_icmp .ne 8, 3) := by decide +kernel
theorem dX8_logLine_38 : decode cX8_logLine 38 = .ok (.bipush 99, 2) := by decide +kernel
theorem dX8_logLine_40 : decode cX8_logLine 40 = .ok (.goto 5, 3) := by decide +kernel
theorem dX8_logLine_43 : decode cX8_logLine 43 = .ok (.bipush 114, 2) := by decide +kernel
theorem dX8_logLine_45 : decode cX8_logLine 45 = .ok (.invokevirtual 210, 3) := by decide +kernel
theorem dX8_logLine_48 : decode cX8_logLine 48 = .ok (.aload_n 0, 1) := by decide +kernel
theorem dX8_logLine_49 : decode cX8_logLine 49 = .ok (.aload_n 0, 1) := by decide +kernel
theorem dX8_logLine_50 : decode cX8_logLine 50 = .ok (.getfield 9, 3) := by decide +kernel
theorem dX8_logLine_53 : decode cX8_logLine 53 = .ok (.bipush 72, 2) := by decide +kernel
theorem dX8_logLine_55 : decode cX8_logLine 55 = .ok (.iconst 3, 1) := by decide +kernel
theorem dX8_logLine_56 : decode cX8_logLine 56 = .ok (.iload_n 1, 1) := by decide +kernel
theorem dX8_logLine_57 : decode cX8_logLine 57 = .ok (.imul, 1) := by decide +kernel
theorem dX8_logLine_58 : decode cX8_logLine 58 = .ok (.iadd, 1) := by decide +kernel
theorem dX8_logLine_59 : decode cX8_logLine 59 = .ok (.iconst 1, 1) := by decide +kernel
theorem dX8_logLine_60 : decode cX8_logLine 60 = .ok (.iadd, 1) := by decide +kernel
theorem dX8_logLine_61 : decode cX8_logLine 61 = .ok (.iaload, 1) := by decide +kernel
theorem dX8_logLine_62 : decode cX8_logLine 62 = .ok (.invokevirtual 207, 3) := by decide +kernel
theorem dX8_logLine_65 : decode cX8_logLine 65 = .ok (.aload_n 0, 1) := by decide +kernel
theorem dX8_logLine_66 : decode cX8_logLine 66 = .ok (.aload_n 0, 1) := by decide +kernel
theorem dX8_logLine_67 : decode cX8_logLine 67 = .ok (.getfield 9, 3) := by decide +kernel
theorem dX8_logLine_70 : decode cX8_logLine 70 = .ok (.bipush 72, 2) := by decide +kernel
theorem dX8_logLine_72 : decode cX8_logLine 72 = .ok (.iconst 3, 1) := by decide +kernel
theorem dX8_logLine_73 : decode cX8_logLine 73 = .ok (.iload_n 1, 1) := by decide +kernel
theorem dX8_logLine_74 : decode cX8_logLine 74 = .ok (.imul, 1) := by decide +kernel
theorem dX8_logLine_75 : decode cX8_logLine 75 = .ok (.iadd, 1) := by decide +kernel
theorem dX8_logLine_76 : decode cX8_logLine 76 = .ok (.iconst 2, 1) := by decide +kernel
theorem dX8_logLine_77 : decode cX8_logLine 77 = .ok (.iadd, 1) := by decide +kernel
theorem dX8_logLine_78 : decode cX8_logLine 78 = .ok (.iaload, 1) := by decide +kernel
theorem dX8_logLine_79 : decode cX8_logLine 79 = .ok (.invokevirtual 207, 3) := by decide +kernel
theorem dX8_logLine_82 : decode cX8_logLine 82 = .ok (.iinc 1 1, 3) := by decide +kernel
theorem dX8_logLine_85 : decode cX8_logLine 85 = .ok (.goto (-73), 3) := by decide +kernel
theorem dX8_logLine_88 : decode cX8_logLine 88 = .ok (.aload_n 0, 1) := by decide +kernel
theorem dX8_logLine_89 : decode cX8_logLine 89 = .ok (.getfield 204, 3) := by decide +kernel
theorem dX8_logLine_92 : decode cX8_logLine 92 = .ok (.ireturn, 1) := by decide +kernel
theorem dX8_cycleLine_0 : decode cX8_cycleLine 0 = .ok (.aload_n 0, 1) := by decide +kernel
theorem dX8_cycleLine_1 : decode cX8_cycleLine 1 = .ok (.iload_n 1, 1) := by decide +kernel
theorem dX8_cycleLine_2 : decode cX8_cycleLine 2 = .ok (.invokestatic 171, 3) := by decide +kernel
theorem dX8_cycleLine_5 : decode cX8_cycleLine 5 = .ok (.ifCond .ne 7, 3) := by decide +kernel
theorem dX8_cycleLine_8 : decode cX8_cycleLine 8 = .ok (.iconst 1, 1) := by decide +kernel
theorem dX8_cycleLine_9 : decode cX8_cycleLine 9 = .ok (.goto 16, 3) := by decide +kernel
theorem dX8_cycleLine_12 : decode cX8_cycleLine 12 = .ok (.aload_n 0, 1) := by decide +kernel
theorem dX8_cycleLine_13 : decode cX8_cycleLine 13 = .ok (.iload_n 1, 1) := by decide +kernel
theorem dX8_cycleLine_14 : decode cX8_cycleLine 14 = .ok (.invokevirtual 177, 3) := by decide +kernel
theorem dX8_cycleLine_17 : decode cX8_cycleLine 17 = .ok (.ifCond .eq 7, 3) := by decide +kernel
theorem dX8_cycleLine_20 : decode cX8_cycleLine 20 = .ok (.iconst 2, 1) := by decide +kernel
theorem dX8_cycleLine_21 : decode cX8_cycleLine 21 = .ok (.goto 4, 3) := by decide +kernel
theorem dX8_cycleLine_24 : decode cX8_cycleLine 24 = .ok (.iconst 0, 1) := by decide +kernel
theorem dX8_cycleLine_25 : decode cX8_cycleLine 25 = .ok (.putfield 42, 3) := by decide +kernel
theorem dX8_cycleLine_28 : decode cX8_cycleLine 28 = .ok (.aload_n 0, 1) := by decide +kernel
theorem dX8_cycleLine_29 : decode cX8_cycleLine 29 = .ok (.getfield 42, 3) := by decide +kernel
theorem dX8_cycleLine_32 : decode cX8_cycleLine 32 = .ok (.ifCond .le 5, 3) := by decide +kernel
theorem dX8_cycleLine_35 : decode cX8_cycleLine 35 = .ok (.iconst 0, 1) := by decide +kernel
theorem dX8_cycleLine_36 : decode cX8_cycleLine 36 = .ok (.ireturn, 1) := by decide +kernel
theorem dX8_cycleLine_37 : decode cX8_cycleLine 37 = .ok (.aload_n 0, 1) := by decide +kernel
theorem dX8_cycleLine_38 : decode cX8_cycleLine 38 = .ok (.iconst 0, 1) := by decide +kernel
theorem dX8_cycleLine_39 : decode cX8_cycleLine 39 = .ok (.putfield 204, 3) := by decide +kernel
theorem dX8_cycleLine_42 : decode cX8_cycleLine 42 = .ok (.iconst 0, 1) := by decide +kernel
theorem dX8_cycleLine_43 : decode cX8_cycleLine 43 = .ok (.istore_n 2, 1) := by decide +kernel
theorem dX8_cycleLine_44 : decode cX8_cycleLine 44 = .ok (.iload_n 2, 1) := by decide +kernel
theorem dX8_cycleLine_45 : decode cX8_cycleLine 45 = .ok (.bipush 32, 2) := by decide +kernel
theorem dX8_cycleLine_47 : decode cX8_cycleLine 47 = .ok (.if_icmp .ge 78, 3) := by decide +kernel
theorem dX8_cycleLine_50 : decode cX8_cycleLine 50 = .ok (.aload_n 0, 1) := by decide +kernel
theorem dX8_cycleLine_51 : decode cX8_cycleLine 51 = .ok (.iload_n 1, 1) := by decide +kernel
theorem dX8_cycleLine_52 : decode cX8_cycleLine 52 = .ok (.iload_n 2, 1) := by decide +kernel
theorem dX8_cycleLine_53 : decode cX8_cycleLine 53 = .ok (.invokevirtual 189, 3) := by decide +kernel
theorem dX8_cycleLine_56 : decode cX8_cycleLine 56 = .ok (.iconst 1, 1) := by decide +kernel
theorem dX8_cycleLine_57 : decode cX8_cycleLine 57 = .ok (.if_icmp .le 62, 3) := by decide +kernel
theorem dX8_cycleLine_60 : decode cX8_cycleLine 60 = .ok (.aload_n 0, 1) := by decide +kernel
theorem dX8_cycleLine_61 : decode cX8_cycleLine 61 = .ok (.iload_n 1, 1) := by decide +kernel
theorem dX8_cycleLine_62 : decode cX8_cycleLine 62 = .ok (.iload_n 2, 1) := by decide +kernel
theorem dX8_cycleLine_63 : decode cX8_cycleLine 63 = .ok (.invokevirtual 192, 3) := by decide +kernel
theorem dX8_cycleLine_66 : decode cX8_cycleLine 66 = .ok (.ifCond .eq 53, 3) := by decide +kernel
theorem dX8_cycleLine_69 : decode cX8_cycleLine 69 = .ok (.aload_n 0, 1) := by decide +kernel
theorem dX8_cycleLine_70 : decode cX8_cycleLine 70 = .ok (.bipush 40, 2) := by decide +kernel
theorem dX8_cycleLine_72 : decode cX8_cycleLine 72 = .ok (.invokevirtual 210, 3) := by decide +kernel
theorem dX8_cycleLine_75 : decode cX8_cycleLine 75 = .ok (.aload_n 0, 1) := by decide +kernel
theorem dX8_cycleLine_76 : decode cX8_cycleLine 76 = .ok (.iload_n 2, 1) := by decide +kernel
theorem dX8_cycleLine_77 : decode cX8_cycleLine 77 = .ok (.invokevirtual 207, 3) := by decide +kernel
theorem dX8_cycleLine_80 : decode cX8_cycleLine 80 = .ok (.aload_n 0, 1) := by decide +kernel
theorem dX8_cycleLine_81 : decode cX8_cycleLine 81 = .ok (.iload_n 1, 1) := by decide +kernel
theorem dX8_cycleLine_82 : decode cX8_cycleLine 82 = .ok (.iload_n 2, 1) := by decide +kernel
theorem dX8_cycleLine_83 : decode cX8_cycleLine 83 = .ok (.invokevirtual 183, 3) := by decide +kernel
theorem dX8_cycleLine_86 : decode cX8_cycleLine 86 = .ok (.istore_n 3, 1) := by decide +kernel
theorem dX8_cycleLine_87 : decode cX8_cycleLine 87 = .ok (.iload_n 3, 1) := by decide +kernel
theorem dX8_cycleLine_88 : decode cX8_cycleLine 88 = .ok (.iload_n 2, 1) := by decide +kernel
theorem dX8_cycleLine_89 : decode cX8_cycleLine 89 = .ok (.if_icmp .eq 24, 3) := by decide +kernel
theorem dX8_cycleLine_92 : decode cX8_cycleLine 92 = .ok (.aload_n 0, 1) := by decide +kernel
theorem dX8_cycleLine_93 : decode cX8_cycleLine 93 = .ok (.bipush 32, 2) := by decide +kernel
theorem dX8_cycleLine_95 : decode cX8_cycleLine 95 = .ok (.invokevirtual 210, 3) := by decide +kernel
theorem dX8_cycleLine_98 : decode cX8_cycleLine 98 = .ok (.aload_n 0, 1) := by decide +kernel
theorem dX8_cycleLine_99 : decode cX8_cycleLine 99 = .ok (.iload_n 3, 1) := by decide +kernel
theorem dX8_cycleLine_100 : decode cX8_cycleLine 100 = .ok (.invokevirtual 207, 3) := by decide +kernel
theorem dX8_cycleLine_103 : decode cX8_cycleLine 103 = .ok (.aload_n 0, 1) := by decide +kernel
theorem dX8_cycleLine_104 : decode cX8_cycleLine 104 = .ok (.iload_n 1, 1) := by decide +kernel
theorem dX8_cycleLine_105 : decode cX8_cycleLine 105 = .ok (.iload_n 3, 1) := by decide +kernel
theorem dX8_cycleLine_106 : decode cX8_cycleLine 106 = .ok (.invokevirtual 183, 3) := by decide +kernel
theorem dX8_cycleLine_109 : decode cX8_cycleLine 109 = .ok (.istore_n 3, 1) := by decide +kernel
theorem dX8_cycleLine_110 : decode cX8_cycleLine 110 = .ok (.goto (-23), 3) := by decide +kernel
theorem dX8_cycleLine_113 : decode cX8_cycleLine 113 = .ok (.aload_n 0, 1) := by decide +kernel
theorem dX8_cycleLine_114 : decode cX8_cycleLine 114 = .ok (.bipush 41, 2) := by decide +kernel
theorem dX8_cycleLine_116 : decode cX8_cycleLine 116 = .ok (.invokevirtual 210, 3) := by decide +kernel
theorem dX8_cycleLine_119 : decode cX8_cycleLine 119 = .ok (.iinc 2 1, 3) := by decide +kernel
theorem dX8_cycleLine_122 : decode cX8_cycleLine 122 = .ok (.goto (-78), 3) := by decide +kernel
theorem dX8_cycleLine_125 : decode cX8_cycleLine 125 = .ok (.aload_n 0, 1) := by decide +kernel
theorem dX8_cycleLine_126 : decode cX8_cycleLine 126 = .ok (.getfield 204, 3) := by decide +kernel
theorem dX8_cycleLine_129 : decode cX8_cycleLine 129 = .ok (.ireturn, 1) := by decide +kernel
theorem dX8_character_0 : decode cX8_character 0 = .ok (.aload_n 0, 1) := by decide +kernel
theorem dX8_character_1 : decode cX8_character 1 = .ok (.iload_n 1, 1) := by decide +kernel
theorem dX8_character_2 : decode cX8_character 2 = .ok (.iconst 0, 1) := by decide +kernel
theorem dX8_character_3 : decode cX8_character 3 = .ok (.aload_n 0, 1) := by decide +kernel
theorem dX8_character_4 : decode cX8_character 4 = .ok (.getfield 204, 3) := by decide +kernel
theorem dX8_character_7 : decode cX8_character 7 = .ok (.iconst 1, 1) := by decide +kernel
theorem dX8_character_8 : decode cX8_character 8 = .ok (.isub, 1) := by decide +kernel
theorem dX8_character_9 : decode cX8_character 9 = .ok (.invokestatic 93, 3) := by decide +kernel
theorem dX8_character_12 : decode cX8_character 12 = .ok (.ifCond .eq 7, 3) := by decide +kernel
theorem dX8_character_15 : decode cX8_character 15 = .ok (.iconst 0, 1) := by decide +kernel
theorem dX8_character_16 : decode cX8_character 16 = .ok (.goto 4, 3) := by decide +kernel
theorem dX8_character_19 : decode cX8_character 19 = .ok (.iconst 1, 1) := by decide +kernel
theorem dX8_character_20 : decode cX8_character 20 = .ok (.putfield 42, 3) := by decide +kernel
theorem dX8_character_23 : decode cX8_character 23 = .ok (.aload_n 0, 1) := by decide +kernel
theorem dX8_character_24 : decode cX8_character 24 = .ok (.getfield 42, 3) := by decide +kernel
theorem dX8_character_27 : decode cX8_character 27 = .ok (.ifCond .le 8, 3) := by decide +kernel
theorem dX8_character_30 : decode cX8_character 30 = .ok (.bipush 32, 2) := by decide +kernel
theorem dX8_character_32 : decode cX8_character 32 = .ok (.goto 9, 3) := by decide +kernel
theorem dX8_character_35 : decode cX8_character 35 = .ok (.aload_n 0, 1) := by decide +kernel
theorem dX8_character_36 : decode cX8_character 36 = .ok (.getfield 39, 3) := by decide +kernel
theorem dX8_character_39 : decode cX8_character 39 = .ok (.iload_n 1, 1) := by decide +kernel
theorem dX8_character_40 : decode cX8_character 40 = .ok (.caload, 1) := by decide +kernel
theorem dX8_character_41 : decode cX8_character 41 = .ok (.ireturn, 1) := by decide +kernel
theorem dX8_doneMany_0 : decode cX8_doneMany 0 = .ok (.iconst 0, 1) := by decide +kernel
theorem dX8_doneMany_1 : decode cX8_doneMany 1 = .ok (.istore_n 1, 1) := by decide +kernel
theorem dX8_doneMany_2 : decode cX8_doneMany 2 = .ok (.iconst 0, 1) := by decide +kernel
theorem dX8_doneMany_3 : decode cX8_doneMany 3 = .ok (.istore_n 2, 1) := by decide +kernel
theorem dX8_doneMany_4 : decode cX8_doneMany 4 = .ok (.iload_n 2, 1) := by decide +kernel
theorem dX8_doneMany_5 : decode cX8_doneMany 5 = .ok (.iconst 4, 1) := by decide +kernel
theorem dX8_doneMany_6 : decode cX8_doneMany 6 = .ok (.if_icmp .ge 25, 3) := by decide +kernel
theorem dX8_doneMany_9 : decode cX8_doneMany 9 = .ok (.iload_n 1, 1) := by decide +kernel
theorem dX8_doneMany_10 : decode cX8_doneMany 10 = .ok (.aload_n 0, 1) := by decide +kernel
theorem dX8_doneMany_11 : decode cX8_doneMany 11 = .ok (.iload_n 2, 1) := by decide +kernel
theorem dX8_doneMany_12 : decode cX8_doneMany 12 = .ok (.invokevirtual 125, 3) := by decide +kernel
theorem dX8_doneMany_15 : decode cX8_doneMany 15 = .ok (.ifCond .eq 7, 3) := by decide +kernel
theorem dX8_doneMany_18 : decode cX8_doneMany 18 = .ok (.iconst 1, 1) := by decide +kernel
theorem dX8_doneMany_19 : decode cX8_doneMany 19 = .ok (.goto 4, 3) := by decide +kernel
theorem dX8_doneMany_22 : decode cX8_doneMany 22 = .ok (.iconst 0, 1) := by decide +kernel
theorem dX8_doneMany_23 : decode cX8_doneMany 23 = .ok (.iadd, 1) := by decide +kernel
theorem dX8_doneMany_24 : decode cX8_doneMany 24 = .ok (.istore_n 1, 1) := by decide +kernel
theorem dX8_doneMany_25 : decode cX8_doneMany 25 = .ok (.iinc 2 1, 3) := by decide +kernel
theorem dX8_doneMany_28 : decode cX8_doneMany 28 = .ok (.goto (-24), 3) := by decide +kernel
theorem dX8_doneMany_31 : decode cX8_doneMany 31 = .ok (.iload_n 1, 1) := by decide +kernel
theorem dX8_doneMany_32 : decode cX8_doneMany 32 = .ok (.ireturn, 1) := by decide +kernel
theorem dX8_account_0 : decode cX8_account 0 = .ok (.aload_n 0, 1) := by decide +kernel
theorem dX8_account_1 : decode cX8_account 1 = .ok (.iload_n 1, 1) := by decide +kernel
theorem dX8_account_2 : decode cX8_account 2 = .ok (.iconst 0, 1) := by decide +kernel
theorem dX8_account_3 : decode cX8_account 3 = .ok (.bipush 7, 2) := by decide +kernel
theorem dX8_account_5 : decode cX8_account 5 = .ok (.invokestatic 93, 3) := by decide +kernel
theorem dX8_account_8 : decode cX8_account 8 = .ok (.ifCond .eq 7, 3) := by decide +kernel
theorem dX8_account_11 : decode cX8_account 11 = .ok (.iconst 0, 1) := by decide +kernel
theorem dX8_account_12 : decode cX8_account 12 = .ok (.goto 4, 3) := by decide +kernel
theorem dX8_account_15 : decode cX8_account 15 = .ok (.iconst 1, 1) := by decide +kernel
theorem dX8_account_16 : decode cX8_account 16 = .ok (.putfield 42, 3) := by decide +kernel
theorem dX8_account_19 : decode cX8_account 19 = .ok (.aload_n 0, 1) := by decide +kernel
theorem dX8_account_20 : decode cX8_account 20 = .ok (.getfield 42, 3) := by decide +kernel
theorem dX8_account_23 : decode cX8_account 23 = .ok (.ifCond .le 5, 3) := by decide +kernel
theorem dX8_account_26 : decode cX8_account 26 = .ok (.iconst 0, 1) := by decide +kernel
theorem dX8_account_27 : decode cX8_account 27 = .ok (.ireturn, 1) := by decide +kernel
theorem dX8_account_28 : decode cX8_account 28 = .ok (.iload_n 1, 1) := by decide +kernel
theorem dX8_account_29 : decode cX8_account 29 = .ok (.tableswitch 84 0 6 #[43, 48, 53, 60, 67, 74, 79], 43) := by decide +kernel
theorem dX8_account_72 : decode cX8_account 72 = .ok (.aload_n 0, 1) := by decide +kernel
theorem dX8_account_73 : decode cX8_account 73 = .ok (.invokevirtual 107, 3) := by decide +kernel
theorem dX8_account_76 : decode cX8_account 76 = .ok (.ireturn, 1) := by decide +kernel
theorem dX8_account_77 : decode cX8_account 77 = .ok (.aload_n 0, 1) := by decide +kernel
theorem dX8_account_78 : decode cX8_account 78 = .ok (.invokevirtual 214, 3) := by decide +kernel
theorem dX8_account_81 : decode cX8_account 81 = .ok (.ireturn, 1) := by decide +kernel
theorem dX8_account_82 : decode cX8_account 82 = .ok (.aload_n 0, 1) := by decide +kernel
theorem dX8_account_83 : decode cX8_account 83 = .ok (.getfield 9, 3) := by decide +kernel
theorem dX8_account_86 : decode cX8_account 86 = .ok (.iconst 0, 1) := by decide +kernel
theorem dX8_account_87 : decode cX8_account 87 = .ok (.iaload, 1) := by decide +kernel
theorem dX8_account_88 : decode cX8_account 88 = .ok (.ireturn, 1) := by decide +kernel
theorem dX8_account_89 : decode cX8_account 89 = .ok (.aload_n 0, 1) := by decide +kernel
theorem dX8_account_90 : decode cX8_account 90 = .ok (.getfield 9, 3) := by decide +kernel
theorem dX8_account_93 : decode cX8_account 93 = .ok (.iconst 1, 1) := by decide +kernel
theorem dX8_account_94 : decode cX8_account 94 = .ok (.iaload, 1) := by decide +kernel
theorem dX8_account_95 : decode cX8_account 95 = .ok (.ireturn, 1) := by decide +kernel
theorem dX8_account_96 : decode cX8_account 96 = .ok (.aload_n 0, 1) := by decide +kernel
theorem dX8_account_97 : decode cX8_account 97 = .ok (.getfield 9, 3) := by decide +kernel
theorem dX8_account_100 : decode cX8_account 100 = .ok (.iconst 2, 1) := by decide +kernel
theorem dX8_account_101 : decode cX8_account 101 = .ok (.iaload, 1) := by decide +kernel
theorem dX8_account_102 : decode cX8_account 102 = .ok (.ireturn, 1) := by decide +kernel
theorem dX8_account_103 : decode cX8_account 103 = .ok (.aload_n 0, 1) := by decide +kernel
theorem dX8_account_104 : decode cX8_account 104 = .ok (.invokevirtual 180, 3) := by decide +kernel
theorem dX8_account_107 : decode cX8_account 107 = .ok (.ireturn, 1) := by decide +kernel
theorem dX8_account_108 : decode cX8_account 108 = .ok (.aload_n 0, 1) := by decide +kernel
theorem dX8_account_109 : decode cX8_account 109 = .ok (.getfield 134, 3) := by decide +kernel
theorem dX8_account_112 : decode cX8_account 112 = .ok (.ireturn, 1) := by decide +kernel
theorem dX8_account_113 : decode cX8_account 113 = .ok (.aload_n 0, 1) := by decide +kernel
theorem dX8_account_114 : decode cX8_account 114 = .ok (.getfield 51, 3) := by decide +kernel
theorem dX8_account_117 : decode cX8_account 117 = .ok (.ireturn, 1) := by decide +kernel
theorem dX8_isWell_0 : decode cX8_isWell 0 = .ok (.aload_n 0, 1) := by decide +kernel
theorem dX8_isWell_1 : decode cX8_isWell 1 = .ok (.iconst 0, 1) := by decide +kernel
theorem dX8_isWell_2 : decode cX8_isWell 2 = .ok (.putfield 42, 3) := by decide +kernel
theorem dX8_isWell_5 : decode cX8_isWell 5 = .ok (.iconst 1, 1) := by decide +kernel
theorem dX8_isWell_6 : decode cX8_isWell 6 = .ok (.istore_n 1, 1) := by decide +kernel
theorem dX8_isWell_7 : decode cX8_isWell 7 = .ok (.iconst 0, 1) := by decide +kernel
theorem dX8_isWell_8 : decode cX8_isWell 8 = .ok (.istore_n 2, 1) := by decide +kernel
theorem dX8_isWell_9 : decode cX8_isWell 9 = .ok (.iload_n 2, 1) := by decide +kernel
theorem dX8_isWell_10 : decode cX8_isWell 10 = .ok (.bipush 32, 2) := by decide +kernel
theorem dX8_isWell_12 : decode cX8_isWell 12 = .ok (.if_icmp .ge 36, 3) := by decide +kernel
theorem dX8_isWell_15 : decode cX8_isWell 15 = .ok (.iload_n 1, 1) := by decide +kernel
theorem dX8_isWell_16 : decode cX8_isWell 16 = .ok (.ifCond .eq 24, 3) := by decide +kernel
theorem dX8_isWell_19 : decode cX8_isWell 19 = .ok (.aload_n 0, 1) := by decide +kernel
theorem dX8_isWell_20 : decode cX8_isWell 20 = .ok (.getfield 9, 3) := by decide +kernel
theorem dX8_isWell_23 : decode cX8_isWell 23 = .ok (.bipush 8, 2) := by decide +kernel
theorem dX8_isWell_25 : decode cX8_isWell 25 = .ok (.aload_n 0, 1) := by decide +kernel
theorem dX8_isWell_26 : decode cX8_isWell 26 = .ok (.iload_n 2, 1) := by decide +kernel
theorem dX8_isWell_27 : decode cX8_isWell 27 = .ok (.invokevirtual 119, 3) := by decide +kernel
theorem dX8_isWell_30 : decode cX8_isWell 30 = .ok (.iadd, 1) := by decide +kernel
theorem dX8_isWell_31 : decode cX8_isWell 31 = .ok (.iaload, 1) := by decide +kernel
theorem dX8_isWell_32 : decode cX8_isWell 32 = .ok (.iload_n 2, 1) := by decide +kernel
theorem dX8_isWell_33 : decode cX8_isWell 33 = .ok (.if_icmp .ne 7, 3) := by decide +kernel
theorem dX8_isWell_36 : decode cX8_isWell 36 = .ok (.iconst 1, 1) := by decide +kernel
theorem dX8_isWell_37 : decode cX8_isWell 37 = .ok (.goto 4, 3) := by decide +kernel
theorem dX8_isWell_40 : decode cX8_isWell 40 = .ok (.iconst 0, 1) := by decide +kernel
theorem dX8_isWell_41 : decode cX8_isWell 41 = .ok (.istore_n 1, 1) := by decide +kernel
theorem dX8_isWell_42 : decode cX8_isWell 42 = .ok (.iinc 2 1, 3) := by decide +kernel
theorem dX8_isWell_45 : decode cX8_isWell 45 = .ok (.goto (-36), 3) := by decide +kernel
theorem dX8_isWell_48 : decode cX8_isWell 48 = .ok (.iload_n 1, 1) := by decide +kernel
theorem dX8_isWell_49 : decode cX8_isWell 49 = .ok (.ireturn, 1) := by decide +kernel
theorem dX8_meanAway_0 : decode cX8_meanAway 0 = .ok (.aload_n 0, 1) := by decide +kernel
theorem dX8_meanAway_1 : decode cX8_meanAway 1 = .ok (.iconst 0, 1) := by decide +kernel
theorem dX8_meanAway_2 : decode cX8_meanAway 2 = .ok (.putfield 42, 3) := by decide +kernel
theorem dX8_meanAway_5 : decode cX8_meanAway 5 = .ok (.iconst 0, 1) := by decide +kernel
theorem dX8_meanAway_6 : decode cX8_meanAway 6 = .ok (.istore_n 1, 1) := by decide +kernel
theorem dX8_meanAway_7 : decode cX8_meanAway 7 = .ok (.iconst 0, 1) := by decide +kernel
theorem dX8_meanAway_8 : decode cX8_meanAway 8 = .ok (.istore_n 2, 1) := by decide +kernel
theorem dX8_meanAway_9 : decode cX8_meanAway 9 = .ok (.iload_n 2, 1) := by decide +kernel
theorem dX8_meanAway_10 : decode cX8_meanAway 10 = .ok (.bipush 32, 2) := by decide +kernel
theorem dX8_meanAway_12 : decode cX8_meanAway 12 = .ok (.if_icmp .ge 25, 3) := by decide +kernel
theorem dX8_meanAway_15 : decode cX8_meanAway 15 = .ok (.iload_n 1, 1) := by decide +kernel
theorem dX8_meanAway_16 : decode cX8_meanAway 16 = .ok (.iload_n 2, 1) := by decide +kernel
theorem dX8_meanAway_17 : decode cX8_meanAway 17 = .ok (.aload_n 0, 1) := by decide +kernel
theorem dX8_meanAway_18 : decode cX8_meanAway 18 = .ok (.getfield 9, 3) := by decide +kernel
theorem dX8_meanAway_21 : decode cX8_meanAway 21 = .ok (.bipush 8, 2) := by decide +kernel
theorem dX8_meanAway_23 : decode cX8_meanAway 23 = .ok (.iload_n 2, 1) := by decide +kernel
theorem dX8_meanAway_24 : decode cX8_meanAway 24 = .ok (.iadd, 1) := by decide +kernel
theorem dX8_meanAway_25 : decode cX8_meanAway 25 = .ok (.iaload, 1) := by decide +kernel
theorem dX8_meanAway_26 : decode cX8_meanAway 26 = .ok (.invokestatic 131, 3) := by decide +kernel
theorem dX8_meanAway_29 : decode cX8_meanAway 29 = .ok (.iadd, 1) := by decide +kernel
theorem dX8_meanAway_30 : decode cX8_meanAway 30 = .ok (.istore_n 1, 1) := by decide +kernel
theorem dX8_meanAway_31 : decode cX8_meanAway 31 = .ok (.iinc 2 1, 3) := by decide +kernel
theorem dX8_meanAway_34 : decode cX8_meanAway 34 = .ok (.goto (-25), 3) := by decide +kernel
theorem dX8_meanAway_37 : decode cX8_meanAway 37 = .ok (.iload_n 1, 1) := by decide +kernel
theorem dX8_meanAway_38 : decode cX8_meanAway 38 = .ok (.i2d, 1) := by decide +kernel
theorem dX8_meanAway_39 : decode cX8_meanAway 39 = .ok (.ldc2_w 217, 3) := by decide +kernel
theorem dX8_meanAway_42 : decode cX8_meanAway 42 = .ok (.ddiv, 1) := by decide +kernel
theorem dX8_meanAway_43 : decode cX8_meanAway 43 = .ok (.dreturn, 1) := by decide +kernel
theorem dX8_seamShare_0 : decode cX8_seamShare 0 = .ok (.aload_n 0, 1) := by decide +kernel
theorem dX8_seamShare_1 : decode cX8_seamShare 1 = .ok (.iconst 0, 1) := by decide +kernel
theorem dX8_seamShare_2 : decode cX8_seamShare 2 = .ok (.putfield 42, 3) := by decide +kernel
theorem dX8_seamShare_5 : decode cX8_seamShare 5 = .ok (.aload_n 0, 1) := by decide +kernel
theorem dX8_seamShare_6 : decode cX8_seamShare 6 = .ok (.invokevirtual 128, 3) := by decide +kernel
theorem dX8_seamShare_9 : decode cX8_seamShare 9 = .ok (.i2f, 1) := by decide +kernel
theorem dX8_seamShare_10 : decode cX8_seamShare 10 = .ok (.ldc 219, 2) := by decide +kernel
theorem dX8_seamShare_12 : decode cX8_seamShare 12 = .ok (.fdiv, 1) := by decide +kernel
theorem dX8_seamShare_13 : decode cX8_seamShare 13 = .ok (.freturn, 1) := by decide +kernel
theorem dX8_undo_0 : decode cX8_undo 0 = .ok (.aload_n 0, 1) := by decide +kernel
theorem dX8_undo_1 : decode cX8_undo 1 = .ok (.aload_n 0, 1) := by decide +kernel
theorem dX8_undo_2 : decode cX8_undo 2 = .ok (.getfield 51, 3) := by decide +kernel
theorem dX8_undo_5 : decode cX8_undo 5 = .ok (.ifCond .ne 7, 3) := by decide +kernel
theorem dX8_undo_8 : decode cX8_undo 8 = .ok (.iconst 1, 1) := by decide +kernel
theorem dX8_undo_9 : decode cX8_undo 9 = .ok (.goto 4, 3) := by decide +kernel
theorem dX8_undo_12 : decode cX8_undo 12 = .ok (.iconst 0, 1) := by decide +kernel
theorem dX8_undo_13 : decode cX8_undo 13 = .ok (.putfield 42, 3) := by decide +kernel
theorem dX8_undo_16 : decode cX8_undo 16 = .ok (.aload_n 0, 1) := by decide +kernel
theorem dX8_undo_17 : decode cX8_undo 17 = .ok (.getfield 42, 3) := by decide +kernel
theorem dX8_undo_20 : decode cX8_undo 20 = .ok (.ifCond .le 5, 3) := by decide +kernel
theorem dX8_undo_23 : decode cX8_undo 23 = .ok (.iconst 0, 1) := by decide +kernel
theorem dX8_undo_24 : decode cX8_undo 24 = .ok (.ireturn, 1) := by decide +kernel
theorem dX8_undo_25 : decode cX8_undo 25 = .ok (.aload_n 0, 1) := by decide +kernel
theorem dX8_undo_26 : decode cX8_undo 26 = .ok (.dup, 1) := by decide +kernel
theorem dX8_undo_27 : decode cX8_undo 27 = .ok (.getfield 51, 3) := by decide +kernel
theorem dX8_undo_30 : decode cX8_undo 30 = .ok (.iconst 1, 1) := by decide +kernel
theorem dX8_undo_31 : decode cX8_undo 31 = .ok (.isub, 1) := by decide +kernel
theorem dX8_undo_32 : decode cX8_undo 32 = .ok (.putfield 51, 3) := by decide +kernel
theorem dX8_undo_35 : decode cX8_undo 35 = .ok (.aload_n 0, 1) := by decide +kernel
theorem dX8_undo_36 : decode cX8_undo 36 = .ok (.getfield 19, 3) := by decide +kernel
theorem dX8_undo_39 : decode cX8_undo 39 = .ok (.sipush 352, 3) := by decide +kernel
theorem dX8_undo_42 : decode cX8_undo 42 = .ok (.aload_n 0, 1) := by decide +kernel
theorem dX8_undo_43 : decode cX8_undo 43 = .ok (.getfield 51, 3) := by decide +kernel
theorem dX8_undo_46 : decode cX8_undo 46 = .ok (.imul, 1) := by decide +kernel
theorem dX8_undo_47 : decode cX8_undo 47 = .ok (.aload_n 0, 1) := by decide +kernel
theorem dX8_undo_48 : decode cX8_undo 48 = .ok (.getfield 9, 3) := by decide +kernel
theorem dX8_undo_51 : decode cX8_undo 51 = .ok (.iconst 0, 1) := by decide +kernel
theorem dX8_undo_52 : decode cX8_undo 52 = .ok (.sipush 352, 3) := by decide +kernel
theorem dX8_undo_55 : decode cX8_undo 55 = .ok (.invokestatic 45, 3) := by decide +kernel
theorem dX8_undo_58 : decode cX8_undo 58 = .ok (.aload_n 0, 1) := by decide +kernel
theorem dX8_undo_59 : decode cX8_undo 59 = .ok (.getfield 51, 3) := by decide +kernel
theorem dX8_undo_62 : decode cX8_undo 62 = .ok (.ireturn, 1) := by decide +kernel
theorem dX8_save_0 : decode cX8_save 0 = .ok (.aload_n 0, 1) := by decide +kernel
theorem dX8_save_1 : decode cX8_save 1 = .ok (.iconst 0, 1) := by decide +kernel
theorem dX8_save_2 : decode cX8_save 2 = .ok (.putfield 42, 3) := by decide +kernel
theorem dX8_save_5 : decode cX8_save 5 = .ok (.aload_n 0, 1) := by decide +kernel
theorem dX8_save_6 : decode cX8_save 6 = .ok (.getfield 9, 3) := by decide +kernel
theorem dX8_save_9 : decode cX8_save 9 = .ok (.iconst 0, 1) := by decide +kernel
theorem dX8_save_10 : decode cX8_save 10 = .ok (.aload_n 0, 1) := by decide +kernel
theorem dX8_save_11 : decode cX8_save 11 = .ok (.getfield 16, 3) := by decide +kernel
theorem dX8_save_14 : decode cX8_save 14 = .ok (.iconst 0, 1) := by decide +kernel
theorem dX8_save_15 : decode cX8_save 15 = .ok (.sipush 352, 3) := by decide +kernel
theorem dX8_save_18 : decode cX8_save 18 = .ok (.invokestatic 45, 3) := by decide +kernel
theorem dX8_save_21 : decode cX8_save 21 = .ok (.aload_n 0, 1) := by decide +kernel
theorem dX8_save_22 : decode cX8_save 22 = .ok (.iconst 1, 1) := by decide +kernel
theorem dX8_save_23 : decode cX8_save 23 = .ok (.putfield 220, 3) := by decide +kernel
theorem dX8_save_26 : decode cX8_save 26 = .ok (.aload_n 0, 1) := by decide +kernel
theorem dX8_save_27 : decode cX8_save 27 = .ok (.invokevirtual 107, 3) := by decide +kernel
theorem dX8_save_30 : decode cX8_save 30 = .ok (.ireturn, 1) := by decide +kernel
theorem dX8_restore_0 : decode cX8_restore 0 = .ok (.aload_n 0, 1) := by decide +kernel
theorem dX8_restore_1 : decode cX8_restore 1 = .ok (.aload_n 0, 1) := by decide +kernel
theorem dX8_restore_2 : decode cX8_restore 2 = .ok (.getfield 220, 3) := by decide +kernel
theorem dX8_restore_5 : decode cX8_restore 5 = .ok (.ifCond .eq 7, 3) := by decide +kernel
theorem dX8_restore_8 : decode cX8_restore 8 = .ok (.iconst 0, 1) := by decide +kernel
theorem dX8_restore_9 : decode cX8_restore 9 = .ok (.goto 4, 3) := by decide +kernel
theorem dX8_restore_12 : decode cX8_restore 12 = .ok (.iconst 1, 1) := by decide +kernel
theorem dX8_restore_13 : decode cX8_restore 13 = .ok (.putfield 42, 3) := by decide +kernel
theorem dX8_restore_16 : decode cX8_restore 16 = .ok (.aload_n 0, 1) := by decide +kernel
theorem dX8_restore_17 : decode cX8_restore 17 = .ok (.getfield 42, 3) := by decide +kernel
theorem dX8_restore_20 : decode cX8_restore 20 = .ok (.ifCond .le 5, 3) := by decide +kernel
theorem dX8_restore_23 : decode cX8_restore 23 = .ok (.iconst 0, 1) := by decide +kernel
theorem dX8_restore_24 : decode cX8_restore 24 = .ok (.ireturn, 1) := by decide +kernel
theorem dX8_restore_25 : decode cX8_restore 25 = .ok (.aload_n 0, 1) := by decide +kernel
theorem dX8_restore_26 : decode cX8_restore 26 = .ok (.getfield 16, 3) := by decide +kernel
theorem dX8_restore_29 : decode cX8_restore 29 = .ok (.iconst 0, 1) := by decide +kernel
theorem dX8_restore_30 : decode cX8_restore 30 = .ok (.aload_n 0, 1) := by decide +kernel
theorem dX8_restore_31 : decode cX8_restore 31 = .ok (.getfield 9, 3) := by decide +kernel
theorem dX8_restore_34 : decode cX8_restore 34 = .ok (.iconst 0, 1) := by decide +kernel
theorem dX8_restore_35 : decode cX8_restore 35 = .ok (.sipush 352, 3) := by decide +kernel
theorem dX8_restore_38 : decode cX8_restore 38 = .ok (.invokestatic 45, 3) := by decide +kernel
theorem dX8_restore_41 : decode cX8_restore 41 = .ok (.aload_n 0, 1) := by decide +kernel
theorem dX8_restore_42 : decode cX8_restore 42 = .ok (.iconst 0, 1) := by decide +kernel
theorem dX8_restore_43 : decode cX8_restore 43 = .ok (.putfield 51, 3) := by decide +kernel
theorem dX8_restore_46 : decode cX8_restore 46 = .ok (.aload_n 0, 1) := by decide +kernel
theorem dX8_restore_47 : decode cX8_restore 47 = .ok (.invokevirtual 107, 3) := by decide +kernel
theorem dX8_restore_50 : decode cX8_restore 50 = .ok (.ireturn, 1) := by decide +kernel
