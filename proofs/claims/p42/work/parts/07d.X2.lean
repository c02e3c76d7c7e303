/-! ===== printed: decode rows of X2 ===== -/
theorem dX2_init_0 : decode cX2_init 0 = .ok (.aload_n 0, 1) := by decide +kernel
theorem dX2_init_1 : decode cX2_init 1 = .ok (.invokespecial 3, 3) := by decide +kernel
theorem dX2_init_4 : decode cX2_init 4 = .ok (.aload_n 0, 1) := by decide +kernel
theorem dX2_init_5 : decode cX2_init 5 = .ok (.bipush 8, 2) := by decide +kernel
theorem dX2_init_7 : decode cX2_init 7 = .ok (.anewarray 9, 3) := by decide +kernel
theorem dX2_init_10 : decode cX2_init 10 = .ok (.putfield 11, 3) := by decide +kernel
theorem dX2_init_13 : decode cX2_init 13 = .ok (.aload_n 0, 1) := by decide +kernel
theorem dX2_init_14 : decode cX2_init 14 = .ok (.iconst 0, 1) := by decide +kernel
theorem dX2_init_15 : decode cX2_init 15 = .ok (.putfield 17, 3) := by decide +kernel
theorem dX2_init_18 : decode cX2_init 18 = .ok (.iconst 0, 1) := by decide +kernel
theorem dX2_init_19 : decode cX2_init 19 = .ok (.istore_n 1, 1) := by decide +kernel
theorem dX2_init_20 : decode cX2_init 20 = .ok (.iload_n 1, 1) := by decide +kernel
theorem dX2_init_21 : decode cX2_init 21 = .ok (.bipush 8, 2) := by decide +kernel
theorem dX2_init_23 : decode cX2_init 23 = .ok (.if_icmp .ge 22, 3) := by decide +kernel
theorem dX2_init_26 : decode cX2_init 26 = .ok (.aload_n 0, 1) := by decide +kernel
theorem dX2_init_27 : decode cX2_init 27 = .ok (.getfield 11, 3) := by decide +kernel
theorem dX2_init_30 : decode cX2_init 30 = .ok (.iload_n 1, 1) := by decide +kernel
theorem dX2_init_31 : decode cX2_init 31 = .ok (.new 9, 3) := by decide +kernel
theorem dX2_init_34 : decode cX2_init 34 = .ok (.dup, 1) := by decide +kernel
theorem dX2_init_35 : decode cX2_init 35 = .ok (.invokespecial 21, 3) := by decide +kernel
theorem dX2_init_38 : decode cX2_init 38 = .ok (.aastore, 1) := by decide +kernel
theorem dX2_init_39 : decode cX2_init 39 = .ok (.iinc 1 1, 3) := by decide +kernel
theorem dX2_init_42 : decode cX2_init 42 = .ok (.goto (-22), 3) := by decide +kernel
theorem dX2_init_45 : decode cX2_init 45 = .ok (.return_, 1) := by decide +kernel
theorem dX2_size_0 : decode cX2_size 0 = .ok (.aload_n 0, 1) := by decide +kernel
theorem dX2_size_1 : decode cX2_size 1 = .ok (.getfield 17, 3) := by decide +kernel
theorem dX2_size_4 : decode cX2_size 4 = .ok (.ireturn, 1) := by decide +kernel
theorem dX2_hold_0 : decode cX2_hold 0 = .ok (.aload_n 0, 1) := by decide +kernel
theorem dX2_hold_1 : decode cX2_hold 1 = .ok (.getfield 17, 3) := by decide +kernel
theorem dX2_hold_4 : decode cX2_hold 4 = .ok (.bipush 8, 2) := by decide +kernel
theorem dX2_hold_6 : decode cX2_hold 6 = .ok (.if_icmp .lt 52, 3) := by decide +kernel
theorem dX2_hold_9 : decode cX2_hold 9 = .ok (.aload_n 0, 1) := by decide +kernel
theorem dX2_hold_10 : decode cX2_hold 10 = .ok (.getfield 11, 3) := by decide +kernel
theorem dX2_hold_13 : decode cX2_hold 13 = .ok (.iconst 0, 1) := by decide +kernel
theorem dX2_hold_14 : decode cX2_hold 14 = .ok (.aaload, 1) := by decide +kernel
theorem dX2_hold_15 : decode cX2_hold 15 = .ok (.astore_n 2, 1) := by decide +kernel
theorem dX2_hold_16 : decode cX2_hold 16 = .ok (.iconst 1, 1) := by decide +kernel
theorem dX2_hold_17 : decode cX2_hold 17 = .ok (.istore_n 3, 1) := by decide +kernel
theorem dX2_hold_18 : decode cX2_hold 18 = .ok (.iload_n 3, 1) := by decide +kernel
theorem dX2_hold_19 : decode cX2_hold 19 = .ok (.bipush 8, 2) := by decide +kernel
theorem dX2_hold_21 : decode cX2_hold 21 = .ok (.if_icmp .ge 23, 3) := by decide +kernel
theorem dX2_hold_24 : decode cX2_hold 24 = .ok (.aload_n 0, 1) := by decide +kernel
theorem dX2_hold_25 : decode cX2_hold 25 = .ok (.getfield 11, 3) := by decide +kernel
theorem dX2_hold_28 : decode cX2_hold 28 = .ok (.iload_n 3, 1) := by decide +kernel
theorem dX2_hold_29 : decode cX2_hold 29 = .ok (.iconst 1, 1) := by decide +kernel
theorem dX2_hold_30 : decode cX2_hold 30 = .ok (.isub, 1) := by decide +kernel
theorem dX2_hold_31 : decode cX2_hold 31 = .ok (.aload_n 0, 1) := by decide +kernel
theorem dX2_hold_32 : decode cX2_hold 32 = .ok (.getfield 11, 3) := by decide +kernel
theorem dX2_hold_35 : decode cX2_hold 35 = .ok (.iload_n 3, 1) := by decide +kernel
theorem dX2_hold_36 : decode cX2_hold 36 = .ok (.aaload, 1) := by decide +kernel
theorem dX2_hold_37 : decode cX2_hold 37 = .ok (.aastore, 1) := by decide +kernel
theorem dX2_hold_38 : decode cX2_hold 38 = .ok (.iinc 3 1, 3) := by decide +kernel
theorem dX2_hold_41 : decode cX2_hold 41 = .ok (.goto (-23), 3) := by decide +kernel
theorem dX2_hold_44 : decode cX2_hold 44 = .ok (.aload_n 0, 1) := by decide +kernel
theorem dX2_hold_45 : decode cX2_hold 45 = .ok (.getfield 11, 3) := by decide +kernel
theorem dX2_hold_48 : decode cX2_hold 48 = .ok (.bipush 7, 2) := by decide +kernel
theorem dX2_hold_50 : decode cX2_hold 50 = .ok (.aload_n 2, 1) := by decide +kernel
theorem dX2_hold_51 : decode cX2_hold 51 = .ok (.aastore, 1) := by decide +kernel
theorem dX2_hold_52 : decode cX2_hold 52 = .ok (.aload_n 0, 1) := by decide +kernel
theorem dX2_hold_53 : decode cX2_hold 53 = .ok (.bipush 7, 2) := by decide +kernel
theorem dX2_hold_55 : decode cX2_hold 55 = .ok (.putfield 17, 3) := by decide +kernel
theorem dX2_hold_58 : decode cX2_hold 58 = .ok (.aload_n 0, 1) := by decide +kernel
theorem dX2_hold_59 : decode cX2_hold 59 = .ok (.getfield 17, 3) := by decide +kernel
theorem dX2_hold_62 : decode cX2_hold 62 = .ok (.bipush 8, 2) := by decide +kernel
theorem dX2_hold_64 : decode cX2_hold 64 = .ok (.invokestatic 22, 3) := by decide +kernel
theorem dX2_hold_67 : decode cX2_hold 67 = .ok (.ifCond .eq 26, 3) := by decide +kernel
theorem dX2_hold_70 : decode cX2_hold 70 = .ok (.aload_n 0, 1) := by decide +kernel
theorem dX2_hold_71 : decode cX2_hold 71 = .ok (.getfield 11, 3) := by decide +kernel
theorem dX2_hold_74 : decode cX2_hold 74 = .ok (.aload_n 0, 1) := by decide +kernel
theorem dX2_hold_75 : decode cX2_hold 75 = .ok (.getfield 17, 3) := by decide +kernel
theorem dX2_hold_78 : decode cX2_hold 78 = .ok (.aaload, 1) := by decide +kernel
theorem dX2_hold_79 : decode cX2_hold 79 = .ok (.aload_n 1, 1) := by decide +kernel
theorem dX2_hold_80 : decode cX2_hold 80 = .ok (.invokevirtual 26, 3) := by decide +kernel
theorem dX2_hold_83 : decode cX2_hold 83 = .ok (.aload_n 0, 1) := by decide +kernel
theorem dX2_hold_84 : decode cX2_hold 84 = .ok (.dup, 1) := by decide +kernel
theorem dX2_hold_85 : decode cX2_hold 85 = .ok (.getfield 17, 3) := by decide +kernel
theorem dX2_hold_88 : decode cX2_hold 88 = .ok (.iconst 1, 1) := by decide +kernel
theorem dX2_hold_89 : decode cX2_hold 89 = .ok (.iadd, 1) := by decide +kernel
theorem dX2_hold_90 : decode cX2_hold 90 = .ok (.putfield 17, 3) := by decide +kernel
theorem dX2_hold_93 : decode cX2_hold 93 = .ok (.return_, 1) := by decide +kernel
theorem dX2_giveBack_0 : decode cX2_giveBack 0 = .ok (.aload_n 0, 1) := by decide +kernel
theorem dX2_giveBack_1 : decode cX2_giveBack 1 = .ok (.getfield 17, 3) := by decide +kernel
theorem dX2_giveBack_4 : decode cX2_giveBack 4 = .ok (.iconst 1, 1) := by decide +kernel
theorem dX2_giveBack_5 : decode cX2_giveBack 5 = .ok (.isub, 1) := by decide +kernel
theorem dX2_giveBack_6 : decode cX2_giveBack 6 = .ok (.istore_n 2, 1) := by decide +kernel
theorem dX2_giveBack_7 : decode cX2_giveBack 7 = .ok (.iload_n 2, 1) := by decide +kernel
theorem dX2_giveBack_8 : decode cX2_giveBack 8 = .ok (.bipush 8, 2) := by decide +kernel
theorem dX2_giveBack_10 : decode cX2_giveBack 10 = .ok (.invokestatic 22, 3) := by decide +kernel
theorem dX2_giveBack_13 : decode cX2_giveBack 13 = .ok (.ifCond .eq 18, 3) := by decide +kernel
theorem dX2_giveBack_16 : decode cX2_giveBack 16 = .ok (.aload_n 1, 1) := by decide +kernel
theorem dX2_giveBack_17 : decode cX2_giveBack 17 = .ok (.aload_n 0, 1) := by decide +kernel
theorem dX2_giveBack_18 : decode cX2_giveBack 18 = .ok (.getfield 11, 3) := by decide +kernel
theorem dX2_giveBack_21 : decode cX2_giveBack 21 = .ok (.iload_n 2, 1) := by decide +kernel
theorem dX2_giveBack_22 : decode cX2_giveBack 22 = .ok (.aaload, 1) := by decide +kernel
theorem dX2_giveBack_23 : decode cX2_giveBack 23 = .ok (.invokevirtual 26, 3) := by decide +kernel
theorem dX2_giveBack_26 : decode cX2_giveBack 26 = .ok (.aload_n 0, 1) := by decide +kernel
theorem dX2_giveBack_27 : decode cX2_giveBack 27 = .ok (.iload_n 2, 1) := by decide +kernel
theorem dX2_giveBack_28 : decode cX2_giveBack 28 = .ok (.putfield 17, 3) := by decide +kernel
theorem dX2_giveBack_31 : decode cX2_giveBack 31 = .ok (.return_, 1) := by decide +kernel
