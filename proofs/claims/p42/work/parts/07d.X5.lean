/-! ===== printed: decode rows of X5 ===== -/
theorem dX5_init_0 : decode cX5_init 0 = .ok (.aload_n 0, 1) := by decide +kernel
theorem dX5_init_1 : decode cX5_init 1 = .ok (.invokespecial 5, 3) := by decide +kernel
theorem dX5_init_4 : decode cX5_init 4 = .ok (.aload_n 0, 1) := by decide +kernel
theorem dX5_init_5 : decode cX5_init 5 = .ok (.bipush 120, 2) := by decide +kernel
theorem dX5_init_7 : decode cX5_init 7 = .ok (.newarray .char, 2) := by decide +kernel
theorem dX5_init_9 : decode cX5_init 9 = .ok (.putfield 13, 3) := by decide +kernel
theorem dX5_init_12 : decode cX5_init 12 = .ok (.aload_n 0, 1) := by decide +kernel
theorem dX5_init_13 : decode cX5_init 13 = .ok (.iconst 0, 1) := by decide +kernel
theorem dX5_init_14 : decode cX5_init 14 = .ok (.putfield 17, 3) := by decide +kernel
theorem dX5_init_17 : decode cX5_init 17 = .ok (.return_, 1) := by decide +kernel
theorem dX5_size_0 : decode cX5_size 0 = .ok (.aload_n 0, 1) := by decide +kernel
theorem dX5_size_1 : decode cX5_size 1 = .ok (.getfield 17, 3) := by decide +kernel
theorem dX5_size_4 : decode cX5_size 4 = .ok (.ireturn, 1) := by decide +kernel
theorem dX5_clear_0 : decode cX5_clear 0 = .ok (.aload_n 0, 1) := by decide +kernel
theorem dX5_clear_1 : decode cX5_clear 1 = .ok (.iconst 0, 1) := by decide +kernel
theorem dX5_clear_2 : decode cX5_clear 2 = .ok (.putfield 17, 3) := by decide +kernel
theorem dX5_clear_5 : decode cX5_clear 5 = .ok (.return_, 1) := by decide +kernel
theorem dX5_signAt_0 : decode cX5_signAt 0 = .ok (.iload_n 1, 1) := by decide +kernel
theorem dX5_signAt_1 : decode cX5_signAt 1 = .ok (.ifCond .lt 26, 3) := by decide +kernel
theorem dX5_signAt_4 : decode cX5_signAt 4 = .ok (.iload_n 1, 1) := by decide +kernel
theorem dX5_signAt_5 : decode cX5_signAt 5 = .ok (.aload_n 0, 1) := by decide +kernel
theorem dX5_signAt_6 : decode cX5_signAt 6 = .ok (.getfield 17, 3) := by decide +kernel
theorem dX5_signAt_9 : decode cX5_signAt 9 = .ok (.if_icmp .ge 18, 3) := by decide +kernel
theorem dX5_signAt_12 : decode cX5_signAt 12 = .ok (.iload_n 1, 1) := by decide +kernel
theorem dX5_signAt_13 : decode cX5_signAt 13 = .ok (.bipush 120, 2) := by decide +kernel
theorem dX5_signAt_15 : decode cX5_signAt 15 = .ok (.if_icmp .ge 12, 3) := by decide +kernel
theorem dX5_signAt_18 : decode cX5_signAt 18 = .ok (.aload_n 0, 1) := by decide +kernel
theorem dX5_signAt_19 : decode cX5_signAt 19 = .ok (.getfield 13, 3) := by decide +kernel
theorem dX5_signAt_22 : decode cX5_signAt 22 = .ok (.iload_n 1, 1) := by decide +kernel
theorem dX5_signAt_23 : decode cX5_signAt 23 = .ok (.caload, 1) := by decide +kernel
theorem dX5_signAt_24 : decode cX5_signAt 24 = .ok (.goto 4, 3) := by decide +kernel
theorem dX5_signAt_27 : decode cX5_signAt 27 = .ok (.iconst (-1), 1) := by decide +kernel
theorem dX5_signAt_28 : decode cX5_signAt 28 = .ok (.ireturn, 1) := by decide +kernel
theorem dX5_addSign_0 : decode cX5_addSign 0 = .ok (.aload_n 0, 1) := by decide +kernel
theorem dX5_addSign_1 : decode cX5_addSign 1 = .ok (.getfield 17, 3) := by decide +kernel
theorem dX5_addSign_4 : decode cX5_addSign 4 = .ok (.bipush 120, 2) := by decide +kernel
theorem dX5_addSign_6 : decode cX5_addSign 6 = .ok (.invokestatic 21, 3) := by decide +kernel
theorem dX5_addSign_9 : decode cX5_addSign 9 = .ok (.ifCond .eq 23, 3) := by decide +kernel
theorem dX5_addSign_12 : decode cX5_addSign 12 = .ok (.aload_n 0, 1) := by decide +kernel
theorem dX5_addSign_13 : decode cX5_addSign 13 = .ok (.getfield 13, 3) := by decide +kernel
theorem dX5_addSign_16 : decode cX5_addSign 16 = .ok (.aload_n 0, 1) := by decide +kernel
theorem dX5_addSign_17 : decode cX5_addSign 17 = .ok (.getfield 17, 3) := by decide +kernel
theorem dX5_addSign_20 : decode cX5_addSign 20 = .ok (.iload_n 1, 1) := by decide +kernel
theorem dX5_addSign_21 : decode cX5_addSign 21 = .ok (.castore, 1) := by decide +kernel
theorem dX5_addSign_22 : decode cX5_addSign 22 = .ok (.aload_n 0, 1) := by decide +kernel
theorem dX5_addSign_23 : decode cX5_addSign 23 = .ok (.dup, 1) := by decide +kernel
theorem dX5_addSign_24 : decode cX5_addSign 24 = .ok (.getfield 17, 3) := by decide +kernel
theorem dX5_addSign_27 : decode cX5_addSign 27 = .ok (.iconst 1, 1) := by decide +kernel
theorem dX5_addSign_28 : decode cX5_addSign 28 = .ok (.iadd, 1) := by decide +kernel
theorem dX5_addSign_29 : decode cX5_addSign 29 = .ok (.putfield 17, 3) := by decide +kernel
theorem dX5_addSign_32 : decode cX5_addSign 32 = .ok (.return_, 1) := by decide +kernel
theorem dX5_addNumber_0 : decode cX5_addNumber 0 = .ok (.iload_n 1, 1) := by decide +kernel
theorem dX5_addNumber_1 : decode cX5_addNumber 1 = .ok (.bipush 10, 2) := by decide +kernel
theorem dX5_addNumber_3 : decode cX5_addNumber 3 = .ok (.if_icmp .lt 15, 3) := by decide +kernel
theorem dX5_addNumber_6 : decode cX5_addNumber 6 = .ok (.aload_n 0, 1) := by decide +kernel
theorem dX5_addNumber_7 : decode cX5_addNumber 7 = .ok (.bipush 48, 2) := by decide +kernel
theorem dX5_addNumber_9 : decode cX5_addNumber 9 = .ok (.iload_n 1, 1) := by decide +kernel
theorem dX5_addNumber_10 : decode cX5_addNumber 10 = .ok (.bipush 10, 2) := by decide +kernel
theorem dX5_addNumber_12 : decode cX5_addNumber 12 = .ok (.idiv, 1) := by decide +kernel
theorem dX5_addNumber_13 : decode cX5_addNumber 13 = .ok (.iadd, 1) := by decide +kernel
theorem dX5_addNumber_14 : decode cX5_addNumber 14 = .ok (.i2c, 1) := by decide +kernel
theorem dX5_addNumber_15 : decode cX5_addNumber 15 = .ok (.invokevirtual 25, 3) := by decide +kernel
theorem dX5_addNumber_18 : decode cX5_addNumber 18 = .ok (.aload_n 0, 1) := by decide +kernel
theorem dX5_addNumber_19 : decode cX5_addNumber 19 = .ok (.bipush 48, 2) := by decide +kernel
theorem dX5_addNumber_21 : decode cX5_addNumber 21 = .ok (.iload_n 1, 1) := by decide +kernel
theorem dX5_addNumber_22 : decode cX5_addNumber 22 = .ok (.bipush 10, 2) := by decide +kernel
theorem dX5_addNumber_24 : decode cX5_addNumber 24 = .ok (.irem, 1) := by decide +kernel
theorem dX5_addNumber_25 : decode cX5_addNumber 25 = .ok (.iadd, 1) := by decide +kernel
theorem dX5_addNumber_26 : decode cX5_addNumber 26 = .ok (.i2c, 1) := by decide +kernel
theorem dX5_addNumber_27 : decode cX5_addNumber 27 = .ok (.invokevirtual 25, 3) := by decide +kernel
theorem dX5_addNumber_30 : decode cX5_addNumber 30 = .ok (.return_, 1) := by decide +kernel
theorem dX5_addCycle_0 : decode cX5_addCycle 0 = .ok (.aload_n 0, 1) := by decide +kernel
theorem dX5_addCycle_1 : decode cX5_addCycle 1 = .ok (.bipush 40, 2) := by decide +kernel
theorem dX5_addCycle_3 : decode cX5_addCycle 3 = .ok (.invokevirtual 25, 3) := by decide +kernel
theorem dX5_addCycle_6 : decode cX5_addCycle 6 = .ok (.aload_n 0, 1) := by decide +kernel
theorem dX5_addCycle_7 : decode cX5_addCycle 7 = .ok (.iload_n 2, 1) := by decide +kernel
theorem dX5_addCycle_8 : decode cX5_addCycle 8 = .ok (.invokevirtual 29, 3) := by decide +kernel
theorem dX5_addCycle_11 : decode cX5_addCycle 11 = .ok (.aload_n 1, 1) := by decide +kernel
theorem dX5_addCycle_12 : decode cX5_addCycle 12 = .ok (.iload_n 2, 1) := by decide +kernel
theorem dX5_addCycle_13 : decode cX5_addCycle 13 = .ok (.invokevirtual 33, 3) := by decide +kernel
theorem dX5_addCycle_16 : decode cX5_addCycle 16 = .ok (.istore_n 3, 1) := by decide +kernel
theorem dX5_addCycle_17 : decode cX5_addCycle 17 = .ok (.iconst 1, 1) := by decide +kernel
theorem dX5_addCycle_18 : decode cX5_addCycle 18 = .ok (.istore 4, 2) := by decide +kernel
theorem dX5_addCycle_20 : decode cX5_addCycle 20 = .ok (.iload 4, 2) := by decide +kernel
theorem dX5_addCycle_22 : decode cX5_addCycle 22 = .ok (.bipush 32, 2) := by decide +kernel
theorem dX5_addCycle_24 : decode cX5_addCycle 24 = .ok (.if_icmp .ge 31, 3) := by decide +kernel
theorem dX5_addCycle_27 : decode cX5_addCycle 27 = .ok (.iload_n 3, 1) := by decide +kernel
theorem dX5_addCycle_28 : decode cX5_addCycle 28 = .ok (.iload_n 2, 1) := by decide +kernel
theorem dX5_addCycle_29 : decode cX5_addCycle 29 = .ok (.if_icmp .eq 26, 3) := by decide +kernel
theorem dX5_addCycle_32 : decode cX5_addCycle 32 = .ok (.aload_n 0, 1) := by decide +kernel
theorem dX5_addCycle_33 : decode cX5_addCycle 33 = .ok (.bipush 32, 2) := by decide +kernel
theorem dX5_addCycle_35 : decode cX5_addCycle 35 = .ok (.invokevirtual 25, 3) := by decide +kernel
theorem dX5_addCycle_38 : decode cX5_addCycle 38 = .ok (.aload_n 0, 1) := by decide +kernel
theorem dX5_addCycle_39 : decode cX5_addCycle 39 = .ok (.iload_n 3, 1) := by decide +kernel
theorem dX5_addCycle_40 : decode cX5_addCycle 40 = .ok (.invokevirtual 29, 3) := by decide +kernel
theorem dX5_addCycle_43 : decode cX5_addCycle 43 = .ok (.aload_n 1, 1) := by decide +kernel
theorem dX5_addCycle_44 : decode cX5_addCycle 44 = .ok (.iload_n 3, 1) := by decide +kernel
theorem dX5_addCycle_45 : decode cX5_addCycle 45 = .ok (.invokevirtual 33, 3) := by decide +kernel
theorem dX5_addCycle_48 : decode cX5_addCycle 48 = .ok (.istore_n 3, 1) := by decide +kernel
theorem dX5_addCycle_49 : decode cX5_addCycle 49 = .ok (.iinc 4 1, 3) := by decide +kernel
theorem dX5_addCycle_52 : decode cX5_addCycle 52 = .ok (.goto (-32), 3) := by decide +kernel
theorem dX5_addCycle_55 : decode cX5_addCycle 55 = .ok (.aload_n 0, 1) := by decide +kernel
theorem dX5_addCycle_56 : decode cX5_addCycle 56 = .ok (.bipush 41, 2) := by decide +kernel
theorem dX5_addCycle_58 : decode cX5_addCycle 58 = .ok (.invokevirtual 25, 3) := by decide +kernel
theorem dX5_addCycle_61 : decode cX5_addCycle 61 = .ok (.return_, 1) := by decide +kernel
