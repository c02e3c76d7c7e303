/-! ===== printed: decode rows of X3 ===== -/
theorem dX3_init_0 : decode cX3_init 0 = .ok (.aload_n 0, 1) := by decide +kernel
theorem dX3_init_1 : decode cX3_init 1 = .ok (.invokespecial 3, 3) := by decide +kernel
theorem dX3_init_4 : decode cX3_init 4 = .ok (.aload_n 0, 1) := by decide +kernel
theorem dX3_init_5 : decode cX3_init 5 = .ok (.bipush 32, 2) := by decide +kernel
theorem dX3_init_7 : decode cX3_init 7 = .ok (.newarray .int, 2) := by decide +kernel
theorem dX3_init_9 : decode cX3_init 9 = .ok (.putfield 9, 3) := by decide +kernel
theorem dX3_init_12 : decode cX3_init 12 = .ok (.iconst 0, 1) := by decide +kernel
theorem dX3_init_13 : decode cX3_init 13 = .ok (.istore_n 1, 1) := by decide +kernel
theorem dX3_init_14 : decode cX3_init 14 = .ok (.iload_n 1, 1) := by decide +kernel
theorem dX3_init_15 : decode cX3_init 15 = .ok (.bipush 32, 2) := by decide +kernel
theorem dX3_init_17 : decode cX3_init 17 = .ok (.if_icmp .ge 16, 3) := by decide +kernel
theorem dX3_init_20 : decode cX3_init 20 = .ok (.aload_n 0, 1) := by decide +kernel
theorem dX3_init_21 : decode cX3_init 21 = .ok (.getfield 9, 3) := by decide +kernel
theorem dX3_init_24 : decode cX3_init 24 = .ok (.iload_n 1, 1) := by decide +kernel
theorem dX3_init_25 : decode cX3_init 25 = .ok (.iload_n 1, 1) := by decide +kernel
theorem dX3_init_26 : decode cX3_init 26 = .ok (.iastore, 1) := by decide +kernel
theorem dX3_init_27 : decode cX3_init 27 = .ok (.iinc 1 1, 3) := by decide +kernel
theorem dX3_init_30 : decode cX3_init 30 = .ok (.goto (-16), 3) := by decide +kernel
theorem dX3_init_33 : decode cX3_init 33 = .ok (.return_, 1) := by decide +kernel
theorem dX3_of_0 : decode cX3_of 0 = .ok (.iload_n 1, 1) := by decide +kernel
theorem dX3_of_1 : decode cX3_of 1 = .ok (.bipush 32, 2) := by decide +kernel
theorem dX3_of_3 : decode cX3_of 3 = .ok (.invokestatic 15, 3) := by decide +kernel
theorem dX3_of_6 : decode cX3_of 6 = .ok (.ifCond .eq 12, 3) := by decide +kernel
theorem dX3_of_9 : decode cX3_of 9 = .ok (.aload_n 0, 1) := by decide +kernel
theorem dX3_of_10 : decode cX3_of 10 = .ok (.getfield 9, 3) := by decide +kernel
theorem dX3_of_13 : decode cX3_of 13 = .ok (.iload_n 1, 1) := by decide +kernel
theorem dX3_of_14 : decode cX3_of 14 = .ok (.iaload, 1) := by decide +kernel
theorem dX3_of_15 : decode cX3_of 15 = .ok (.goto 4, 3) := by decide +kernel
theorem dX3_of_18 : decode cX3_of 18 = .ok (.iload_n 1, 1) := by decide +kernel
theorem dX3_of_19 : decode cX3_of 19 = .ok (.ireturn, 1) := by decide +kernel
theorem dX3_toNothing_0 : decode cX3_toNothing 0 = .ok (.iconst 0, 1) := by decide +kernel
theorem dX3_toNothing_1 : decode cX3_toNothing 1 = .ok (.istore_n 1, 1) := by decide +kernel
theorem dX3_toNothing_2 : decode cX3_toNothing 2 = .ok (.iload_n 1, 1) := by decide +kernel
theorem dX3_toNothing_3 : decode cX3_toNothing 3 = .ok (.bipush 32, 2) := by decide +kernel
theorem dX3_toNothing_5 : decode cX3_toNothing 5 = .ok (.if_icmp .ge 16, 3) := by decide +kernel
theorem dX3_toNothing_8 : decode cX3_toNothing 8 = .ok (.aload_n 0, 1) := by decide +kernel
theorem dX3_toNothing_9 : decode cX3_toNothing 9 = .ok (.getfield 9, 3) := by decide +kernel
theorem dX3_toNothing_12 : decode cX3_toNothing 12 = .ok (.iload_n 1, 1) := by decide +kernel
theorem dX3_toNothing_13 : decode cX3_toNothing 13 = .ok (.iload_n 1, 1) := by decide +kernel
theorem dX3_toNothing_14 : decode cX3_toNothing 14 = .ok (.iastore, 1) := by decide +kernel
theorem dX3_toNothing_15 : decode cX3_toNothing 15 = .ok (.iinc 1 1, 3) := by decide +kernel
theorem dX3_toNothing_18 : decode cX3_toNothing 18 = .ok (.goto (-16), 3) := by decide +kernel
theorem dX3_toNothing_21 : decode cX3_toNothing 21 = .ok (.return_, 1) := by decide +kernel
theorem dX3_toCopy_0 : decode cX3_toCopy 0 = .ok (.iconst 0, 1) := by decide +kernel
theorem dX3_toCopy_1 : decode cX3_toCopy 1 = .ok (.istore_n 2, 1) := by decide +kernel
theorem dX3_toCopy_2 : decode cX3_toCopy 2 = .ok (.iload_n 2, 1) := by decide +kernel
theorem dX3_toCopy_3 : decode cX3_toCopy 3 = .ok (.bipush 32, 2) := by decide +kernel
theorem dX3_toCopy_5 : decode cX3_toCopy 5 = .ok (.if_icmp .ge 21, 3) := by decide +kernel
theorem dX3_toCopy_8 : decode cX3_toCopy 8 = .ok (.aload_n 0, 1) := by decide +kernel
theorem dX3_toCopy_9 : decode cX3_toCopy 9 = .ok (.getfield 9, 3) := by decide +kernel
theorem dX3_toCopy_12 : decode cX3_toCopy 12 = .ok (.iload_n 2, 1) := by decide +kernel
theorem dX3_toCopy_13 : decode cX3_toCopy 13 = .ok (.aload_n 1, 1) := by decide +kernel
theorem dX3_toCopy_14 : decode cX3_toCopy 14 = .ok (.getfield 9, 3) := by decide +kernel
theorem dX3_toCopy_17 : decode cX3_toCopy 17 = .ok (.iload_n 2, 1) := by decide +kernel
theorem dX3_toCopy_18 : decode cX3_toCopy 18 = .ok (.iaload, 1) := by decide +kernel
theorem dX3_toCopy_19 : decode cX3_toCopy 19 = .ok (.iastore, 1) := by decide +kernel
theorem dX3_toCopy_20 : decode cX3_toCopy 20 = .ok (.iinc 2 1, 3) := by decide +kernel
theorem dX3_toCopy_23 : decode cX3_toCopy 23 = .ok (.goto (-21), 3) := by decide +kernel
theorem dX3_toCopy_26 : decode cX3_toCopy 26 = .ok (.return_, 1) := by decide +kernel
theorem dX3_toMove_0 : decode cX3_toMove 0 = .ok (.iload_n 1, 1) := by decide +kernel
theorem dX3_toMove_1 : decode cX3_toMove 1 = .ok (.ifCond .ne 12, 3) := by decide +kernel
theorem dX3_toMove_4 : decode cX3_toMove 4 = .ok (.aload_n 0, 1) := by decide +kernel
theorem dX3_toMove_5 : decode cX3_toMove 5 = .ok (.iload_n 2, 1) := by decide +kernel
theorem dX3_toMove_6 : decode cX3_toMove 6 = .ok (.iload_n 3, 1) := by decide +kernel
theorem dX3_toMove_7 : decode cX3_toMove 7 = .ok (.invokevirtual 19, 3) := by decide +kernel
theorem dX3_toMove_10 : decode cX3_toMove 10 = .ok (.goto 9, 3) := by decide +kernel
theorem dX3_toMove_13 : decode cX3_toMove 13 = .ok (.aload_n 0, 1) := by decide +kernel
theorem dX3_toMove_14 : decode cX3_toMove 14 = .ok (.iload_n 2, 1) := by decide +kernel
theorem dX3_toMove_15 : decode cX3_toMove 15 = .ok (.iload_n 3, 1) := by decide +kernel
theorem dX3_toMove_16 : decode cX3_toMove 16 = .ok (.invokevirtual 23, 3) := by decide +kernel
theorem dX3_toMove_19 : decode cX3_toMove 19 = .ok (.return_, 1) := by decide +kernel
theorem dX3_toTurn_0 : decode cX3_toTurn 0 = .ok (.iconst 0, 1) := by decide +kernel
theorem dX3_toTurn_1 : decode cX3_toTurn 1 = .ok (.istore_n 3, 1) := by decide +kernel
theorem dX3_toTurn_2 : decode cX3_toTurn 2 = .ok (.iload_n 3, 1) := by decide +kernel
theorem dX3_toTurn_3 : decode cX3_toTurn 3 = .ok (.bipush 32, 2) := by decide +kernel
theorem dX3_toTurn_5 : decode cX3_toTurn 5 = .ok (.if_icmp .ge 53, 3) := by decide +kernel
theorem dX3_toTurn_8 : decode cX3_toTurn 8 = .ok (.iload_n 3, 1) := by decide +kernel
theorem dX3_toTurn_9 : decode cX3_toTurn 9 = .ok (.bipush 8, 2) := by decide +kernel
theorem dX3_toTurn_11 : decode cX3_toTurn 11 = .ok (.idiv, 1) := by decide +kernel
theorem dX3_toTurn_12 : decode cX3_toTurn 12 = .ok (.iload_n 1, 1) := by decide +kernel
theorem dX3_toTurn_13 : decode cX3_toTurn 13 = .ok (.if_icmp .ne 7, 3) := by decide +kernel
theorem dX3_toTurn_16 : decode cX3_toTurn 16 = .ok (.iconst 1, 1) := by decide +kernel
theorem dX3_toTurn_17 : decode cX3_toTurn 17 = .ok (.goto 4, 3) := by decide +kernel
theorem dX3_toTurn_20 : decode cX3_toTurn 20 = .ok (.iconst 0, 1) := by decide +kernel
theorem dX3_toTurn_21 : decode cX3_toTurn 21 = .ok (.istore 4, 2) := by decide +kernel
theorem dX3_toTurn_23 : decode cX3_toTurn 23 = .ok (.aload_n 0, 1) := by decide +kernel
theorem dX3_toTurn_24 : decode cX3_toTurn 24 = .ok (.getfield 9, 3) := by decide +kernel
theorem dX3_toTurn_27 : decode cX3_toTurn 27 = .ok (.iload_n 3, 1) := by decide +kernel
theorem dX3_toTurn_28 : decode cX3_toTurn 28 = .ok (.iload 4, 2) := by decide +kernel
theorem dX3_toTurn_30 : decode cX3_toTurn 30 = .ok (.ifCond .eq 20, 3) := by decide +kernel
theorem dX3_toTurn_33 : decode cX3_toTurn 33 = .ok (.iload_n 1, 1) := by decide +kernel
theorem dX3_toTurn_34 : decode cX3_toTurn 34 = .ok (.bipush 8, 2) := by decide +kernel
theorem dX3_toTurn_36 : decode cX3_toTurn 36 = .ok (.imul, 1) := by decide +kernel
theorem dX3_toTurn_37 : decode cX3_toTurn 37 = .ok (.iload_n 3, 1) := by decide +kernel
theorem dX3_toTurn_38 : decode cX3_toTurn 38 = .ok (.bipush 8, 2) := by decide +kernel
theorem dX3_toTurn_40 : decode cX3_toTurn 40 = .ok (.irem, 1) := by decide +kernel
theorem dX3_toTurn_41 : decode cX3_toTurn 41 = .ok (.iload_n 2, 1) := by decide +kernel
theorem dX3_toTurn_42 : decode cX3_toTurn 42 = .ok (.iadd, 1) := by decide +kernel
theorem dX3_toTurn_43 : decode cX3_toTurn 43 = .ok (.bipush 8, 2) := by decide +kernel
theorem dX3_toTurn_45 : decode cX3_toTurn 45 = .ok (.irem, 1) := by decide +kernel
theorem dX3_toTurn_46 : decode cX3_toTurn 46 = .ok (.iadd, 1) := by decide +kernel
theorem dX3_toTurn_47 : decode cX3_toTurn 47 = .ok (.goto 4, 3) := by decide +kernel
theorem dX3_toTurn_50 : decode cX3_toTurn 50 = .ok (.iload_n 3, 1) := by decide +kernel
theorem dX3_toTurn_51 : decode cX3_toTurn 51 = .ok (.iastore, 1) := by decide +kernel
theorem dX3_toTurn_52 : decode cX3_toTurn 52 = .ok (.iinc 3 1, 3) := by decide +kernel
theorem dX3_toTurn_55 : decode cX3_toTurn 55 = .ok (.goto (-53), 3) := by decide +kernel
theorem dX3_toTurn_58 : decode cX3_toTurn 58 = .ok (.return_, 1) := by decide +kernel
theorem dX3_toShift_0 : decode cX3_toShift 0 = .ok (.iconst 0, 1) := by decide +kernel
theorem dX3_toShift_1 : decode cX3_toShift 1 = .ok (.istore_n 3, 1) := by decide +kernel
theorem dX3_toShift_2 : decode cX3_toShift 2 = .ok (.iload_n 3, 1) := by decide +kernel
theorem dX3_toShift_3 : decode cX3_toShift 3 = .ok (.bipush 32, 2) := by decide +kernel
theorem dX3_toShift_5 : decode cX3_toShift 5 = .ok (.if_icmp .ge 48, 3) := by decide +kernel
theorem dX3_toShift_8 : decode cX3_toShift 8 = .ok (.iload_n 3, 1) := by decide +kernel
theorem dX3_toShift_9 : decode cX3_toShift 9 = .ok (.bipush 8, 2) := by decide +kernel
theorem dX3_toShift_11 : decode cX3_toShift 11 = .ok (.irem, 1) := by decide +kernel
theorem dX3_toShift_12 : decode cX3_toShift 12 = .ok (.iload_n 1, 1) := by decide +kernel
theorem dX3_toShift_13 : decode cX3_toShift 13 = .ok (.if_icmp .ne 7, 3) := by decide +kernel
theorem dX3_toShift_16 : decode cX3_toShift 16 = .ok (.iconst 1, 1) := by decide +kernel
theorem dX3_toShift_17 : decode cX3_toShift 17 = .ok (.goto 4, 3) := by decide +kernel
theorem dX3_toShift_20 : decode cX3_toShift 20 = .ok (.iconst 0, 1) := by decide +kernel
theorem dX3_toShift_21 : decode cX3_toShift 21 = .ok (.istore 4, 2) := by decide +kernel
theorem dX3_toShift_23 : decode cX3_toShift 23 = .ok (.aload_n 0, 1) := by decide +kernel
theorem dX3_toShift_24 : decode cX3_toShift 24 = .ok (.getfield 9, 3) := by decide +kernel
theorem dX3_toShift_27 : decode cX3_toShift 27 = .ok (.iload_n 3, 1) := by decide +kernel
theorem dX3_toShift_28 : decode cX3_toShift 28 = .ok (.iload 4, 2) := by decide +kernel
theorem dX3_toShift_30 : decode cX3_toShift 30 = .ok (.ifCond .eq 15, 3) := by decide +kernel
theorem dX3_toShift_33 : decode cX3_toShift 33 = .ok (.iload_n 3, 1) := by decide +kernel
theorem dX3_toShift_34 : decode cX3_toShift 34 = .ok (.iload_n 2, 1) := by decide +kernel
theorem dX3_toShift_35 : decode cX3_toShift 35 = .ok (.bipush 8, 2) := by decide +kernel
theorem dX3_toShift_37 : decode cX3_toShift 37 = .ok (.imul, 1) := by decide +kernel
theorem dX3_toShift_38 : decode cX3_toShift 38 = .ok (.iadd, 1) := by decide +kernel
theorem dX3_toShift_39 : decode cX3_toShift 39 = .ok (.bipush 32, 2) := by decide +kernel
theorem dX3_toShift_41 : decode cX3_toShift 41 = .ok (.irem, 1) := by decide +kernel
theorem dX3_toShift_42 : decode cX3_toShift 42 = .ok (.goto 4, 3) := by decide +kernel
theorem dX3_toShift_45 : decode cX3_toShift 45 = .ok (.iload_n 3, 1) := by decide +kernel
theorem dX3_toShift_46 : decode cX3_toShift 46 = .ok (.iastore, 1) := by decide +kernel
theorem dX3_toShift_47 : decode cX3_toShift 47 = .ok (.iinc 3 1, 3) := by decide +kernel
theorem dX3_toShift_50 : decode cX3_toShift 50 = .ok (.goto (-48), 3) := by decide +kernel
theorem dX3_toShift_53 : decode cX3_toShift 53 = .ok (.return_, 1) := by decide +kernel
theorem dX3_toInverse_0 : decode cX3_toInverse 0 = .ok (.iconst 0, 1) := by decide +kernel
theorem dX3_toInverse_1 : decode cX3_toInverse 1 = .ok (.istore_n 2, 1) := by decide +kernel
theorem dX3_toInverse_2 : decode cX3_toInverse 2 = .ok (.iload_n 2, 1) := by decide +kernel
theorem dX3_toInverse_3 : decode cX3_toInverse 3 = .ok (.bipush 32, 2) := by decide +kernel
theorem dX3_toInverse_5 : decode cX3_toInverse 5 = .ok (.if_icmp .ge 33, 3) := by decide +kernel
theorem dX3_toInverse_8 : decode cX3_toInverse 8 = .ok (.aload_n 1, 1) := by decide +kernel
theorem dX3_toInverse_9 : decode cX3_toInverse 9 = .ok (.getfield 9, 3) := by decide +kernel
theorem dX3_toInverse_12 : decode cX3_toInverse 12 = .ok (.iload_n 2, 1) := by decide +kernel
theorem dX3_toInverse_13 : decode cX3_toInverse 13 = .ok (.iaload, 1) := by decide +kernel
theorem dX3_toInverse_14 : decode cX3_toInverse 14 = .ok (.istore_n 3, 1) := by decide +kernel
theorem dX3_toInverse_15 : decode cX3_toInverse 15 = .ok (.iload_n 3, 1) := by decide +kernel
theorem dX3_toInverse_16 : decode cX3_toInverse 16 = .ok (.ifCond .lt 16, 3) := by decide +kernel
theorem dX3_toInverse_19 : decode cX3_toInverse 19 = .ok (.iload_n 3, 1) := by decide +kernel
theorem dX3_toInverse_20 : decode cX3_toInverse 20 = .ok (.bipush 32, 2) := by decide +kernel
theorem dX3_toInverse_22 : decode cX3_toInverse 22 = .ok (.if_icmp .ge 10, 3) := by decide +kernel
theorem dX3_toInverse_25 : decode cX3_toInverse 25 = .ok (.aload_n 0, 1) := by decide +kernel
theorem dX3_toInverse_26 : decode cX3_toInverse 26 = .ok (.getfield 9, 3) := by decide +kernel
theorem dX3_toInverse_29 : decode cX3_toInverse 29 = .ok (.iload_n 3, 1) := by decide +kernel
theorem dX3_toInverse_30 : decode cX3_toInverse 30 = .ok (.iload_n 2, 1) := by decide +kernel
theorem dX3_toInverse_31 : decode cX3_toInverse 31 = .ok (.iastore, 1) := by decide +kernel
theorem dX3_toInverse_32 : decode cX3_toInverse 32 = .ok (.iinc 2 1, 3) := by decide +kernel
theorem dX3_toInverse_35 : decode cX3_toInverse 35 = .ok (.goto (-33), 3) := by decide +kernel
theorem dX3_toInverse_38 : decode cX3_toInverse 38 = .ok (.return_, 1) := by decide +kernel
theorem dX3_then_0 : decode cX3_then 0 = .ok (.iconst 0, 1) := by decide +kernel
theorem dX3_then_1 : decode cX3_then 1 = .ok (.istore_n 2, 1) := by decide +kernel
theorem dX3_then_2 : decode cX3_then 2 = .ok (.iload_n 2, 1) := by decide +kernel
theorem dX3_then_3 : decode cX3_then 3 = .ok (.bipush 32, 2) := by decide +kernel
theorem dX3_then_5 : decode cX3_then 5 = .ok (.if_icmp .ge 38, 3) := by decide +kernel
theorem dX3_then_8 : decode cX3_then 8 = .ok (.aload_n 0, 1) := by decide +kernel
theorem dX3_then_9 : decode cX3_then 9 = .ok (.getfield 9, 3) := by decide +kernel
theorem dX3_then_12 : decode cX3_then 12 = .ok (.iload_n 2, 1) := by decide +kernel
theorem dX3_then_13 : decode cX3_then 13 = .ok (.iaload, 1) := by decide +kernel
theorem dX3_then_14 : decode cX3_then 14 = .ok (.istore_n 3, 1) := by decide +kernel
theorem dX3_then_15 : decode cX3_then 15 = .ok (.iload_n 3, 1) := by decide +kernel
theorem dX3_then_16 : decode cX3_then 16 = .ok (.ifCond .lt 21, 3) := by decide +kernel
theorem dX3_then_19 : decode cX3_then 19 = .ok (.iload_n 3, 1) := by decide +kernel
theorem dX3_then_20 : decode cX3_then 20 = .ok (.bipush 32, 2) := by decide +kernel
theorem dX3_then_22 : decode cX3_then 22 = .ok (.if_icmp .ge 15, 3) := by decide +kernel
theorem dX3_then_25 : decode cX3_then 25 = .ok (.aload_n 0, 1) := by decide +kernel
theorem dX3_then_26 : decode cX3_then 26 = .ok (.getfield 9, 3) := by decide +kernel
theorem dX3_then_29 : decode cX3_then 29 = .ok (.iload_n 2, 1) := by decide +kernel
theorem dX3_then_30 : decode cX3_then 30 = .ok (.aload_n 1, 1) := by decide +kernel
theorem dX3_then_31 : decode cX3_then 31 = .ok (.getfield 9, 3) := by decide +kernel
theorem dX3_then_34 : decode cX3_then 34 = .ok (.iload_n 3, 1) := by decide +kernel
theorem dX3_then_35 : decode cX3_then 35 = .ok (.iaload, 1) := by decide +kernel
theorem dX3_then_36 : decode cX3_then 36 = .ok (.iastore, 1) := by decide +kernel
theorem dX3_then_37 : decode cX3_then 37 = .ok (.iinc 2 1, 3) := by decide +kernel
theorem dX3_then_40 : decode cX3_then 40 = .ok (.goto (-38), 3) := by decide +kernel
theorem dX3_then_43 : decode cX3_then 43 = .ok (.return_, 1) := by decide +kernel
theorem dX3_toPower_0 : decode cX3_toPower 0 = .ok (.aload_n 0, 1) := by decide +kernel
theorem dX3_toPower_1 : decode cX3_toPower 1 = .ok (.invokevirtual 26, 3) := by decide +kernel
theorem dX3_toPower_4 : decode cX3_toPower 4 = .ok (.iconst 0, 1) := by decide +kernel
theorem dX3_toPower_5 : decode cX3_toPower 5 = .ok (.istore_n 3, 1) := by decide +kernel
theorem dX3_toPower_6 : decode cX3_toPower 6 = .ok (.iload_n 3, 1) := by decide +kernel
theorem dX3_toPower_7 : decode cX3_toPower 7 = .ok (.iload_n 2, 1) := by decide +kernel
theorem dX3_toPower_8 : decode cX3_toPower 8 = .ok (.if_icmp .ge 14, 3) := by decide +kernel
theorem dX3_toPower_11 : decode cX3_toPower 11 = .ok (.aload_n 0, 1) := by decide +kernel
theorem dX3_toPower_12 : decode cX3_toPower 12 = .ok (.aload_n 1, 1) := by decide +kernel
theorem dX3_toPower_13 : decode cX3_toPower 13 = .ok (.invokevirtual 29, 3) := by decide +kernel
theorem dX3_toPower_16 : decode cX3_toPower 16 = .ok (.iinc 3 1, 3) := by decide +kernel
theorem dX3_toPower_19 : decode cX3_toPower 19 = .ok (.goto (-13), 3) := by decide +kernel
theorem dX3_toPower_22 : decode cX3_toPower 22 = .ok (.return_, 1) := by decide +kernel
theorem dX3_toCommuted_0 : decode cX3_toCommuted 0 = .ok (.aload_n 0, 1) := by decide +kernel
theorem dX3_toCommuted_1 : decode cX3_toCommuted 1 = .ok (.aload_n 1, 1) := by decide +kernel
theorem dX3_toCommuted_2 : decode cX3_toCommuted 2 = .ok (.invokevirtual 33, 3) := by decide +kernel
theorem dX3_toCommuted_5 : decode cX3_toCommuted 5 = .ok (.aload_n 0, 1) := by decide +kernel
theorem dX3_toCommuted_6 : decode cX3_toCommuted 6 = .ok (.aload_n 2, 1) := by decide +kernel
theorem dX3_toCommuted_7 : decode cX3_toCommuted 7 = .ok (.invokevirtual 29, 3) := by decide +kernel
theorem dX3_toCommuted_10 : decode cX3_toCommuted 10 = .ok (.aload_n 3, 1) := by decide +kernel
theorem dX3_toCommuted_11 : decode cX3_toCommuted 11 = .ok (.aload_n 1, 1) := by decide +kernel
theorem dX3_toCommuted_12 : decode cX3_toCommuted 12 = .ok (.invokevirtual 36, 3) := by decide +kernel
theorem dX3_toCommuted_15 : decode cX3_toCommuted 15 = .ok (.aload_n 0, 1) := by decide +kernel
theorem dX3_toCommuted_16 : decode cX3_toCommuted 16 = .ok (.aload_n 3, 1) := by decide +kernel
theorem dX3_toCommuted_17 : decode cX3_toCommuted 17 = .ok (.invokevirtual 29, 3) := by decide +kernel
theorem dX3_toCommuted_20 : decode cX3_toCommuted 20 = .ok (.aload_n 3, 1) := by decide +kernel
theorem dX3_toCommuted_21 : decode cX3_toCommuted 21 = .ok (.aload_n 2, 1) := by decide +kernel
theorem dX3_toCommuted_22 : decode cX3_toCommuted 22 = .ok (.invokevirtual 36, 3) := by decide +kernel
theorem dX3_toCommuted_25 : decode cX3_toCommuted 25 = .ok (.aload_n 0, 1) := by decide +kernel
theorem dX3_toCommuted_26 : decode cX3_toCommuted 26 = .ok (.aload_n 3, 1) := by decide +kernel
theorem dX3_toCommuted_27 : decode cX3_toCommuted 27 = .ok (.invokevirtual 29, 3) := by decide +kernel
theorem dX3_toCommuted_30 : decode cX3_toCommuted 30 = .ok (.return_, 1) := by decide +kernel
theorem dX3_movesNothing_0 : decode cX3_movesNothing 0 = .ok (.iconst 0, 1) := by decide +kernel
theorem dX3_movesNothing_1 : decode cX3_movesNothing 1 = .ok (.istore_n 1, 1) := by decide +kernel
theorem dX3_movesNothing_2 : decode cX3_movesNothing 2 = .ok (.iload_n 1, 1) := by decide +kernel
theorem dX3_movesNothing_3 : decode cX3_movesNothing 3 = .ok (.bipush 32, 2) := by decide +kernel
theorem dX3_movesNothing_5 : decode cX3_movesNothing 5 = .ok (.if_icmp .ge 21, 3) := by decide +kernel
theorem dX3_movesNothing_8 : decode cX3_movesNothing 8 = .ok (.aload_n 0, 1) := by decide +kernel
theorem dX3_movesNothing_9 : decode cX3_movesNothing 9 = .ok (.getfield 9, 3) := by decide +kernel
theorem dX3_movesNothing_12 : decode cX3_movesNothing 12 = .ok (.iload_n 1, 1) := by decide +kernel
theorem dX3_movesNothing_13 : decode cX3_movesNothing 13 = .ok (.iaload, 1) := by decide +kernel
theorem dX3_movesNothing_14 : decode cX3_movesNothing 14 = .ok (.iload_n 1, 1) := by decide +kernel
theorem dX3_movesNothing_15 : decode cX3_movesNothing 15 = .ok (.if_icmp .eq 5, 3) := by decide +kernel
theorem dX3_movesNothing_18 : decode cX3_movesNothing 18 = .ok (.iconst 0, 1) := by decide +kernel
theorem dX3_movesNothing_19 : decode cX3_movesNothing 19 = .ok (.ireturn, 1) := by decide +kernel
theorem dX3_movesNothing_20 : decode cX3_movesNothing 20 = .ok (.iinc 1 1, 3) := by decide +kernel
theorem dX3_movesNothing_23 : decode cX3_movesNothing 23 = .ok (.goto (-21), 3) := by decide +kernel
theorem dX3_movesNothing_26 : decode cX3_movesNothing 26 = .ok (.iconst 1, 1) := by decide +kernel
theorem dX3_movesNothing_27 : decode cX3_movesNothing 27 = .ok (.ireturn, 1) := by decide +kernel
theorem dX3_countMoved_0 : decode cX3_countMoved 0 = .ok (.iconst 0, 1) := by decide +kernel
theorem dX3_countMoved_1 : decode cX3_countMoved 1 = .ok (.istore_n 1, 1) := by decide +kernel
theorem dX3_countMoved_2 : decode cX3_countMoved 2 = .ok (.iconst 0, 1) := by decide +kernel
theorem dX3_countMoved_3 : decode cX3_countMoved 3 = .ok (.istore_n 2, 1) := by decide +kernel
theorem dX3_countMoved_4 : decode cX3_countMoved 4 = .ok (.iload_n 2, 1) := by decide +kernel
theorem dX3_countMoved_5 : decode cX3_countMoved 5 = .ok (.bipush 32, 2) := by decide +kernel
theorem dX3_countMoved_7 : decode cX3_countMoved 7 = .ok (.if_icmp .ge 22, 3) := by decide +kernel
theorem dX3_countMoved_10 : decode cX3_countMoved 10 = .ok (.aload_n 0, 1) := by decide +kernel
theorem dX3_countMoved_11 : decode cX3_countMoved 11 = .ok (.getfield 9, 3) := by decide +kernel
theorem dX3_countMoved_14 : decode cX3_countMoved 14 = .ok (.iload_n 2, 1) := by decide +kernel
theorem dX3_countMoved_15 : decode cX3_countMoved 15 = .ok (.iaload, 1) := by decide +kernel
theorem dX3_countMoved_16 : decode cX3_countMoved 16 = .ok (.iload_n 2, 1) := by decide +kernel
theorem dX3_countMoved_17 : decode cX3_countMoved 17 = .ok (.if_icmp .eq 6, 3) := by decide +kernel
theorem dX3_countMoved_20 : decode cX3_countMoved 20 = .ok (.iinc 1 1, 3) := by decide +kernel
theorem dX3_countMoved_23 : decode cX3_countMoved 23 = .ok (.iinc 2 1, 3) := by decide +kernel
theorem dX3_countMoved_26 : decode cX3_countMoved 26 = .ok (.goto (-22), 3) := by decide +kernel
theorem dX3_countMoved_29 : decode cX3_countMoved 29 = .ok (.iload_n 1, 1) := by decide +kernel
theorem dX3_countMoved_30 : decode cX3_countMoved 30 = .ok (.ireturn, 1) := by decide +kernel
theorem dX3_cycleLength_0 : decode cX3_cycleLength 0 = .ok (.iconst 1, 1) := by decide +kernel
theorem dX3_cycleLength_1 : decode cX3_cycleLength 1 = .ok (.istore_n 2, 1) := by decide +kernel
theorem dX3_cycleLength_2 : decode cX3_cycleLength 2 = .ok (.aload_n 0, 1) := by decide +kernel
theorem dX3_cycleLength_3 : decode cX3_cycleLength 3 = .ok (.iload_n 1, 1) := by decide +kernel
theorem dX3_cycleLength_4 : decode cX3_cycleLength 4 = .ok (.invokevirtual 39, 3) := by decide +kernel
theorem dX3_cycleLength_7 : decode cX3_cycleLength 7 = .ok (.istore_n 3, 1) := by decide +kernel
theorem dX3_cycleLength_8 : decode cX3_cycleLength 8 = .ok (.iload_n 3, 1) := by decide +kernel
theorem dX3_cycleLength_9 : decode cX3_cycleLength 9 = .ok (.iload_n 1, 1) := by decide +kernel
theorem dX3_cycleLength_10 : decode cX3_cycleLength 10 = .ok (.if_icmp .eq 21, 3) := by decide +kernel
theorem dX3_cycleLength_13 : decode cX3_cycleLength 13 = .ok (.iload_n 2, 1) := by decide +kernel
theorem dX3_cycleLength_14 : decode cX3_cycleLength 14 = .ok (.bipush 32, 2) := by decide +kernel
theorem dX3_cycleLength_16 : decode cX3_cycleLength 16 = .ok (.if_icmp .ge 15, 3) := by decide +kernel
theorem dX3_cycleLength_19 : decode cX3_cycleLength 19 = .ok (.aload_n 0, 1) := by decide +kernel
theorem dX3_cycleLength_20 : decode cX3_cycleLength 20 = .ok (.iload_n 3, 1) := by decide +kernel
theorem dX3_cycleLength_21 : decode cX3_cycleLength 21 = .ok (.invokevirtual 39, 3) := by decide +kernel
theorem dX3_cycleLength_24 : decode cX3_cycleLength 24 = .ok (.istore_n 3, 1) := by decide +kernel
theorem dX3_cycleLength_25 : decode cX3_cycleLength 25 = .ok (.iinc 2 1, 3) := by decide +kernel
theorem dX3_cycleLength_28 : decode cX3_cycleLength 28 = .ok (.goto (-20), 3) := by decide +kernel
theorem dX3_cycleLength_31 : decode cX3_cycleLength 31 = .ok (.iload_n 2, 1) := by decide +kernel
theorem dX3_cycleLength_32 : decode cX3_cycleLength 32 = .ok (.ireturn, 1) := by decide +kernel
theorem dX3_isLowestOfCycle_0 : decode cX3_isLowestOfCycle 0 = .ok (.aload_n 0, 1) := by decide +kernel
theorem dX3_isLowestOfCycle_1 : decode cX3_isLowestOfCycle 1 = .ok (.iload_n 1, 1) := by decide +kernel
theorem dX3_isLowestOfCycle_2 : decode cX3_isLowestOfCycle 2 = .ok (.invokevirtual 39, 3) := by decide +kernel
theorem dX3_isLowestOfCycle_5 : decode cX3_isLowestOfCycle 5 = .ok (.istore_n 2, 1) := by decide +kernel
theorem dX3_isLowestOfCycle_6 : decode cX3_isLowestOfCycle 6 = .ok (.iconst 0, 1) := by decide +kernel
theorem dX3_isLowestOfCycle_7 : decode cX3_isLowestOfCycle 7 = .ok (.istore_n 3, 1) := by decide +kernel
theorem dX3_isLowestOfCycle_8 : decode cX3_isLowestOfCycle 8 = .ok (.iload_n 3, 1) := by decide +kernel
theorem dX3_isLowestOfCycle_9 : decode cX3_isLowestOfCycle 9 = .ok (.bipush 32, 2) := by decide +kernel
theorem dX3_isLowestOfCycle_11 : decode cX3_isLowestOfCycle 11 = .ok (.if_icmp .ge 27, 3) := by decide +kernel
theorem dX3_isLowestOfCycle_14 : decode cX3_isLowestOfCycle 14 = .ok (.iload_n 2, 1) := by decide +kernel
theorem dX3_isLowestOfCycle_15 : decode cX3_isLowestOfCycle 15 = .ok (.iload_n 1, 1) := by decide +kernel
theorem dX3_isLowestOfCycle_16 : decode cX3_isLowestOfCycle 16 = .ok (.if_icmp .eq 22, 3) := by decide +kernel
theorem dX3_isLowestOfCycle_19 : decode cX3_isLowestOfCycle 19 = .ok (.iload_n 2, 1) := by decide +kernel
theorem dX3_isLowestOfCycle_20 : decode cX3_isLowestOfCycle 20 = .ok (.iload_n 1, 1) := by decide +kernel
theorem dX3_isLowestOfCycle_21 : decode cX3_isLowestOfCycle 21 = .ok (.if_icmp .ge 5, 3) := by decide +kernel
theorem dX3_isLowestOfCycle_24 : decode cX3_isLowestOfCycle 24 = .ok (.iconst 0, 1) := by decide +kernel
theorem dX3_isLowestOfCycle_25 : decode cX3_isLowestOfCycle 25 = .ok (.ireturn, 1) := by decide +kernel
theorem dX3_isLowestOfCycle_26 : decode cX3_isLowestOfCycle 26 = .ok (.aload_n 0, 1) := by decide +kernel
theorem dX3_isLowestOfCycle_27 : decode cX3_isLowestOfCycle 27 = .ok (.iload_n 2, 1) := by decide +kernel
theorem dX3_isLowestOfCycle_28 : decode cX3_isLowestOfCycle 28 = .ok (.invokevirtual 39, 3) := by decide +kernel
theorem dX3_isLowestOfCycle_31 : decode cX3_isLowestOfCycle 31 = .ok (.istore_n 2, 1) := by decide +kernel
theorem dX3_isLowestOfCycle_32 : decode cX3_isLowestOfCycle 32 = .ok (.iinc 3 1, 3) := by decide +kernel
theorem dX3_isLowestOfCycle_35 : decode cX3_isLowestOfCycle 35 = .ok (.goto (-27), 3) := by decide +kernel
theorem dX3_isLowestOfCycle_38 : decode cX3_isLowestOfCycle 38 = .ok (.iconst 1, 1) := by decide +kernel
theorem dX3_isLowestOfCycle_39 : decode cX3_isLowestOfCycle 39 = .ok (.ireturn, 1) := by decide +kernel
theorem dX3_countCycles_0 : decode cX3_countCycles 0 = .ok (.iconst 0, 1) := by decide +kernel
theorem dX3_countCycles_1 : decode cX3_countCycles 1 = .ok (.istore_n 2, 1) := by decide +kernel
theorem dX3_countCycles_2 : decode cX3_countCycles 2 = .ok (.iconst 0, 1) := by decide +kernel
theorem dX3_countCycles_3 : decode cX3_countCycles 3 = .ok (.istore_n 3, 1) := by decide +kernel
theorem dX3_countCycles_4 : decode cX3_countCycles 4 = .ok (.iload_n 3, 1) := by decide +kernel
theorem dX3_countCycles_5 : decode cX3_countCycles 5 = .ok (.bipush 32, 2) := by decide +kernel
theorem dX3_countCycles_7 : decode cX3_countCycles 7 = .ok (.if_icmp .ge 29, 3) := by decide +kernel
theorem dX3_countCycles_10 : decode cX3_countCycles 10 = .ok (.aload_n 0, 1) := by decide +kernel
theorem dX3_countCycles_11 : decode cX3_countCycles 11 = .ok (.iload_n 3, 1) := by decide +kernel
theorem dX3_countCycles_12 : decode cX3_countCycles 12 = .ok (.invokevirtual 43, 3) := by decide +kernel
theorem dX3_countCycles_15 : decode cX3_countCycles 15 = .ok (.ifCond .eq 15, 3) := by decide +kernel
theorem dX3_countCycles_18 : decode cX3_countCycles 18 = .ok (.aload_n 0, 1) := by decide +kernel
theorem dX3_countCycles_19 : decode cX3_countCycles 19 = .ok (.iload_n 3, 1) := by decide +kernel
theorem dX3_countCycles_20 : decode cX3_countCycles 20 = .ok (.invokevirtual 47, 3) := by decide +kernel
theorem dX3_countCycles_23 : decode cX3_countCycles 23 = .ok (.iload_n 1, 1) := by decide +kernel
theorem dX3_countCycles_24 : decode cX3_countCycles 24 = .ok (.if_icmp .lt 6, 3) := by decide +kernel
theorem dX3_countCycles_27 : decode cX3_countCycles 27 = .ok (.iinc 2 1, 3) := by decide +kernel
theorem dX3_countCycles_30 : decode cX3_countCycles 30 = .ok (.iinc 3 1, 3) := by decide +kernel
theorem dX3_countCycles_33 : decode cX3_countCycles 33 = .ok (.goto (-29), 3) := by decide +kernel
theorem dX3_countCycles_36 : decode cX3_countCycles 36 = .ok (.iload_n 2, 1) := by decide +kernel
theorem dX3_countCycles_37 : decode cX3_countCycles 37 = .ok (.ireturn, 1) := by decide +kernel
theorem dX3_longestCycle_0 : decode cX3_longestCycle 0 = .ok (.iconst 1, 1) := by decide +kernel
theorem dX3_longestCycle_1 : decode cX3_longestCycle 1 = .ok (.istore_n 1, 1) := by decide +kernel
theorem dX3_longestCycle_2 : decode cX3_longestCycle 2 = .ok (.iconst 0, 1) := by decide +kernel
theorem dX3_longestCycle_3 : decode cX3_longestCycle 3 = .ok (.istore_n 2, 1) := by decide +kernel
theorem dX3_longestCycle_4 : decode cX3_longestCycle 4 = .ok (.iload_n 2, 1) := by decide +kernel
theorem dX3_longestCycle_5 : decode cX3_longestCycle 5 = .ok (.bipush 32, 2) := by decide +kernel
theorem dX3_longestCycle_7 : decode cX3_longestCycle 7 = .ok (.if_icmp .ge 19, 3) := by decide +kernel
theorem dX3_longestCycle_10 : decode cX3_longestCycle 10 = .ok (.iload_n 1, 1) := by decide +kernel
theorem dX3_longestCycle_11 : decode cX3_longestCycle 11 = .ok (.aload_n 0, 1) := by decide +kernel
theorem dX3_longestCycle_12 : decode cX3_longestCycle 12 = .ok (.iload_n 2, 1) := by decide +kernel
theorem dX3_longestCycle_13 : decode cX3_longestCycle 13 = .ok (.invokevirtual 47, 3) := by decide +kernel
theorem dX3_longestCycle_16 : decode cX3_longestCycle 16 = .ok (.invokestatic 50, 3) := by decide +kernel
theorem dX3_longestCycle_19 : decode cX3_longestCycle 19 = .ok (.istore_n 1, 1) := by decide +kernel
theorem dX3_longestCycle_20 : decode cX3_longestCycle 20 = .ok (.iinc 2 1, 3) := by decide +kernel
theorem dX3_longestCycle_23 : decode cX3_longestCycle 23 = .ok (.goto (-19), 3) := by decide +kernel
theorem dX3_longestCycle_26 : decode cX3_longestCycle 26 = .ok (.iload_n 1, 1) := by decide +kernel
theorem dX3_longestCycle_27 : decode cX3_longestCycle 27 = .ok (.ireturn, 1) := by decide +kernel
theorem dX3_orderByCycles_0 : decode cX3_orderByCycles 0 = .ok (.iconst 1, 1) := by decide +kernel
theorem dX3_orderByCycles_1 : decode cX3_orderByCycles 1 = .ok (.istore_n 1, 1) := by decide +kernel
theorem dX3_orderByCycles_2 : decode cX3_orderByCycles 2 = .ok (.iconst 0, 1) := by decide +kernel
theorem dX3_orderByCycles_3 : decode cX3_orderByCycles 3 = .ok (.istore_n 2, 1) := by decide +kernel
theorem dX3_orderByCycles_4 : decode cX3_orderByCycles 4 = .ok (.iload_n 2, 1) := by decide +kernel
theorem dX3_orderByCycles_5 : decode cX3_orderByCycles 5 = .ok (.bipush 32, 2) := by decide +kernel
theorem dX3_orderByCycles_7 : decode cX3_orderByCycles 7 = .ok (.if_icmp .ge 19, 3) := by decide +kernel
theorem dX3_orderByCycles_10 : decode cX3_orderByCycles 10 = .ok (.iload_n 1, 1) := by decide +kernel
theorem dX3_orderByCycles_11 : decode cX3_orderByCycles 11 = .ok (.aload_n 0, 1) := by decide +kernel
theorem dX3_orderByCycles_12 : decode cX3_orderByCycles 12 = .ok (.iload_n 2, 1) := by decide +kernel
theorem dX3_orderByCycles_13 : decode cX3_orderByCycles 13 = .ok (.invokevirtual 47, 3) := by decide +kernel
theorem dX3_orderByCycles_16 : decode cX3_orderByCycles 16 = .ok (.invokestatic 56, 3) := by decide +kernel
theorem dX3_orderByCycles_19 : decode cX3_orderByCycles 19 = .ok (.istore_n 1, 1) := by decide +kernel
theorem dX3_orderByCycles_20 : decode cX3_orderByCycles 20 = .ok (.iinc 2 1, 3) := by decide +kernel
theorem dX3_orderByCycles_23 : decode cX3_orderByCycles 23 = .ok (.goto (-19), 3) := by decide +kernel
theorem dX3_orderByCycles_26 : decode cX3_orderByCycles 26 = .ok (.iload_n 1, 1) := by decide +kernel
theorem dX3_orderByCycles_27 : decode cX3_orderByCycles 27 = .ok (.ireturn, 1) := by decide +kernel
theorem dX3_orderByDoing_0 : decode cX3_orderByDoing 0 = .ok (.aload_n 1, 1) := by decide +kernel
theorem dX3_orderByDoing_1 : decode cX3_orderByDoing 1 = .ok (.aload_n 0, 1) := by decide +kernel
theorem dX3_orderByDoing_2 : decode cX3_orderByDoing 2 = .ok (.invokevirtual 33, 3) := by decide +kernel
theorem dX3_orderByDoing_5 : decode cX3_orderByDoing 5 = .ok (.iconst 1, 1) := by decide +kernel
theorem dX3_orderByDoing_6 : decode cX3_orderByDoing 6 = .ok (.istore_n 2, 1) := by decide +kernel
theorem dX3_orderByDoing_7 : decode cX3_orderByDoing 7 = .ok (.iload_n 2, 1) := by decide +kernel
theorem dX3_orderByDoing_8 : decode cX3_orderByDoing 8 = .ok (.ldc 59, 2) := by decide +kernel
theorem dX3_orderByDoing_10 : decode cX3_orderByDoing 10 = .ok (.if_icmp .ge 21, 3) := by decide +kernel
theorem dX3_orderByDoing_13 : decode cX3_orderByDoing 13 = .ok (.aload_n 1, 1) := by decide +kernel
theorem dX3_orderByDoing_14 : decode cX3_orderByDoing 14 = .ok (.invokevirtual 60, 3) := by decide +kernel
theorem dX3_orderByDoing_17 : decode cX3_orderByDoing 17 = .ok (.ifCond .ne 14, 3) := by decide +kernel
theorem dX3_orderByDoing_20 : decode cX3_orderByDoing 20 = .ok (.aload_n 1, 1) := by decide +kernel
theorem dX3_orderByDoing_21 : decode cX3_orderByDoing 21 = .ok (.aload_n 0, 1) := by decide +kernel
theorem dX3_orderByDoing_22 : decode cX3_orderByDoing 22 = .ok (.invokevirtual 29, 3) := by decide +kernel
theorem dX3_orderByDoing_25 : decode cX3_orderByDoing 25 = .ok (.iinc 2 1, 3) := by decide +kernel
theorem dX3_orderByDoing_28 : decode cX3_orderByDoing 28 = .ok (.goto (-21), 3) := by decide +kernel
theorem dX3_orderByDoing_31 : decode cX3_orderByDoing 31 = .ok (.iload_n 2, 1) := by decide +kernel
theorem dX3_orderByDoing_32 : decode cX3_orderByDoing 32 = .ok (.ireturn, 1) := by decide +kernel
theorem dX3_isEvenByCycles_0 : decode cX3_isEvenByCycles 0 = .ok (.bipush 32, 2) := by decide +kernel
theorem dX3_isEvenByCycles_2 : decode cX3_isEvenByCycles 2 = .ok (.aload_n 0, 1) := by decide +kernel
theorem dX3_isEvenByCycles_3 : decode cX3_isEvenByCycles 3 = .ok (.iconst 1, 1) := by decide +kernel
theorem dX3_isEvenByCycles_4 : decode cX3_isEvenByCycles 4 = .ok (.invokevirtual 64, 3) := by decide +kernel
theorem dX3_isEvenByCycles_7 : decode cX3_isEvenByCycles 7 = .ok (.isub, 1) := by decide +kernel
theorem dX3_isEvenByCycles_8 : decode cX3_isEvenByCycles 8 = .ok (.iconst 2, 1) := by decide +kernel
theorem dX3_isEvenByCycles_9 : decode cX3_isEvenByCycles 9 = .ok (.irem, 1) := by decide +kernel
theorem dX3_isEvenByCycles_10 : decode cX3_isEvenByCycles 10 = .ok (.ifCond .ne 7, 3) := by decide +kernel
theorem dX3_isEvenByCycles_13 : decode cX3_isEvenByCycles 13 = .ok (.iconst 1, 1) := by decide +kernel
theorem dX3_isEvenByCycles_14 : decode cX3_isEvenByCycles 14 = .ok (.goto 4, 3) := by decide +kernel
theorem dX3_isEvenByCycles_17 : decode cX3_isEvenByCycles 17 = .ok (.iconst 0, 1) := by decide +kernel
theorem dX3_isEvenByCycles_18 : decode cX3_isEvenByCycles 18 = .ok (.ireturn, 1) := by decide +kernel
theorem dX3_isEvenByPairs_0 : decode cX3_isEvenByPairs 0 = .ok (.iconst 1, 1) := by decide +kernel
theorem dX3_isEvenByPairs_1 : decode cX3_isEvenByPairs 1 = .ok (.istore_n 1, 1) := by decide +kernel
theorem dX3_isEvenByPairs_2 : decode cX3_isEvenByPairs 2 = .ok (.iconst 0, 1) := by decide +kernel
theorem dX3_isEvenByPairs_3 : decode cX3_isEvenByPairs 3 = .ok (.istore_n 2, 1) := by decide +kernel
theorem dX3_isEvenByPairs_4 : decode cX3_isEvenByPairs 4 = .ok (.iload_n 2, 1) := by decide +kernel
theorem dX3_isEvenByPairs_5 : decode cX3_isEvenByPairs 5 = .ok (.bipush 32, 2) := by decide +kernel
theorem dX3_isEvenByPairs_7 : decode cX3_isEvenByPairs 7 = .ok (.if_icmp .ge 50, 3) := by decide +kernel
theorem dX3_isEvenByPairs_10 : decode cX3_isEvenByPairs 10 = .ok (.iload_n 2, 1) := by decide +kernel
theorem dX3_isEvenByPairs_11 : decode cX3_isEvenByPairs 11 = .ok (.iconst 1, 1) := by decide +kernel
theorem dX3_isEvenByPairs_12 : decode cX3_isEvenByPairs 12 = .ok (.iadd, 1) := by decide +kernel
theorem dX3_isEvenByPairs_13 : decode cX3_isEvenByPairs 13 = .ok (.istore_n 3, 1) := by decide +kernel
theorem dX3_isEvenByPairs_14 : decode cX3_isEvenByPairs 14 = .ok (.iload_n 3, 1) := by decide +kernel
theorem dX3_isEvenByPairs_15 : decode cX3_isEvenByPairs 15 = .ok (.bipush 32, 2) := by decide +kernel
theorem dX3_isEvenByPairs_17 : decode cX3_isEvenByPairs 17 = .ok (.if_icmp .ge 34, 3) := by decide +kernel
theorem dX3_isEvenByPairs_20 : decode cX3_isEvenByPairs 20 = .ok (.aload_n 0, 1) := by decide +kernel
theorem dX3_isEvenByPairs_21 : decode cX3_isEvenByPairs 21 = .ok (.getfield 9, 3) := by decide +kernel
theorem dX3_isEvenByPairs_24 : decode cX3_isEvenByPairs 24 = .ok (.iload_n 2, 1) := by decide +kernel
theorem dX3_isEvenByPairs_25 : decode cX3_isEvenByPairs 25 = .ok (.iaload, 1) := by decide +kernel
theorem dX3_isEvenByPairs_26 : decode cX3_isEvenByPairs 26 = .ok (.aload_n 0, 1) := by decide +kernel
theorem dX3_isEvenByPairs_27 : decode cX3_isEvenByPairs 27 = .ok (.getfield 9, 3) := by decide +kernel
theorem dX3_isEvenByPairs_30 : decode cX3_isEvenByPairs 30 = .ok (.iload_n 3, 1) := by decide +kernel
theorem dX3_isEvenByPairs_31 : decode cX3_isEvenByPairs 31 = .ok (.iaload, 1) := by decide +kernel
theorem dX3_isEvenByPairs_32 : decode cX3_isEvenByPairs 32 = .ok (.if_icmp .le 13, 3) := by decide +kernel
theorem dX3_isEvenByPairs_35 : decode cX3_isEvenByPairs 35 = .ok (.iload_n 1, 1) := by decide +kernel
theorem dX3_isEvenByPairs_36 : decode cX3_isEvenByPairs 36 = .ok (.ifCond .ne 7, 3) := by decide +kernel
theorem dX3_isEvenByPairs_39 : decode cX3_isEvenByPairs 39 = .ok (.iconst 1, 1) := by decide +kernel
theorem dX3_isEvenByPairs_40 : decode cX3_isEvenByPairs 40 = .ok (.goto 4, 3) := by decide +kernel
theorem dX3_isEvenByPairs_43 : decode cX3_isEvenByPairs 43 = .ok (.iconst 0, 1) := by decide +kernel
theorem dX3_isEvenByPairs_44 : decode cX3_isEvenByPairs 44 = .ok (.istore_n 1, 1) := by decide +kernel
theorem dX3_isEvenByPairs_45 : decode cX3_isEvenByPairs 45 = .ok (.iinc 3 1, 3) := by decide +kernel
theorem dX3_isEvenByPairs_48 : decode cX3_isEvenByPairs 48 = .ok (.goto (-34), 3) := by decide +kernel
theorem dX3_isEvenByPairs_51 : decode cX3_isEvenByPairs 51 = .ok (.iinc 2 1, 3) := by decide +kernel
theorem dX3_isEvenByPairs_54 : decode cX3_isEvenByPairs 54 = .ok (.goto (-50), 3) := by decide +kernel
theorem dX3_isEvenByPairs_57 : decode cX3_isEvenByPairs 57 = .ok (.iload_n 1, 1) := by decide +kernel
theorem dX3_isEvenByPairs_58 : decode cX3_isEvenByPairs 58 = .ok (.ireturn, 1) := by decide +kernel
theorem dX3_isInEitherOrder_0 : decode cX3_isInEitherOrder 0 = .ok (.iconst 0, 1) := by decide +kernel
theorem dX3_isInEitherOrder_1 : decode cX3_isInEitherOrder 1 = .ok (.istore_n 2, 1) := by decide +kernel
theorem dX3_isInEitherOrder_2 : decode cX3_isInEitherOrder 2 = .ok (.iload_n 2, 1) := by decide +kernel
theorem dX3_isInEitherOrder_3 : decode cX3_isInEitherOrder 3 = .ok (.bipush 32, 2) := by decide +kernel
theorem dX3_isInEitherOrder_5 : decode cX3_isInEitherOrder 5 = .ok (.if_icmp .ge 33, 3) := by decide +kernel
theorem dX3_isInEitherOrder_8 : decode cX3_isInEitherOrder 8 = .ok (.aload_n 1, 1) := by decide +kernel
theorem dX3_isInEitherOrder_9 : decode cX3_isInEitherOrder 9 = .ok (.aload_n 0, 1) := by decide +kernel
theorem dX3_isInEitherOrder_10 : decode cX3_isInEitherOrder 10 = .ok (.getfield 9, 3) := by decide +kernel
theorem dX3_isInEitherOrder_13 : decode cX3_isInEitherOrder 13 = .ok (.iload_n 2, 1) := by decide +kernel
theorem dX3_isInEitherOrder_14 : decode cX3_isInEitherOrder 14 = .ok (.iaload, 1) := by decide +kernel
theorem dX3_isInEitherOrder_15 : decode cX3_isInEitherOrder 15 = .ok (.invokevirtual 39, 3) := by decide +kernel
theorem dX3_isInEitherOrder_18 : decode cX3_isInEitherOrder 18 = .ok (.aload_n 0, 1) := by decide +kernel
theorem dX3_isInEitherOrder_19 : decode cX3_isInEitherOrder 19 = .ok (.aload_n 1, 1) := by decide +kernel
theorem dX3_isInEitherOrder_20 : decode cX3_isInEitherOrder 20 = .ok (.iload_n 2, 1) := by decide +kernel
theorem dX3_isInEitherOrder_21 : decode cX3_isInEitherOrder 21 = .ok (.invokevirtual 39, 3) := by decide +kernel
theorem dX3_isInEitherOrder_24 : decode cX3_isInEitherOrder 24 = .ok (.invokevirtual 39, 3) := by decide +kernel
theorem dX3_isInEitherOrder_27 : decode cX3_isInEitherOrder 27 = .ok (.if_icmp .eq 5, 3) := by decide +kernel
theorem dX3_isInEitherOrder_30 : decode cX3_isInEitherOrder 30 = .ok (.iconst 0, 1) := by decide +kernel
theorem dX3_isInEitherOrder_31 : decode cX3_isInEitherOrder 31 = .ok (.ireturn, 1) := by decide +kernel
theorem dX3_isInEitherOrder_32 : decode cX3_isInEitherOrder 32 = .ok (.iinc 2 1, 3) := by decide +kernel
theorem dX3_isInEitherOrder_35 : decode cX3_isInEitherOrder 35 = .ok (.goto (-33), 3) := by decide +kernel
theorem dX3_isInEitherOrder_38 : decode cX3_isInEitherOrder 38 = .ok (.iconst 1, 1) := by decide +kernel
theorem dX3_isInEitherOrder_39 : decode cX3_isInEitherOrder 39 = .ok (.ireturn, 1) := by decide +kernel
theorem dX3_leastCommonMultiple_0 : decode cX3_leastCommonMultiple 0 = .ok (.iload_n 0, 1) := by decide +kernel
theorem dX3_leastCommonMultiple_1 : decode cX3_leastCommonMultiple 1 = .ok (.istore_n 2, 1) := by decide +kernel
theorem dX3_leastCommonMultiple_2 : decode cX3_leastCommonMultiple 2 = .ok (.iload_n 1, 1) := by decide +kernel
theorem dX3_leastCommonMultiple_3 : decode cX3_leastCommonMultiple 3 = .ok (.istore_n 3, 1) := by decide +kernel
theorem dX3_leastCommonMultiple_4 : decode cX3_leastCommonMultiple 4 = .ok (.iconst 0, 1) := by decide +kernel
theorem dX3_leastCommonMultiple_5 : decode cX3_leastCommonMultiple 5 = .ok (.istore 4, 2) := by decide +kernel
theorem dX3_leastCommonMultiple_7 : decode cX3_leastCommonMultiple 7 = .ok (.iload 4, 2) := by decide +kernel
theorem dX3_leastCommonMultiple_9 : decode cX3_leastCommonMultiple 9 = .ok (.bipush 32, 2) := by decide +kernel
theorem dX3_leastCommonMultiple_11 : decode cX3_leastCommonMultiple 11 = .ok (.if_icmp .ge 23, 3) := by decide +kernel
theorem dX3_leastCommonMultiple_14 : decode cX3_leastCommonMultiple 14 = .ok (.iload_n 3, 1) := by decide +kernel
theorem dX3_leastCommonMultiple_15 : decode cX3_leastCommonMultiple 15 = .ok (.ifCond .eq 19, 3) := by decide +kernel
theorem dX3_leastCommonMultiple_18 : decode cX3_leastCommonMultiple 18 = .ok (.iload_n 2, 1) := by decide +kernel
theorem dX3_leastCommonMultiple_19 : decode cX3_leastCommonMultiple 19 = .ok (.iload_n 3, 1) := by decide +kernel
theorem dX3_leastCommonMultiple_20 : decode cX3_leastCommonMultiple 20 = .ok (.irem, 1) := by decide +kernel
theorem dX3_leastCommonMultiple_21 : decode cX3_leastCommonMultiple 21 = .ok (.istore 5, 2) := by decide +kernel
theorem dX3_leastCommonMultiple_23 : decode cX3_leastCommonMultiple 23 = .ok (.iload_n 3, 1) := by decide +kernel
theorem dX3_leastCommonMultiple_24 : decode cX3_leastCommonMultiple 24 = .ok (.istore_n 2, 1) := by decide +kernel
theorem dX3_leastCommonMultiple_25 : decode cX3_leastCommonMultiple 25 = .ok (.iload 5, 2) := by decide +kernel
theorem dX3_leastCommonMultiple_27 : decode cX3_leastCommonMultiple 27 = .ok (.istore_n 3, 1) := by decide +kernel
theorem dX3_leastCommonMultiple_28 : decode cX3_leastCommonMultiple 28 = .ok (.iinc 4 1, 3) := by decide +kernel
theorem dX3_leastCommonMultiple_31 : decode cX3_leastCommonMultiple 31 = .ok (.goto (-24), 3) := by decide +kernel
theorem dX3_leastCommonMultiple_34 : decode cX3_leastCommonMultiple 34 = .ok (.iload_n 2, 1) := by decide +kernel
theorem dX3_leastCommonMultiple_35 : decode cX3_leastCommonMultiple 35 = .ok (.ifCond .ne 7, 3) := by decide +kernel
theorem dX3_leastCommonMultiple_38 : decode cX3_leastCommonMultiple 38 = .ok (.iconst 0, 1) := by decide +kernel
theorem dX3_leastCommonMultiple_39 : decode cX3_leastCommonMultiple 39 = .ok (.goto 8, 3) := by decide +kernel
theorem dX3_leastCommonMultiple_42 : decode cX3_leastCommonMultiple 42 = .ok (.iload_n 0, 1) := by decide +kernel
theorem dX3_leastCommonMultiple_43 : decode cX3_leastCommonMultiple 43 = .ok (.iload_n 2, 1) := by decide +kernel
theorem dX3_leastCommonMultiple_44 : decode cX3_leastCommonMultiple 44 = .ok (.idiv, 1) := by decide +kernel
theorem dX3_leastCommonMultiple_45 : decode cX3_leastCommonMultiple 45 = .ok (.iload_n 1, 1) := by decide +kernel
theorem dX3_leastCommonMultiple_46 : decode cX3_leastCommonMultiple 46 = .ok (.imul, 1) := by decide +kernel
theorem dX3_leastCommonMultiple_47 : decode cX3_leastCommonMultiple 47 = .ok (.ireturn, 1) := by decide +kernel
