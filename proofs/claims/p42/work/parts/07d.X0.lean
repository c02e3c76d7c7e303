/-! ===== printed: decode rows of X0 ===== -/
theorem dX0_init_0 : decode cX0_init 0 = .ok (.aload_n 0, 1) := by decide +kernel
theorem dX0_init_1 : decode cX0_init 1 = .ok (.invokespecial 3, 3) := by decide +kernel
theorem dX0_init_4 : decode cX0_init 4 = .ok (.aload_n 0, 1) := by decide +kernel
theorem dX0_init_5 : decode cX0_init 5 = .ok (.bipush 32, 2) := by decide +kernel
theorem dX0_init_7 : decode cX0_init 7 = .ok (.newarray .int, 2) := by decide +kernel
theorem dX0_init_9 : decode cX0_init 9 = .ok (.putfield 9, 3) := by decide +kernel
theorem dX0_init_12 : decode cX0_init 12 = .ok (.aload_n 0, 1) := by decide +kernel
theorem dX0_init_13 : decode cX0_init 13 = .ok (.bipush 32, 2) := by decide +kernel
theorem dX0_init_15 : decode cX0_init 15 = .ok (.newarray .int, 2) := by decide +kernel
theorem dX0_init_17 : decode cX0_init 17 = .ok (.putfield 15, 3) := by decide +kernel
theorem dX0_init_20 : decode cX0_init 20 = .ok (.aload_n 0, 1) := by decide +kernel
theorem dX0_init_21 : decode cX0_init 21 = .ok (.bipush 32, 2) := by decide +kernel
theorem dX0_init_23 : decode cX0_init 23 = .ok (.newarray .int, 2) := by decide +kernel
theorem dX0_init_25 : decode cX0_init 25 = .ok (.putfield 18, 3) := by decide +kernel
theorem dX0_init_28 : decode cX0_init 28 = .ok (.iconst 0, 1) := by decide +kernel
theorem dX0_init_29 : decode cX0_init 29 = .ok (.istore_n 1, 1) := by decide +kernel
theorem dX0_init_30 : decode cX0_init 30 = .ok (.iload_n 1, 1) := by decide +kernel
theorem dX0_init_31 : decode cX0_init 31 = .ok (.bipush 32, 2) := by decide +kernel
theorem dX0_init_33 : decode cX0_init 33 = .ok (.if_icmp .ge 33, 3) := by decide +kernel
theorem dX0_init_36 : decode cX0_init 36 = .ok (.aload_n 0, 1) := by decide +kernel
theorem dX0_init_37 : decode cX0_init 37 = .ok (.getfield 9, 3) := by decide +kernel
theorem dX0_init_40 : decode cX0_init 40 = .ok (.iload_n 1, 1) := by decide +kernel
theorem dX0_init_41 : decode cX0_init 41 = .ok (.iload_n 1, 1) := by decide +kernel
theorem dX0_init_42 : decode cX0_init 42 = .ok (.iastore, 1) := by decide +kernel
theorem dX0_init_43 : decode cX0_init 43 = .ok (.aload_n 0, 1) := by decide +kernel
theorem dX0_init_44 : decode cX0_init 44 = .ok (.getfield 15, 3) := by decide +kernel
theorem dX0_init_47 : decode cX0_init 47 = .ok (.iload_n 1, 1) := by decide +kernel
theorem dX0_init_48 : decode cX0_init 48 = .ok (.iload_n 1, 1) := by decide +kernel
theorem dX0_init_49 : decode cX0_init 49 = .ok (.iastore, 1) := by decide +kernel
theorem dX0_init_50 : decode cX0_init 50 = .ok (.aload_n 0, 1) := by decide +kernel
theorem dX0_init_51 : decode cX0_init 51 = .ok (.getfield 18, 3) := by decide +kernel
theorem dX0_init_54 : decode cX0_init 54 = .ok (.iload_n 1, 1) := by decide +kernel
theorem dX0_init_55 : decode cX0_init 55 = .ok (.iload_n 1, 1) := by decide +kernel
theorem dX0_init_56 : decode cX0_init 56 = .ok (.bipush 8, 2) := by decide +kernel
theorem dX0_init_58 : decode cX0_init 58 = .ok (.idiv, 1) := by decide +kernel
theorem dX0_init_59 : decode cX0_init 59 = .ok (.iastore, 1) := by decide +kernel
theorem dX0_init_60 : decode cX0_init 60 = .ok (.iinc 1 1, 3) := by decide +kernel
theorem dX0_init_63 : decode cX0_init 63 = .ok (.goto (-33), 3) := by decide +kernel
theorem dX0_init_66 : decode cX0_init 66 = .ok (.return_, 1) := by decide +kernel
theorem dX0_copyFrom_0 : decode cX0_copyFrom 0 = .ok (.aload_n 1, 1) := by decide +kernel
theorem dX0_copyFrom_1 : decode cX0_copyFrom 1 = .ok (.getfield 9, 3) := by decide +kernel
theorem dX0_copyFrom_4 : decode cX0_copyFrom 4 = .ok (.iconst 0, 1) := by decide +kernel
theorem dX0_copyFrom_5 : decode cX0_copyFrom 5 = .ok (.aload_n 0, 1) := by decide +kernel
theorem dX0_copyFrom_6 : decode cX0_copyFrom 6 = .ok (.getfield 9, 3) := by decide +kernel
theorem dX0_copyFrom_9 : decode cX0_copyFrom 9 = .ok (.iconst 0, 1) := by decide +kernel
theorem dX0_copyFrom_10 : decode cX0_copyFrom 10 = .ok (.bipush 32, 2) := by decide +kernel
theorem dX0_copyFrom_12 : decode cX0_copyFrom 12 = .ok (.invokestatic 21, 3) := by decide +kernel
theorem dX0_copyFrom_15 : decode cX0_copyFrom 15 = .ok (.aload_n 1, 1) := by decide +kernel
theorem dX0_copyFrom_16 : decode cX0_copyFrom 16 = .ok (.getfield 15, 3) := by decide +kernel
theorem dX0_copyFrom_19 : decode cX0_copyFrom 19 = .ok (.iconst 0, 1) := by decide +kernel
theorem dX0_copyFrom_20 : decode cX0_copyFrom 20 = .ok (.aload_n 0, 1) := by decide +kernel
theorem dX0_copyFrom_21 : decode cX0_copyFrom 21 = .ok (.getfield 15, 3) := by decide +kernel
theorem dX0_copyFrom_24 : decode cX0_copyFrom 24 = .ok (.iconst 0, 1) := by decide +kernel
theorem dX0_copyFrom_25 : decode cX0_copyFrom 25 = .ok (.bipush 32, 2) := by decide +kernel
theorem dX0_copyFrom_27 : decode cX0_copyFrom 27 = .ok (.invokestatic 21, 3) := by decide +kernel
theorem dX0_copyFrom_30 : decode cX0_copyFrom 30 = .ok (.aload_n 1, 1) := by decide +kernel
theorem dX0_copyFrom_31 : decode cX0_copyFrom 31 = .ok (.getfield 18, 3) := by decide +kernel
theorem dX0_copyFrom_34 : decode cX0_copyFrom 34 = .ok (.iconst 0, 1) := by decide +kernel
theorem dX0_copyFrom_35 : decode cX0_copyFrom 35 = .ok (.aload_n 0, 1) := by decide +kernel
theorem dX0_copyFrom_36 : decode cX0_copyFrom 36 = .ok (.getfield 18, 3) := by decide +kernel
theorem dX0_copyFrom_39 : decode cX0_copyFrom 39 = .ok (.iconst 0, 1) := by decide +kernel
theorem dX0_copyFrom_40 : decode cX0_copyFrom 40 = .ok (.bipush 32, 2) := by decide +kernel
theorem dX0_copyFrom_42 : decode cX0_copyFrom 42 = .ok (.invokestatic 21, 3) := by decide +kernel
theorem dX0_copyFrom_45 : decode cX0_copyFrom 45 = .ok (.return_, 1) := by decide +kernel
theorem dX0_stickerIn_0 : decode cX0_stickerIn 0 = .ok (.iload_n 1, 1) := by decide +kernel
theorem dX0_stickerIn_1 : decode cX0_stickerIn 1 = .ok (.bipush 32, 2) := by decide +kernel
theorem dX0_stickerIn_3 : decode cX0_stickerIn 3 = .ok (.invokestatic 27, 3) := by decide +kernel
theorem dX0_stickerIn_6 : decode cX0_stickerIn 6 = .ok (.ifCond .eq 12, 3) := by decide +kernel
theorem dX0_stickerIn_9 : decode cX0_stickerIn 9 = .ok (.aload_n 0, 1) := by decide +kernel
theorem dX0_stickerIn_10 : decode cX0_stickerIn 10 = .ok (.getfield 9, 3) := by decide +kernel
theorem dX0_stickerIn_13 : decode cX0_stickerIn 13 = .ok (.iload_n 1, 1) := by decide +kernel
theorem dX0_stickerIn_14 : decode cX0_stickerIn 14 = .ok (.iaload, 1) := by decide +kernel
theorem dX0_stickerIn_15 : decode cX0_stickerIn 15 = .ok (.goto 4, 3) := by decide +kernel
theorem dX0_stickerIn_18 : decode cX0_stickerIn 18 = .ok (.iconst (-1), 1) := by decide +kernel
theorem dX0_stickerIn_19 : decode cX0_stickerIn 19 = .ok (.ireturn, 1) := by decide +kernel
theorem dX0_slotOf_0 : decode cX0_slotOf 0 = .ok (.iload_n 1, 1) := by decide +kernel
theorem dX0_slotOf_1 : decode cX0_slotOf 1 = .ok (.bipush 32, 2) := by decide +kernel
theorem dX0_slotOf_3 : decode cX0_slotOf 3 = .ok (.invokestatic 27, 3) := by decide +kernel
theorem dX0_slotOf_6 : decode cX0_slotOf 6 = .ok (.ifCond .eq 12, 3) := by decide +kernel
theorem dX0_slotOf_9 : decode cX0_slotOf 9 = .ok (.aload_n 0, 1) := by decide +kernel
theorem dX0_slotOf_10 : decode cX0_slotOf 10 = .ok (.getfield 15, 3) := by decide +kernel
theorem dX0_slotOf_13 : decode cX0_slotOf 13 = .ok (.iload_n 1, 1) := by decide +kernel
theorem dX0_slotOf_14 : decode cX0_slotOf 14 = .ok (.iaload, 1) := by decide +kernel
theorem dX0_slotOf_15 : decode cX0_slotOf 15 = .ok (.goto 4, 3) := by decide +kernel
theorem dX0_slotOf_18 : decode cX0_slotOf 18 = .ok (.iconst (-1), 1) := by decide +kernel
theorem dX0_slotOf_19 : decode cX0_slotOf 19 = .ok (.ireturn, 1) := by decide +kernel
theorem dX0_colourOf_0 : decode cX0_colourOf 0 = .ok (.iload_n 1, 1) := by decide +kernel
theorem dX0_colourOf_1 : decode cX0_colourOf 1 = .ok (.bipush 32, 2) := by decide +kernel
theorem dX0_colourOf_3 : decode cX0_colourOf 3 = .ok (.invokestatic 27, 3) := by decide +kernel
theorem dX0_colourOf_6 : decode cX0_colourOf 6 = .ok (.ifCond .eq 12, 3) := by decide +kernel
theorem dX0_colourOf_9 : decode cX0_colourOf 9 = .ok (.aload_n 0, 1) := by decide +kernel
theorem dX0_colourOf_10 : decode cX0_colourOf 10 = .ok (.getfield 18, 3) := by decide +kernel
theorem dX0_colourOf_13 : decode cX0_colourOf 13 = .ok (.iload_n 1, 1) := by decide +kernel
theorem dX0_colourOf_14 : decode cX0_colourOf 14 = .ok (.iaload, 1) := by decide +kernel
theorem dX0_colourOf_15 : decode cX0_colourOf 15 = .ok (.goto 4, 3) := by decide +kernel
theorem dX0_colourOf_18 : decode cX0_colourOf 18 = .ok (.iconst (-1), 1) := by decide +kernel
theorem dX0_colourOf_19 : decode cX0_colourOf 19 = .ok (.ireturn, 1) := by decide +kernel
theorem dX0_colourIn_0 : decode cX0_colourIn 0 = .ok (.aload_n 0, 1) := by decide +kernel
theorem dX0_colourIn_1 : decode cX0_colourIn 1 = .ok (.aload_n 0, 1) := by decide +kernel
theorem dX0_colourIn_2 : decode cX0_colourIn 2 = .ok (.iload_n 1, 1) := by decide +kernel
theorem dX0_colourIn_3 : decode cX0_colourIn 3 = .ok (.invokevirtual 31, 3) := by decide +kernel
theorem dX0_colourIn_6 : decode cX0_colourIn 6 = .ok (.invokevirtual 35, 3) := by decide +kernel
theorem dX0_colourIn_9 : decode cX0_colourIn 9 = .ok (.ireturn, 1) := by decide +kernel
theorem dX0_giveColour_0 : decode cX0_giveColour 0 = .ok (.iload_n 1, 1) := by decide +kernel
theorem dX0_giveColour_1 : decode cX0_giveColour 1 = .ok (.bipush 32, 2) := by decide +kernel
theorem dX0_giveColour_3 : decode cX0_giveColour 3 = .ok (.invokestatic 27, 3) := by decide +kernel
theorem dX0_giveColour_6 : decode cX0_giveColour 6 = .ok (.ifCond .eq 10, 3) := by decide +kernel
theorem dX0_giveColour_9 : decode cX0_giveColour 9 = .ok (.aload_n 0, 1) := by decide +kernel
theorem dX0_giveColour_10 : decode cX0_giveColour 10 = .ok (.getfield 18, 3) := by decide +kernel
theorem dX0_giveColour_13 : decode cX0_giveColour 13 = .ok (.iload_n 1, 1) := by decide +kernel
theorem dX0_giveColour_14 : decode cX0_giveColour 14 = .ok (.iload_n 2, 1) := by decide +kernel
theorem dX0_giveColour_15 : decode cX0_giveColour 15 = .ok (.iastore, 1) := by decide +kernel
theorem dX0_giveColour_16 : decode cX0_giveColour 16 = .ok (.return_, 1) := by decide +kernel
theorem dX0_follow_0 : decode cX0_follow 0 = .ok (.iconst 0, 1) := by decide +kernel
theorem dX0_follow_1 : decode cX0_follow 1 = .ok (.istore_n 2, 1) := by decide +kernel
theorem dX0_follow_2 : decode cX0_follow 2 = .ok (.iload_n 2, 1) := by decide +kernel
theorem dX0_follow_3 : decode cX0_follow 3 = .ok (.bipush 32, 2) := by decide +kernel
theorem dX0_follow_5 : decode cX0_follow 5 = .ok (.if_icmp .ge 43, 3) := by decide +kernel
theorem dX0_follow_8 : decode cX0_follow 8 = .ok (.aload_n 1, 1) := by decide +kernel
theorem dX0_follow_9 : decode cX0_follow 9 = .ok (.aload_n 0, 1) := by decide +kernel
theorem dX0_follow_10 : decode cX0_follow 10 = .ok (.getfield 15, 3) := by decide +kernel
theorem dX0_follow_13 : decode cX0_follow 13 = .ok (.iload_n 2, 1) := by decide +kernel
theorem dX0_follow_14 : decode cX0_follow 14 = .ok (.iaload, 1) := by decide +kernel
theorem dX0_follow_15 : decode cX0_follow 15 = .ok (.invokevirtual 38, 3) := by decide +kernel
theorem dX0_follow_18 : decode cX0_follow 18 = .ok (.istore_n 3, 1) := by decide +kernel
theorem dX0_follow_19 : decode cX0_follow 19 = .ok (.aload_n 0, 1) := by decide +kernel
theorem dX0_follow_20 : decode cX0_follow 20 = .ok (.getfield 15, 3) := by decide +kernel
theorem dX0_follow_23 : decode cX0_follow 23 = .ok (.iload_n 2, 1) := by decide +kernel
theorem dX0_follow_24 : decode cX0_follow 24 = .ok (.iload_n 3, 1) := by decide +kernel
theorem dX0_follow_25 : decode cX0_follow 25 = .ok (.iastore, 1) := by decide +kernel
theorem dX0_follow_26 : decode cX0_follow 26 = .ok (.iload_n 3, 1) := by decide +kernel
theorem dX0_follow_27 : decode cX0_follow 27 = .ok (.bipush 32, 2) := by decide +kernel
theorem dX0_follow_29 : decode cX0_follow 29 = .ok (.invokestatic 27, 3) := by decide +kernel
theorem dX0_follow_32 : decode cX0_follow 32 = .ok (.ifCond .eq 10, 3) := by decide +kernel
theorem dX0_follow_35 : decode cX0_follow 35 = .ok (.aload_n 0, 1) := by decide +kernel
theorem dX0_follow_36 : decode cX0_follow 36 = .ok (.getfield 9, 3) := by decide +kernel
theorem dX0_follow_39 : decode cX0_follow 39 = .ok (.iload_n 3, 1) := by decide +kernel
theorem dX0_follow_40 : decode cX0_follow 40 = .ok (.iload_n 2, 1) := by decide +kernel
theorem dX0_follow_41 : decode cX0_follow 41 = .ok (.iastore, 1) := by decide +kernel
theorem dX0_follow_42 : decode cX0_follow 42 = .ok (.iinc 2 1, 3) := by decide +kernel
theorem dX0_follow_45 : decode cX0_follow 45 = .ok (.goto (-43), 3) := by decide +kernel
theorem dX0_follow_48 : decode cX0_follow 48 = .ok (.return_, 1) := by decide +kernel
theorem dX0_countHome_0 : decode cX0_countHome 0 = .ok (.iconst 0, 1) := by decide +kernel
theorem dX0_countHome_1 : decode cX0_countHome 1 = .ok (.istore_n 1, 1) := by decide +kernel
theorem dX0_countHome_2 : decode cX0_countHome 2 = .ok (.iconst 0, 1) := by decide +kernel
theorem dX0_countHome_3 : decode cX0_countHome 3 = .ok (.istore_n 2, 1) := by decide +kernel
theorem dX0_countHome_4 : decode cX0_countHome 4 = .ok (.iload_n 2, 1) := by decide +kernel
theorem dX0_countHome_5 : decode cX0_countHome 5 = .ok (.bipush 32, 2) := by decide +kernel
theorem dX0_countHome_7 : decode cX0_countHome 7 = .ok (.if_icmp .ge 22, 3) := by decide +kernel
theorem dX0_countHome_10 : decode cX0_countHome 10 = .ok (.aload_n 0, 1) := by decide +kernel
theorem dX0_countHome_11 : decode cX0_countHome 11 = .ok (.getfield 9, 3) := by decide +kernel
theorem dX0_countHome_14 : decode cX0_countHome 14 = .ok (.iload_n 2, 1) := by decide +kernel
theorem dX0_countHome_15 : decode cX0_countHome 15 = .ok (.iaload, 1) := by decide +kernel
theorem dX0_countHome_16 : decode cX0_countHome 16 = .ok (.iload_n 2, 1) := by decide +kernel
theorem dX0_countHome_17 : decode cX0_countHome 17 = .ok (.if_icmp .ne 6, 3) := by decide +kernel
theorem dX0_countHome_20 : decode cX0_countHome 20 = .ok (.iinc 1 1, 3) := by decide +kernel
theorem dX0_countHome_23 : decode cX0_countHome 23 = .ok (.iinc 2 1, 3) := by decide +kernel
theorem dX0_countHome_26 : decode cX0_countHome 26 = .ok (.goto (-22), 3) := by decide +kernel
theorem dX0_countHome_29 : decode cX0_countHome 29 = .ok (.iload_n 1, 1) := by decide +kernel
theorem dX0_countHome_30 : decode cX0_countHome 30 = .ok (.ireturn, 1) := by decide +kernel
theorem dX0_hasOneColour_0 : decode cX0_hasOneColour 0 = .ok (.aload_n 0, 1) := by decide +kernel
theorem dX0_hasOneColour_1 : decode cX0_hasOneColour 1 = .ok (.iload_n 1, 1) := by decide +kernel
theorem dX0_hasOneColour_2 : decode cX0_hasOneColour 2 = .ok (.bipush 8, 2) := by decide +kernel
theorem dX0_hasOneColour_4 : decode cX0_hasOneColour 4 = .ok (.imul, 1) := by decide +kernel
theorem dX0_hasOneColour_5 : decode cX0_hasOneColour 5 = .ok (.invokevirtual 43, 3) := by decide +kernel
theorem dX0_hasOneColour_8 : decode cX0_hasOneColour 8 = .ok (.istore_n 2, 1) := by decide +kernel
theorem dX0_hasOneColour_9 : decode cX0_hasOneColour 9 = .ok (.iconst 1, 1) := by decide +kernel
theorem dX0_hasOneColour_10 : decode cX0_hasOneColour 10 = .ok (.istore_n 3, 1) := by decide +kernel
theorem dX0_hasOneColour_11 : decode cX0_hasOneColour 11 = .ok (.iload_n 3, 1) := by decide +kernel
theorem dX0_hasOneColour_12 : decode cX0_hasOneColour 12 = .ok (.bipush 8, 2) := by decide +kernel
theorem dX0_hasOneColour_14 : decode cX0_hasOneColour 14 = .ok (.if_icmp .ge 25, 3) := by decide +kernel
theorem dX0_hasOneColour_17 : decode cX0_hasOneColour 17 = .ok (.aload_n 0, 1) := by decide +kernel
theorem dX0_hasOneColour_18 : decode cX0_hasOneColour 18 = .ok (.iload_n 1, 1) := by decide +kernel
theorem dX0_hasOneColour_19 : decode cX0_hasOneColour 19 = .ok (.bipush 8, 2) := by decide +kernel
theorem dX0_hasOneColour_21 : decode cX0_hasOneColour 21 = .ok (.imul, 1) := by decide +kernel
theorem dX0_hasOneColour_22 : decode cX0_hasOneColour 22 = .ok (.iload_n 3, 1) := by decide +kernel
theorem dX0_hasOneColour_23 : decode cX0_hasOneColour 23 = .ok (.iadd, 1) := by decide +kernel
theorem dX0_hasOneColour_24 : decode cX0_hasOneColour 24 = .ok (.invokevirtual 43, 3) := by decide +kernel
theorem dX0_hasOneColour_27 : decode cX0_hasOneColour 27 = .ok (.iload_n 2, 1) := by decide +kernel
theorem dX0_hasOneColour_28 : decode cX0_hasOneColour 28 = .ok (.if_icmp .eq 5, 3) := by decide +kernel
theorem dX0_hasOneColour_31 : decode cX0_hasOneColour 31 = .ok (.iconst 0, 1) := by decide +kernel
theorem dX0_hasOneColour_32 : decode cX0_hasOneColour 32 = .ok (.ireturn, 1) := by decide +kernel
theorem dX0_hasOneColour_33 : decode cX0_hasOneColour 33 = .ok (.iinc 3 1, 3) := by decide +kernel
theorem dX0_hasOneColour_36 : decode cX0_hasOneColour 36 = .ok (.goto (-25), 3) := by decide +kernel
theorem dX0_hasOneColour_39 : decode cX0_hasOneColour 39 = .ok (.iconst 1, 1) := by decide +kernel
theorem dX0_hasOneColour_40 : decode cX0_hasOneColour 40 = .ok (.ireturn, 1) := by decide +kernel
theorem dX0_countDone_0 : decode cX0_countDone 0 = .ok (.iconst 0, 1) := by decide +kernel
theorem dX0_countDone_1 : decode cX0_countDone 1 = .ok (.istore_n 1, 1) := by decide +kernel
theorem dX0_countDone_2 : decode cX0_countDone 2 = .ok (.iconst 0, 1) := by decide +kernel
theorem dX0_countDone_3 : decode cX0_countDone 3 = .ok (.istore_n 2, 1) := by decide +kernel
theorem dX0_countDone_4 : decode cX0_countDone 4 = .ok (.iload_n 2, 1) := by decide +kernel
theorem dX0_countDone_5 : decode cX0_countDone 5 = .ok (.iconst 4, 1) := by decide +kernel
theorem dX0_countDone_6 : decode cX0_countDone 6 = .ok (.if_icmp .ge 20, 3) := by decide +kernel
theorem dX0_countDone_9 : decode cX0_countDone 9 = .ok (.aload_n 0, 1) := by decide +kernel
theorem dX0_countDone_10 : decode cX0_countDone 10 = .ok (.iload_n 2, 1) := by decide +kernel
theorem dX0_countDone_11 : decode cX0_countDone 11 = .ok (.invokevirtual 46, 3) := by decide +kernel
theorem dX0_countDone_14 : decode cX0_countDone 14 = .ok (.ifCond .eq 6, 3) := by decide +kernel
theorem dX0_countDone_17 : decode cX0_countDone 17 = .ok (.iinc 1 1, 3) := by decide +kernel
theorem dX0_countDone_20 : decode cX0_countDone 20 = .ok (.iinc 2 1, 3) := by decide +kernel
theorem dX0_countDone_23 : decode cX0_countDone 23 = .ok (.goto (-19), 3) := by decide +kernel
theorem dX0_countDone_26 : decode cX0_countDone 26 = .ok (.iload_n 1, 1) := by decide +kernel
theorem dX0_countDone_27 : decode cX0_countDone 27 = .ok (.ireturn, 1) := by decide +kernel
theorem dX0_countSeams_0 : decode cX0_countSeams 0 = .ok (.iconst 0, 1) := by decide +kernel
theorem dX0_countSeams_1 : decode cX0_countSeams 1 = .ok (.istore_n 1, 1) := by decide +kernel
theorem dX0_countSeams_2 : decode cX0_countSeams 2 = .ok (.iconst 0, 1) := by decide +kernel
theorem dX0_countSeams_3 : decode cX0_countSeams 3 = .ok (.istore_n 2, 1) := by decide +kernel
theorem dX0_countSeams_4 : decode cX0_countSeams 4 = .ok (.iload_n 2, 1) := by decide +kernel
theorem dX0_countSeams_5 : decode cX0_countSeams 5 = .ok (.bipush 32, 2) := by decide +kernel
theorem dX0_countSeams_7 : decode cX0_countSeams 7 = .ok (.if_icmp .ge 65, 3) := by decide +kernel
theorem dX0_countSeams_10 : decode cX0_countSeams 10 = .ok (.iload_n 2, 1) := by decide +kernel
theorem dX0_countSeams_11 : decode cX0_countSeams 11 = .ok (.iload_n 2, 1) := by decide +kernel
theorem dX0_countSeams_12 : decode cX0_countSeams 12 = .ok (.bipush 8, 2) := by decide +kernel
theorem dX0_countSeams_14 : decode cX0_countSeams 14 = .ok (.irem, 1) := by decide +kernel
theorem dX0_countSeams_15 : decode cX0_countSeams 15 = .ok (.isub, 1) := by decide +kernel
theorem dX0_countSeams_16 : decode cX0_countSeams 16 = .ok (.iload_n 2, 1) := by decide +kernel
theorem dX0_countSeams_17 : decode cX0_countSeams 17 = .ok (.iconst 1, 1) := by decide +kernel
theorem dX0_countSeams_18 : decode cX0_countSeams 18 = .ok (.iadd, 1) := by decide +kernel
theorem dX0_countSeams_19 : decode cX0_countSeams 19 = .ok (.bipush 8, 2) := by decide +kernel
theorem dX0_countSeams_21 : decode cX0_countSeams 21 = .ok (.irem, 1) := by decide +kernel
theorem dX0_countSeams_22 : decode cX0_countSeams 22 = .ok (.iadd, 1) := by decide +kernel
theorem dX0_countSeams_23 : decode cX0_countSeams 23 = .ok (.istore_n 3, 1) := by decide +kernel
theorem dX0_countSeams_24 : decode cX0_countSeams 24 = .ok (.iload_n 2, 1) := by decide +kernel
theorem dX0_countSeams_25 : decode cX0_countSeams 25 = .ok (.bipush 8, 2) := by decide +kernel
theorem dX0_countSeams_27 : decode cX0_countSeams 27 = .ok (.iadd, 1) := by decide +kernel
theorem dX0_countSeams_28 : decode cX0_countSeams 28 = .ok (.bipush 32, 2) := by decide +kernel
theorem dX0_countSeams_30 : decode cX0_countSeams 30 = .ok (.irem, 1) := by decide +kernel
theorem dX0_countSeams_31 : decode cX0_countSeams 31 = .ok (.istore 4, 2) := by decide +kernel
theorem dX0_countSeams_33 : decode cX0_countSeams 33 = .ok (.aload_n 0, 1) := by decide +kernel
theorem dX0_countSeams_34 : decode cX0_countSeams 34 = .ok (.iload_n 2, 1) := by decide +kernel
theorem dX0_countSeams_35 : decode cX0_countSeams 35 = .ok (.invokevirtual 43, 3) := by decide +kernel
theorem dX0_countSeams_38 : decode cX0_countSeams 38 = .ok (.aload_n 0, 1) := by decide +kernel
theorem dX0_countSeams_39 : decode cX0_countSeams 39 = .ok (.iload_n 3, 1) := by decide +kernel
theorem dX0_countSeams_40 : decode cX0_countSeams 40 = .ok (.invokevirtual 43, 3) := by decide +kernel
theorem dX0_countSeams_43 : decode cX0_countSeams 43 = .ok (.if_icmp .eq 6, 3) := by decide +kernel
theorem dX0_countSeams_46 : decode cX0_countSeams 46 = .ok (.iinc 1 1, 3) := by decide +kernel
theorem dX0_countSeams_49 : decode cX0_countSeams 49 = .ok (.aload_n 0, 1) := by decide +kernel
theorem dX0_countSeams_50 : decode cX0_countSeams 50 = .ok (.iload_n 2, 1) := by decide +kernel
theorem dX0_countSeams_51 : decode cX0_countSeams 51 = .ok (.invokevirtual 43, 3) := by decide +kernel
theorem dX0_countSeams_54 : decode cX0_countSeams 54 = .ok (.aload_n 0, 1) := by decide +kernel
theorem dX0_countSeams_55 : decode cX0_countSeams 55 = .ok (.iload 4, 2) := by decide +kernel
theorem dX0_countSeams_57 : decode cX0_countSeams 57 = .ok (.invokevirtual 43, 3) := by decide +kernel
theorem dX0_countSeams_60 : decode cX0_countSeams 60 = .ok (.if_icmp .eq 6, 3) := by decide +kernel
theorem dX0_countSeams_63 : decode cX0_countSeams 63 = .ok (.iinc 1 1, 3) := by decide +kernel
theorem dX0_countSeams_66 : decode cX0_countSeams 66 = .ok (.iinc 2 1, 3) := by decide +kernel
theorem dX0_countSeams_69 : decode cX0_countSeams 69 = .ok (.goto (-65), 3) := by decide +kernel
theorem dX0_countSeams_72 : decode cX0_countSeams 72 = .ok (.iload_n 1, 1) := by decide +kernel
theorem dX0_countSeams_73 : decode cX0_countSeams 73 = .ok (.ireturn, 1) := by decide +kernel
theorem dX0_movesToHomes_0 : decode cX0_movesToHomes 0 = .ok (.iconst 0, 1) := by decide +kernel
theorem dX0_movesToHomes_1 : decode cX0_movesToHomes 1 = .ok (.istore_n 1, 1) := by decide +kernel
theorem dX0_movesToHomes_2 : decode cX0_movesToHomes 2 = .ok (.iconst 0, 1) := by decide +kernel
theorem dX0_movesToHomes_3 : decode cX0_movesToHomes 3 = .ok (.istore_n 2, 1) := by decide +kernel
theorem dX0_movesToHomes_4 : decode cX0_movesToHomes 4 = .ok (.iload_n 2, 1) := by decide +kernel
theorem dX0_movesToHomes_5 : decode cX0_movesToHomes 5 = .ok (.bipush 32, 2) := by decide +kernel
theorem dX0_movesToHomes_7 : decode cX0_movesToHomes 7 = .ok (.if_icmp .ge 22, 3) := by decide +kernel
theorem dX0_movesToHomes_10 : decode cX0_movesToHomes 10 = .ok (.iload_n 1, 1) := by decide +kernel
theorem dX0_movesToHomes_11 : decode cX0_movesToHomes 11 = .ok (.aload_n 0, 1) := by decide +kernel
theorem dX0_movesToHomes_12 : decode cX0_movesToHomes 12 = .ok (.getfield 15, 3) := by decide +kernel
theorem dX0_movesToHomes_15 : decode cX0_movesToHomes 15 = .ok (.iload_n 2, 1) := by decide +kernel
theorem dX0_movesToHomes_16 : decode cX0_movesToHomes 16 = .ok (.iaload, 1) := by decide +kernel
theorem dX0_movesToHomes_17 : decode cX0_movesToHomes 17 = .ok (.iload_n 2, 1) := by decide +kernel
theorem dX0_movesToHomes_18 : decode cX0_movesToHomes 18 = .ok (.invokestatic 50, 3) := by decide +kernel
theorem dX0_movesToHomes_21 : decode cX0_movesToHomes 21 = .ok (.iadd, 1) := by decide +kernel
theorem dX0_movesToHomes_22 : decode cX0_movesToHomes 22 = .ok (.istore_n 1, 1) := by decide +kernel
theorem dX0_movesToHomes_23 : decode cX0_movesToHomes 23 = .ok (.iinc 2 1, 3) := by decide +kernel
theorem dX0_movesToHomes_26 : decode cX0_movesToHomes 26 = .ok (.goto (-22), 3) := by decide +kernel
theorem dX0_movesToHomes_29 : decode cX0_movesToHomes 29 = .ok (.iload_n 1, 1) := by decide +kernel
theorem dX0_movesToHomes_30 : decode cX0_movesToHomes 30 = .ok (.ireturn, 1) := by decide +kernel
theorem dX0_isEachWhereTold_0 : decode cX0_isEachWhereTold 0 = .ok (.iconst 0, 1) := by decide +kernel
theorem dX0_isEachWhereTold_1 : decode cX0_isEachWhereTold 1 = .ok (.istore_n 1, 1) := by decide +kernel
theorem dX0_isEachWhereTold_2 : decode cX0_isEachWhereTold 2 = .ok (.iload_n 1, 1) := by decide +kernel
theorem dX0_isEachWhereTold_3 : decode cX0_isEachWhereTold 3 = .ok (.bipush 32, 2) := by decide +kernel
theorem dX0_isEachWhereTold_5 : decode cX0_isEachWhereTold 5 = .ok (.if_icmp .ge 59, 3) := by decide +kernel
theorem dX0_isEachWhereTold_8 : decode cX0_isEachWhereTold 8 = .ok (.iconst 0, 1) := by decide +kernel
theorem dX0_isEachWhereTold_9 : decode cX0_isEachWhereTold 9 = .ok (.istore_n 2, 1) := by decide +kernel
theorem dX0_isEachWhereTold_10 : decode cX0_isEachWhereTold 10 = .ok (.iconst 0, 1) := by decide +kernel
theorem dX0_isEachWhereTold_11 : decode cX0_isEachWhereTold 11 = .ok (.istore_n 3, 1) := by decide +kernel
theorem dX0_isEachWhereTold_12 : decode cX0_isEachWhereTold 12 = .ok (.iload_n 3, 1) := by decide +kernel
theorem dX0_isEachWhereTold_13 : decode cX0_isEachWhereTold 13 = .ok (.bipush 32, 2) := by decide +kernel
theorem dX0_isEachWhereTold_15 : decode cX0_isEachWhereTold 15 = .ok (.if_icmp .ge 22, 3) := by decide +kernel
theorem dX0_isEachWhereTold_18 : decode cX0_isEachWhereTold 18 = .ok (.aload_n 0, 1) := by decide +kernel
theorem dX0_isEachWhereTold_19 : decode cX0_isEachWhereTold 19 = .ok (.getfield 9, 3) := by decide +kernel
theorem dX0_isEachWhereTold_22 : decode cX0_isEachWhereTold 22 = .ok (.iload_n 3, 1) := by decide +kernel
theorem dX0_isEachWhereTold_23 : decode cX0_isEachWhereTold 23 = .ok (.iaload, 1) := by decide +kernel
theorem dX0_isEachWhereTold_24 : decode cX0_isEachWhereTold 24 = .ok (.iload_n 1, 1) := by decide +kernel
theorem dX0_isEachWhereTold_25 : decode cX0_isEachWhereTold 25 = .ok (.if_icmp .ne 6, 3) := by decide +kernel
theorem dX0_isEachWhereTold_28 : decode cX0_isEachWhereTold 28 = .ok (.iinc 2 1, 3) := by decide +kernel
theorem dX0_isEachWhereTold_31 : decode cX0_isEachWhereTold 31 = .ok (.iinc 3 1, 3) := by decide +kernel
theorem dX0_isEachWhereTold_34 : decode cX0_isEachWhereTold 34 = .ok (.goto (-22), 3) := by decide +kernel
theorem dX0_isEachWhereTold_37 : decode cX0_isEachWhereTold 37 = .ok (.iload_n 2, 1) := by decide +kernel
theorem dX0_isEachWhereTold_38 : decode cX0_isEachWhereTold 38 = .ok (.iconst 1, 1) := by decide +kernel
theorem dX0_isEachWhereTold_39 : decode cX0_isEachWhereTold 39 = .ok (.if_icmp .ne 17, 3) := by decide +kernel
theorem dX0_isEachWhereTold_42 : decode cX0_isEachWhereTold 42 = .ok (.aload_n 0, 1) := by decide +kernel
theorem dX0_isEachWhereTold_43 : decode cX0_isEachWhereTold 43 = .ok (.aload_n 0, 1) := by decide +kernel
theorem dX0_isEachWhereTold_44 : decode cX0_isEachWhereTold 44 = .ok (.getfield 15, 3) := by decide +kernel
theorem dX0_isEachWhereTold_47 : decode cX0_isEachWhereTold 47 = .ok (.iload_n 1, 1) := by decide +kernel
theorem dX0_isEachWhereTold_48 : decode cX0_isEachWhereTold 48 = .ok (.iaload, 1) := by decide +kernel
theorem dX0_isEachWhereTold_49 : decode cX0_isEachWhereTold 49 = .ok (.invokevirtual 31, 3) := by decide +kernel
theorem dX0_isEachWhereTold_52 : decode cX0_isEachWhereTold 52 = .ok (.iload_n 1, 1) := by decide +kernel
theorem dX0_isEachWhereTold_53 : decode cX0_isEachWhereTold 53 = .ok (.if_icmp .eq 5, 3) := by decide +kernel
theorem dX0_isEachWhereTold_56 : decode cX0_isEachWhereTold 56 = .ok (.iconst 0, 1) := by decide +kernel
theorem dX0_isEachWhereTold_57 : decode cX0_isEachWhereTold 57 = .ok (.ireturn, 1) := by decide +kernel
theorem dX0_isEachWhereTold_58 : decode cX0_isEachWhereTold 58 = .ok (.iinc 1 1, 3) := by decide +kernel
theorem dX0_isEachWhereTold_61 : decode cX0_isEachWhereTold 61 = .ok (.goto (-59), 3) := by decide +kernel
theorem dX0_isEachWhereTold_64 : decode cX0_isEachWhereTold 64 = .ok (.iconst 1, 1) := by decide +kernel
theorem dX0_isEachWhereTold_65 : decode cX0_isEachWhereTold 65 = .ok (.ireturn, 1) := by decide +kernel
