/-! ===== printed: decode rows of L ===== -/
theorem dL_cell_0 : decode cL_cell 0 = .ok (.iload_n 1, 1) := by decide +kernel
theorem dL_cell_1 : decode cL_cell 1 = .ok (.aload_n 0, 1) := by decide +kernel
theorem dL_cell_2 : decode cL_cell 2 = .ok (.arraylength, 1) := by decide +kernel
theorem dL_cell_3 : decode cL_cell 3 = .ok (.if_icmp .ge 9, 3) := by decide +kernel
theorem dL_cell_6 : decode cL_cell 6 = .ok (.aload_n 0, 1) := by decide +kernel
theorem dL_cell_7 : decode cL_cell 7 = .ok (.iload_n 1, 1) := by decide +kernel
theorem dL_cell_8 : decode cL_cell 8 = .ok (.iaload, 1) := by decide +kernel
theorem dL_cell_9 : decode cL_cell 9 = .ok (.goto 7, 3) := by decide +kernel
theorem dL_cell_12 : decode cL_cell 12 = .ok (.ldc 7, 2) := by decide +kernel
theorem dL_cell_14 : decode cL_cell 14 = .ok (.iload_n 1, 1) := by decide +kernel
theorem dL_cell_15 : decode cL_cell 15 = .ok (.imul, 1) := by decide +kernel
theorem dL_cell_16 : decode cL_cell 16 = .ok (.ireturn, 1) := by decide +kernel
theorem dL_turn_0 : decode cL_turn 0 = .ok (.aload_n 0, 1) := by decide +kernel
theorem dL_turn_1 : decode cL_turn 1 = .ok (.iload_n 1, 1) := by decide +kernel
theorem dL_turn_2 : decode cL_turn 2 = .ok (.iload_n 2, 1) := by decide +kernel
theorem dL_turn_3 : decode cL_turn 3 = .ok (.invokevirtual 8, 3) := by decide +kernel
theorem dL_turn_6 : decode cL_turn 6 = .ok (.ireturn, 1) := by decide +kernel
theorem dL_turn_7 : decode cL_turn 7 = .ok (.astore_n 3, 1) := by decide +kernel
theorem dL_turn_8 : decode cL_turn 8 = .ok (.iconst (-1), 1) := by decide +kernel
theorem dL_turn_9 : decode cL_turn 9 = .ok (.ireturn, 1) := by decide +kernel
theorem dL_turn_10 : decode cL_turn 10 = .ok (.astore_n 3, 1) := by decide +kernel
theorem dL_turn_11 : decode cL_turn 11 = .ok (.bipush (-2), 2) := by decide +kernel
theorem dL_turn_13 : decode cL_turn 13 = .ok (.ireturn, 1) := by decide +kernel
theorem dL_shift_0 : decode cL_shift 0 = .ok (.aload_n 0, 1) := by decide +kernel
theorem dL_shift_1 : decode cL_shift 1 = .ok (.iload_n 1, 1) := by decide +kernel
theorem dL_shift_2 : decode cL_shift 2 = .ok (.iload_n 2, 1) := by decide +kernel
theorem dL_shift_3 : decode cL_shift 3 = .ok (.invokevirtual 18, 3) := by decide +kernel
theorem dL_shift_6 : decode cL_shift 6 = .ok (.ireturn, 1) := by decide +kernel
theorem dL_shift_7 : decode cL_shift 7 = .ok (.astore_n 3, 1) := by decide +kernel
theorem dL_shift_8 : decode cL_shift 8 = .ok (.iconst (-1), 1) := by decide +kernel
theorem dL_shift_9 : decode cL_shift 9 = .ok (.ireturn, 1) := by decide +kernel
theorem dL_shift_10 : decode cL_shift 10 = .ok (.astore_n 3, 1) := by decide +kernel
theorem dL_shift_11 : decode cL_shift 11 = .ok (.bipush (-2), 2) := by decide +kernel
theorem dL_shift_13 : decode cL_shift 13 = .ok (.ireturn, 1) := by decide +kernel
theorem dL_back_0 : decode cL_back 0 = .ok (.aload_n 0, 1) := by decide +kernel
theorem dL_back_1 : decode cL_back 1 = .ok (.invokevirtual 21, 3) := by decide +kernel
theorem dL_back_4 : decode cL_back 4 = .ok (.ireturn, 1) := by decide +kernel
theorem dL_back_5 : decode cL_back 5 = .ok (.astore_n 1, 1) := by decide +kernel
theorem dL_back_6 : decode cL_back 6 = .ok (.iconst (-1), 1) := by decide +kernel
theorem dL_back_7 : decode cL_back 7 = .ok (.ireturn, 1) := by decide +kernel
theorem dL_scramble_0 : decode cL_scramble 0 = .ok (.aload_n 0, 1) := by decide +kernel
theorem dL_scramble_1 : decode cL_scramble 1 = .ok (.iload_n 1, 1) := by decide +kernel
theorem dL_scramble_2 : decode cL_scramble 2 = .ok (.iload_n 2, 1) := by decide +kernel
theorem dL_scramble_3 : decode cL_scramble 3 = .ok (.invokevirtual 27, 3) := by decide +kernel
theorem dL_scramble_6 : decode cL_scramble 6 = .ok (.ireturn, 1) := by decide +kernel
theorem dL_scramble_7 : decode cL_scramble 7 = .ok (.astore_n 3, 1) := by decide +kernel
theorem dL_scramble_8 : decode cL_scramble 8 = .ok (.iconst (-1), 1) := by decide +kernel
theorem dL_scramble_9 : decode cL_scramble 9 = .ok (.ireturn, 1) := by decide +kernel
theorem dL_logOf_0 : decode cL_logOf 0 = .ok (.aload_n 0, 1) := by decide +kernel
theorem dL_logOf_1 : decode cL_logOf 1 = .ok (.iload_n 1, 1) := by decide +kernel
theorem dL_logOf_2 : decode cL_logOf 2 = .ok (.iload_n 2, 1) := by decide +kernel
theorem dL_logOf_3 : decode cL_logOf 3 = .ok (.invokevirtual 30, 3) := by decide +kernel
theorem dL_logOf_6 : decode cL_logOf 6 = .ok (.ireturn, 1) := by decide +kernel
theorem dL_logOf_7 : decode cL_logOf 7 = .ok (.astore_n 3, 1) := by decide +kernel
theorem dL_logOf_8 : decode cL_logOf 8 = .ok (.bipush (-11), 2) := by decide +kernel
theorem dL_logOf_10 : decode cL_logOf 10 = .ok (.ireturn, 1) := by decide +kernel
theorem dL_logOf_11 : decode cL_logOf 11 = .ok (.astore_n 3, 1) := by decide +kernel
theorem dL_logOf_12 : decode cL_logOf 12 = .ok (.bipush (-12), 2) := by decide +kernel
theorem dL_logOf_14 : decode cL_logOf 14 = .ok (.ireturn, 1) := by decide +kernel
theorem dL_at_0 : decode cL_at 0 = .ok (.aload_n 0, 1) := by decide +kernel
theorem dL_at_1 : decode cL_at 1 = .ok (.iload_n 1, 1) := by decide +kernel
theorem dL_at_2 : decode cL_at 2 = .ok (.invokevirtual 33, 3) := by decide +kernel
theorem dL_at_5 : decode cL_at 5 = .ok (.ireturn, 1) := by decide +kernel
theorem dL_at_6 : decode cL_at 6 = .ok (.astore_n 2, 1) := by decide +kernel
theorem dL_at_7 : decode cL_at 7 = .ok (.bipush (-11), 2) := by decide +kernel
theorem dL_at_9 : decode cL_at 9 = .ok (.ireturn, 1) := by decide +kernel
theorem dL_where_0 : decode cL_where 0 = .ok (.aload_n 0, 1) := by decide +kernel
theorem dL_where_1 : decode cL_where 1 = .ok (.iload_n 1, 1) := by decide +kernel
theorem dL_where_2 : decode cL_where 2 = .ok (.invokevirtual 37, 3) := by decide +kernel
theorem dL_where_5 : decode cL_where 5 = .ok (.ireturn, 1) := by decide +kernel
theorem dL_where_6 : decode cL_where 6 = .ok (.astore_n 2, 1) := by decide +kernel
theorem dL_where_7 : decode cL_where 7 = .ok (.bipush (-11), 2) := by decide +kernel
theorem dL_where_9 : decode cL_where 9 = .ok (.ireturn, 1) := by decide +kernel
theorem dL_paint_0 : decode cL_paint 0 = .ok (.aload_n 0, 1) := by decide +kernel
theorem dL_paint_1 : decode cL_paint 1 = .ok (.iload_n 1, 1) := by decide +kernel
theorem dL_paint_2 : decode cL_paint 2 = .ok (.iload_n 2, 1) := by decide +kernel
theorem dL_paint_3 : decode cL_paint 3 = .ok (.invokevirtual 40, 3) := by decide +kernel
theorem dL_paint_6 : decode cL_paint 6 = .ok (.ireturn, 1) := by decide +kernel
theorem dL_paint_7 : decode cL_paint 7 = .ok (.astore_n 3, 1) := by decide +kernel
theorem dL_paint_8 : decode cL_paint 8 = .ok (.iconst (-1), 1) := by decide +kernel
theorem dL_paint_9 : decode cL_paint 9 = .ok (.ireturn, 1) := by decide +kernel
theorem dL_paint_10 : decode cL_paint 10 = .ok (.astore_n 3, 1) := by decide +kernel
theorem dL_paint_11 : decode cL_paint 11 = .ok (.bipush (-2), 2) := by decide +kernel
theorem dL_paint_13 : decode cL_paint 13 = .ok (.ireturn, 1) := by decide +kernel
theorem dL_paint_14 : decode cL_paint 14 = .ok (.astore_n 3, 1) := by decide +kernel
theorem dL_paint_15 : decode cL_paint 15 = .ok (.bipush (-3), 2) := by decide +kernel
theorem dL_paint_17 : decode cL_paint 17 = .ok (.ireturn, 1) := by decide +kernel
theorem dL_colour_0 : decode cL_colour 0 = .ok (.aload_n 0, 1) := by decide +kernel
theorem dL_colour_1 : decode cL_colour 1 = .ok (.iload_n 1, 1) := by decide +kernel
theorem dL_colour_2 : decode cL_colour 2 = .ok (.invokevirtual 43, 3) := by decide +kernel
theorem dL_colour_5 : decode cL_colour 5 = .ok (.ireturn, 1) := by decide +kernel
theorem dL_colour_6 : decode cL_colour 6 = .ok (.astore_n 2, 1) := by decide +kernel
theorem dL_colour_7 : decode cL_colour 7 = .ok (.bipush (-11), 2) := by decide +kernel
theorem dL_colour_9 : decode cL_colour 9 = .ok (.ireturn, 1) := by decide +kernel
theorem dL_isDone_0 : decode cL_isDone 0 = .ok (.aload_n 0, 1) := by decide +kernel
theorem dL_isDone_1 : decode cL_isDone 1 = .ok (.iload_n 1, 1) := by decide +kernel
theorem dL_isDone_2 : decode cL_isDone 2 = .ok (.invokevirtual 46, 3) := by decide +kernel
theorem dL_isDone_5 : decode cL_isDone 5 = .ok (.ifCond .eq 7, 3) := by decide +kernel
theorem dL_isDone_8 : decode cL_isDone 8 = .ok (.iconst 1, 1) := by decide +kernel
theorem dL_isDone_9 : decode cL_isDone 9 = .ok (.goto 4, 3) := by decide +kernel
theorem dL_isDone_12 : decode cL_isDone 12 = .ok (.iconst 0, 1) := by decide +kernel
theorem dL_isDone_13 : decode cL_isDone 13 = .ok (.ireturn, 1) := by decide +kernel
theorem dL_isDone_14 : decode cL_isDone 14 = .ok (.astore_n 2, 1) := by decide +kernel
theorem dL_isDone_15 : decode cL_isDone 15 = .ok (.bipush (-11), 2) := by decide +kernel
theorem dL_isDone_17 : decode cL_isDone 17 = .ok (.ireturn, 1) := by decide +kernel
theorem dL_fewest_0 : decode cL_fewest 0 = .ok (.aload_n 0, 1) := by decide +kernel
theorem dL_fewest_1 : decode cL_fewest 1 = .ok (.iload_n 1, 1) := by decide +kernel
theorem dL_fewest_2 : decode cL_fewest 2 = .ok (.iload_n 2, 1) := by decide +kernel
theorem dL_fewest_3 : decode cL_fewest 3 = .ok (.invokevirtual 50, 3) := by decide +kernel
theorem dL_fewest_6 : decode cL_fewest 6 = .ok (.ireturn, 1) := by decide +kernel
theorem dL_fewest_7 : decode cL_fewest 7 = .ok (.astore_n 3, 1) := by decide +kernel
theorem dL_fewest_8 : decode cL_fewest 8 = .ok (.bipush (-11), 2) := by decide +kernel
theorem dL_fewest_10 : decode cL_fewest 10 = .ok (.ireturn, 1) := by decide +kernel
theorem dL_learns_0 : decode cL_learns 0 = .ok (.aload_n 0, 1) := by decide +kernel
theorem dL_learns_1 : decode cL_learns 1 = .ok (.iload_n 1, 1) := by decide +kernel
theorem dL_learns_2 : decode cL_learns 2 = .ok (.invokevirtual 53, 3) := by decide +kernel
theorem dL_learns_5 : decode cL_learns 5 = .ok (.ireturn, 1) := by decide +kernel
theorem dL_learns_6 : decode cL_learns 6 = .ok (.astore_n 2, 1) := by decide +kernel
theorem dL_learns_7 : decode cL_learns 7 = .ok (.iconst (-1), 1) := by decide +kernel
theorem dL_learns_8 : decode cL_learns 8 = .ok (.ireturn, 1) := by decide +kernel
theorem dL_learns_9 : decode cL_learns 9 = .ok (.astore_n 2, 1) := by decide +kernel
theorem dL_learns_10 : decode cL_learns 10 = .ok (.bipush (-2), 2) := by decide +kernel
theorem dL_learns_12 : decode cL_learns 12 = .ok (.ireturn, 1) := by decide +kernel
theorem dL_learns_13 : decode cL_learns 13 = .ok (.astore_n 2, 1) := by decide +kernel
theorem dL_learns_14 : decode cL_learns 14 = .ok (.bipush (-3), 2) := by decide +kernel
theorem dL_learns_16 : decode cL_learns 16 = .ok (.ireturn, 1) := by decide +kernel
theorem dL_use_0 : decode cL_use 0 = .ok (.aload_n 0, 1) := by decide +kernel
theorem dL_use_1 : decode cL_use 1 = .ok (.iload_n 1, 1) := by decide +kernel
theorem dL_use_2 : decode cL_use 2 = .ok (.iload_n 2, 1) := by decide +kernel
theorem dL_use_3 : decode cL_use 3 = .ok (.invokevirtual 56, 3) := by decide +kernel
theorem dL_use_6 : decode cL_use 6 = .ok (.ireturn, 1) := by decide +kernel
theorem dL_use_7 : decode cL_use 7 = .ok (.astore_n 3, 1) := by decide +kernel
theorem dL_use_8 : decode cL_use 8 = .ok (.iconst (-1), 1) := by decide +kernel
theorem dL_use_9 : decode cL_use 9 = .ok (.ireturn, 1) := by decide +kernel
theorem dL_use_10 : decode cL_use 10 = .ok (.astore_n 3, 1) := by decide +kernel
theorem dL_use_11 : decode cL_use 11 = .ok (.bipush (-2), 2) := by decide +kernel
theorem dL_use_13 : decode cL_use 13 = .ok (.ireturn, 1) := by decide +kernel
theorem dL_use_14 : decode cL_use 14 = .ok (.astore_n 3, 1) := by decide +kernel
theorem dL_use_15 : decode cL_use 15 = .ok (.bipush (-3), 2) := by decide +kernel
theorem dL_use_17 : decode cL_use 17 = .ok (.ireturn, 1) := by decide +kernel
theorem dL_join_0 : decode cL_join 0 = .ok (.aload_n 0, 1) := by decide +kernel
theorem dL_join_1 : decode cL_join 1 = .ok (.iload_n 1, 1) := by decide +kernel
theorem dL_join_2 : decode cL_join 2 = .ok (.iload_n 2, 1) := by decide +kernel
theorem dL_join_3 : decode cL_join 3 = .ok (.iload_n 3, 1) := by decide +kernel
theorem dL_join_4 : decode cL_join 4 = .ok (.invokevirtual 59, 3) := by decide +kernel
theorem dL_join_7 : decode cL_join 7 = .ok (.ireturn, 1) := by decide +kernel
theorem dL_join_8 : decode cL_join 8 = .ok (.astore 4, 2) := by decide +kernel
theorem dL_join_10 : decode cL_join 10 = .ok (.iconst (-1), 1) := by decide +kernel
theorem dL_join_11 : decode cL_join 11 = .ok (.ireturn, 1) := by decide +kernel
theorem dL_join_12 : decode cL_join 12 = .ok (.astore 4, 2) := by decide +kernel
theorem dL_join_14 : decode cL_join 14 = .ok (.bipush (-2), 2) := by decide +kernel
theorem dL_join_16 : decode cL_join 16 = .ok (.ireturn, 1) := by decide +kernel
theorem dL_invert_0 : decode cL_invert 0 = .ok (.aload_n 0, 1) := by decide +kernel
theorem dL_invert_1 : decode cL_invert 1 = .ok (.iload_n 1, 1) := by decide +kernel
theorem dL_invert_2 : decode cL_invert 2 = .ok (.iload_n 2, 1) := by decide +kernel
theorem dL_invert_3 : decode cL_invert 3 = .ok (.invokevirtual 63, 3) := by decide +kernel
theorem dL_invert_6 : decode cL_invert 6 = .ok (.ireturn, 1) := by decide +kernel
theorem dL_invert_7 : decode cL_invert 7 = .ok (.astore_n 3, 1) := by decide +kernel
theorem dL_invert_8 : decode cL_invert 8 = .ok (.iconst (-1), 1) := by decide +kernel
theorem dL_invert_9 : decode cL_invert 9 = .ok (.ireturn, 1) := by decide +kernel
theorem dL_invert_10 : decode cL_invert 10 = .ok (.astore_n 3, 1) := by decide +kernel
theorem dL_invert_11 : decode cL_invert 11 = .ok (.bipush (-2), 2) := by decide +kernel
theorem dL_invert_13 : decode cL_invert 13 = .ok (.ireturn, 1) := by decide +kernel
theorem dL_commute_0 : decode cL_commute 0 = .ok (.aload_n 0, 1) := by decide +kernel
theorem dL_commute_1 : decode cL_commute 1 = .ok (.iload_n 1, 1) := by decide +kernel
theorem dL_commute_2 : decode cL_commute 2 = .ok (.iload_n 2, 1) := by decide +kernel
theorem dL_commute_3 : decode cL_commute 3 = .ok (.iload_n 3, 1) := by decide +kernel
theorem dL_commute_4 : decode cL_commute 4 = .ok (.invokevirtual 66, 3) := by decide +kernel
theorem dL_commute_7 : decode cL_commute 7 = .ok (.ireturn, 1) := by decide +kernel
theorem dL_commute_8 : decode cL_commute 8 = .ok (.astore 4, 2) := by decide +kernel
theorem dL_commute_10 : decode cL_commute 10 = .ok (.iconst (-1), 1) := by decide +kernel
theorem dL_commute_11 : decode cL_commute 11 = .ok (.ireturn, 1) := by decide +kernel
theorem dL_commute_12 : decode cL_commute 12 = .ok (.astore 4, 2) := by decide +kernel
theorem dL_commute_14 : decode cL_commute 14 = .ok (.bipush (-2), 2) := by decide +kernel
theorem dL_commute_16 : decode cL_commute 16 = .ok (.ireturn, 1) := by decide +kernel
theorem dL_forget_0 : decode cL_forget 0 = .ok (.aload_n 0, 1) := by decide +kernel
theorem dL_forget_1 : decode cL_forget 1 = .ok (.iload_n 1, 1) := by decide +kernel
theorem dL_forget_2 : decode cL_forget 2 = .ok (.invokevirtual 69, 3) := by decide +kernel
theorem dL_forget_5 : decode cL_forget 5 = .ok (.ireturn, 1) := by decide +kernel
theorem dL_forget_6 : decode cL_forget 6 = .ok (.astore_n 2, 1) := by decide +kernel
theorem dL_forget_7 : decode cL_forget 7 = .ok (.iconst (-1), 1) := by decide +kernel
theorem dL_forget_8 : decode cL_forget 8 = .ok (.ireturn, 1) := by decide +kernel
theorem dL_forget_9 : decode cL_forget 9 = .ok (.astore_n 2, 1) := by decide +kernel
theorem dL_forget_10 : decode cL_forget 10 = .ok (.bipush (-2), 2) := by decide +kernel
theorem dL_forget_12 : decode cL_forget 12 = .ok (.ireturn, 1) := by decide +kernel
theorem dL_goesTo_0 : decode cL_goesTo 0 = .ok (.aload_n 0, 1) := by decide +kernel
theorem dL_goesTo_1 : decode cL_goesTo 1 = .ok (.iload_n 1, 1) := by decide +kernel
theorem dL_goesTo_2 : decode cL_goesTo 2 = .ok (.iload_n 2, 1) := by decide +kernel
theorem dL_goesTo_3 : decode cL_goesTo 3 = .ok (.invokevirtual 72, 3) := by decide +kernel
theorem dL_goesTo_6 : decode cL_goesTo 6 = .ok (.ireturn, 1) := by decide +kernel
theorem dL_goesTo_7 : decode cL_goesTo 7 = .ok (.astore_n 3, 1) := by decide +kernel
theorem dL_goesTo_8 : decode cL_goesTo 8 = .ok (.bipush (-11), 2) := by decide +kernel
theorem dL_goesTo_10 : decode cL_goesTo 10 = .ok (.ireturn, 1) := by decide +kernel
theorem dL_goesTo_11 : decode cL_goesTo 11 = .ok (.astore_n 3, 1) := by decide +kernel
theorem dL_goesTo_12 : decode cL_goesTo 12 = .ok (.bipush (-13), 2) := by decide +kernel
theorem dL_goesTo_14 : decode cL_goesTo 14 = .ok (.ireturn, 1) := by decide +kernel
theorem dL_shelfOf_0 : decode cL_shelfOf 0 = .ok (.aload_n 0, 1) := by decide +kernel
theorem dL_shelfOf_1 : decode cL_shelfOf 1 = .ok (.iload_n 1, 1) := by decide +kernel
theorem dL_shelfOf_2 : decode cL_shelfOf 2 = .ok (.iload_n 2, 1) := by decide +kernel
theorem dL_shelfOf_3 : decode cL_shelfOf 3 = .ok (.invokevirtual 77, 3) := by decide +kernel
theorem dL_shelfOf_6 : decode cL_shelfOf 6 = .ok (.ireturn, 1) := by decide +kernel
theorem dL_shelfOf_7 : decode cL_shelfOf 7 = .ok (.astore_n 3, 1) := by decide +kernel
theorem dL_shelfOf_8 : decode cL_shelfOf 8 = .ok (.bipush (-11), 2) := by decide +kernel
theorem dL_shelfOf_10 : decode cL_shelfOf 10 = .ok (.ireturn, 1) := by decide +kernel
theorem dL_shelfOf_11 : decode cL_shelfOf 11 = .ok (.astore_n 3, 1) := by decide +kernel
theorem dL_shelfOf_12 : decode cL_shelfOf 12 = .ok (.bipush (-12), 2) := by decide +kernel
theorem dL_shelfOf_14 : decode cL_shelfOf 14 = .ok (.ireturn, 1) := by decide +kernel
theorem dL_shelfOf_15 : decode cL_shelfOf 15 = .ok (.astore_n 3, 1) := by decide +kernel
theorem dL_shelfOf_16 : decode cL_shelfOf 16 = .ok (.bipush (-13), 2) := by decide +kernel
theorem dL_shelfOf_18 : decode cL_shelfOf 18 = .ok (.ireturn, 1) := by decide +kernel
theorem dL_orderAgain_0 : decode cL_orderAgain 0 = .ok (.aload_n 0, 1) := by decide +kernel
theorem dL_orderAgain_1 : decode cL_orderAgain 1 = .ok (.iload_n 1, 1) := by decide +kernel
theorem dL_orderAgain_2 : decode cL_orderAgain 2 = .ok (.invokevirtual 80, 3) := by decide +kernel
theorem dL_orderAgain_5 : decode cL_orderAgain 5 = .ok (.ireturn, 1) := by decide +kernel
theorem dL_orderAgain_6 : decode cL_orderAgain 6 = .ok (.astore_n 2, 1) := by decide +kernel
theorem dL_orderAgain_7 : decode cL_orderAgain 7 = .ok (.bipush (-11), 2) := by decide +kernel
theorem dL_orderAgain_9 : decode cL_orderAgain 9 = .ok (.ireturn, 1) := by decide +kernel
theorem dL_orderAgain_10 : decode cL_orderAgain 10 = .ok (.astore_n 2, 1) := by decide +kernel
theorem dL_orderAgain_11 : decode cL_orderAgain 11 = .ok (.bipush (-13), 2) := by decide +kernel
theorem dL_orderAgain_13 : decode cL_orderAgain 13 = .ok (.ireturn, 1) := by decide +kernel
theorem dL_isEven_0 : decode cL_isEven 0 = .ok (.aload_n 0, 1) := by decide +kernel
theorem dL_isEven_1 : decode cL_isEven 1 = .ok (.iload_n 1, 1) := by decide +kernel
theorem dL_isEven_2 : decode cL_isEven 2 = .ok (.iload_n 2, 1) := by decide +kernel
theorem dL_isEven_3 : decode cL_isEven 3 = .ok (.invokevirtual 83, 3) := by decide +kernel
theorem dL_isEven_6 : decode cL_isEven 6 = .ok (.ifCond .eq 7, 3) := by decide +kernel
theorem dL_isEven_9 : decode cL_isEven 9 = .ok (.iconst 1, 1) := by decide +kernel
theorem dL_isEven_10 : decode cL_isEven 10 = .ok (.goto 4, 3) := by decide +kernel
theorem dL_isEven_13 : decode cL_isEven 13 = .ok (.iconst 0, 1) := by decide +kernel
theorem dL_isEven_14 : decode cL_isEven 14 = .ok (.ireturn, 1) := by decide +kernel
theorem dL_isEven_15 : decode cL_isEven 15 = .ok (.astore_n 3, 1) := by decide +kernel
theorem dL_isEven_16 : decode cL_isEven 16 = .ok (.bipush (-11), 2) := by decide +kernel
theorem dL_isEven_18 : decode cL_isEven 18 = .ok (.ireturn, 1) := by decide +kernel
theorem dL_isEven_19 : decode cL_isEven 19 = .ok (.astore_n 3, 1) := by decide +kernel
theorem dL_isEven_20 : decode cL_isEven 20 = .ok (.bipush (-13), 2) := by decide +kernel
theorem dL_isEven_22 : decode cL_isEven 22 = .ok (.ireturn, 1) := by decide +kernel
theorem dL_cycle_0 : decode cL_cycle 0 = .ok (.aload_n 0, 1) := by decide +kernel
theorem dL_cycle_1 : decode cL_cycle 1 = .ok (.iload_n 1, 1) := by decide +kernel
theorem dL_cycle_2 : decode cL_cycle 2 = .ok (.iload_n 2, 1) := by decide +kernel
theorem dL_cycle_3 : decode cL_cycle 3 = .ok (.invokevirtual 87, 3) := by decide +kernel
theorem dL_cycle_6 : decode cL_cycle 6 = .ok (.ireturn, 1) := by decide +kernel
theorem dL_cycle_7 : decode cL_cycle 7 = .ok (.astore_n 3, 1) := by decide +kernel
theorem dL_cycle_8 : decode cL_cycle 8 = .ok (.bipush (-11), 2) := by decide +kernel
theorem dL_cycle_10 : decode cL_cycle 10 = .ok (.ireturn, 1) := by decide +kernel
theorem dL_cycle_11 : decode cL_cycle 11 = .ok (.astore_n 3, 1) := by decide +kernel
theorem dL_cycle_12 : decode cL_cycle 12 = .ok (.bipush (-13), 2) := by decide +kernel
theorem dL_cycle_14 : decode cL_cycle 14 = .ok (.ireturn, 1) := by decide +kernel
theorem dL_commutes_0 : decode cL_commutes 0 = .ok (.aload_n 0, 1) := by decide +kernel
theorem dL_commutes_1 : decode cL_commutes 1 = .ok (.iload_n 1, 1) := by decide +kernel
theorem dL_commutes_2 : decode cL_commutes 2 = .ok (.iload_n 2, 1) := by decide +kernel
theorem dL_commutes_3 : decode cL_commutes 3 = .ok (.invokevirtual 90, 3) := by decide +kernel
theorem dL_commutes_6 : decode cL_commutes 6 = .ok (.ifCond .eq 7, 3) := by decide +kernel
theorem dL_commutes_9 : decode cL_commutes 9 = .ok (.iconst 1, 1) := by decide +kernel
theorem dL_commutes_10 : decode cL_commutes 10 = .ok (.goto 4, 3) := by decide +kernel
theorem dL_commutes_13 : decode cL_commutes 13 = .ok (.iconst 0, 1) := by decide +kernel
theorem dL_commutes_14 : decode cL_commutes 14 = .ok (.ireturn, 1) := by decide +kernel
theorem dL_commutes_15 : decode cL_commutes 15 = .ok (.astore_n 3, 1) := by decide +kernel
theorem dL_commutes_16 : decode cL_commutes 16 = .ok (.bipush (-11), 2) := by decide +kernel
theorem dL_commutes_18 : decode cL_commutes 18 = .ok (.ireturn, 1) := by decide +kernel
theorem dL_commutes_19 : decode cL_commutes 19 = .ok (.astore_n 3, 1) := by decide +kernel
theorem dL_commutes_20 : decode cL_commutes 20 = .ok (.bipush (-13), 2) := by decide +kernel
theorem dL_commutes_22 : decode cL_commutes 22 = .ok (.ireturn, 1) := by decide +kernel
theorem dL_line_0 : decode cL_line 0 = .ok (.aload_n 0, 1) := by decide +kernel
theorem dL_line_1 : decode cL_line 1 = .ok (.iload_n 1, 1) := by decide +kernel
theorem dL_line_2 : decode cL_line 2 = .ok (.invokevirtual 94, 3) := by decide +kernel
theorem dL_line_5 : decode cL_line 5 = .ok (.ireturn, 1) := by decide +kernel
theorem dL_line_6 : decode cL_line 6 = .ok (.astore_n 2, 1) := by decide +kernel
theorem dL_line_7 : decode cL_line 7 = .ok (.bipush (-11), 2) := by decide +kernel
theorem dL_line_9 : decode cL_line 9 = .ok (.ireturn, 1) := by decide +kernel
theorem dL_cycleLine_0 : decode cL_cycleLine 0 = .ok (.aload_n 0, 1) := by decide +kernel
theorem dL_cycleLine_1 : decode cL_cycleLine 1 = .ok (.iload_n 1, 1) := by decide +kernel
theorem dL_cycleLine_2 : decode cL_cycleLine 2 = .ok (.invokevirtual 97, 3) := by decide +kernel
theorem dL_cycleLine_5 : decode cL_cycleLine 5 = .ok (.ireturn, 1) := by decide +kernel
theorem dL_cycleLine_6 : decode cL_cycleLine 6 = .ok (.astore_n 2, 1) := by decide +kernel
theorem dL_cycleLine_7 : decode cL_cycleLine 7 = .ok (.bipush (-11), 2) := by decide +kernel
theorem dL_cycleLine_9 : decode cL_cycleLine 9 = .ok (.ireturn, 1) := by decide +kernel
theorem dL_cycleLine_10 : decode cL_cycleLine 10 = .ok (.astore_n 2, 1) := by decide +kernel
theorem dL_cycleLine_11 : decode cL_cycleLine 11 = .ok (.bipush (-13), 2) := by decide +kernel
theorem dL_cycleLine_13 : decode cL_cycleLine 13 = .ok (.ireturn, 1) := by decide +kernel
theorem dL_character_0 : decode cL_character 0 = .ok (.aload_n 0, 1) := by decide +kernel
theorem dL_character_1 : decode cL_character 1 = .ok (.iload_n 1, 1) := by decide +kernel
theorem dL_character_2 : decode cL_character 2 = .ok (.invokevirtual 100, 3) := by decide +kernel
theorem dL_character_5 : decode cL_character 5 = .ok (.ireturn, 1) := by decide +kernel
theorem dL_character_6 : decode cL_character 6 = .ok (.astore_n 2, 1) := by decide +kernel
theorem dL_character_7 : decode cL_character 7 = .ok (.bipush (-11), 2) := by decide +kernel
theorem dL_character_9 : decode cL_character 9 = .ok (.ireturn, 1) := by decide +kernel
theorem dL_append_0 : decode cL_append 0 = .ok (.aload_n 0, 1) := by decide +kernel
theorem dL_append_1 : decode cL_append 1 = .ok (.iload_n 1, 1) := by decide +kernel
theorem dL_append_2 : decode cL_append 2 = .ok (.invokevirtual 104, 3) := by decide +kernel
theorem dL_append_5 : decode cL_append 5 = .ok (.ireturn, 1) := by decide +kernel
theorem dL_append_6 : decode cL_append 6 = .ok (.astore_n 2, 1) := by decide +kernel
theorem dL_append_7 : decode cL_append 7 = .ok (.iconst (-1), 1) := by decide +kernel
theorem dL_append_8 : decode cL_append 8 = .ok (.ireturn, 1) := by decide +kernel
theorem dL_reads_0 : decode cL_reads 0 = .ok (.aload_n 0, 1) := by decide +kernel
theorem dL_reads_1 : decode cL_reads 1 = .ok (.invokevirtual 110, 3) := by decide +kernel
theorem dL_reads_4 : decode cL_reads 4 = .ok (.ireturn, 1) := by decide +kernel
theorem dL_reads_5 : decode cL_reads 5 = .ok (.astore_n 1, 1) := by decide +kernel
theorem dL_reads_6 : decode cL_reads 6 = .ok (.iconst (-1), 1) := by decide +kernel
theorem dL_reads_7 : decode cL_reads 7 = .ok (.ireturn, 1) := by decide +kernel
theorem dL_reads_8 : decode cL_reads 8 = .ok (.astore_n 1, 1) := by decide +kernel
theorem dL_reads_9 : decode cL_reads 9 = .ok (.bipush (-2), 2) := by decide +kernel
theorem dL_reads_11 : decode cL_reads 11 = .ok (.ireturn, 1) := by decide +kernel
theorem dL_types_0 : decode cL_types 0 = .ok (.iconst 0, 1) := by decide +kernel
theorem dL_types_1 : decode cL_types 1 = .ok (.istore_n 2, 1) := by decide +kernel
theorem dL_types_2 : decode cL_types 2 = .ok (.iload_n 2, 1) := by decide +kernel
theorem dL_types_3 : decode cL_types 3 = .ok (.aload_n 1, 1) := by decide +kernel
theorem dL_types_4 : decode cL_types 4 = .ok (.invokevirtual 113, 3) := by decide +kernel
theorem dL_types_7 : decode cL_types 7 = .ok (.if_icmp .ge 26, 3) := by decide +kernel
theorem dL_types_10 : decode cL_types 10 = .ok (.aload_n 0, 1) := by decide +kernel
theorem dL_types_11 : decode cL_types 11 = .ok (.aload_n 1, 1) := by decide +kernel
theorem dL_types_12 : decode cL_types 12 = .ok (.iload_n 2, 1) := by decide +kernel
theorem dL_types_13 : decode cL_types 13 = .ok (.invokevirtual 118, 3) := by decide +kernel
theorem dL_types_16 : decode cL_types 16 = .ok (.invokestatic 121, 3) := by decide +kernel
theorem dL_types_19 : decode cL_types 19 = .ok (.iload_n 2, 1) := by decide +kernel
theorem dL_types_20 : decode cL_types 20 = .ok (.iconst 1, 1) := by decide +kernel
theorem dL_types_21 : decode cL_types 21 = .ok (.iadd, 1) := by decide +kernel
theorem dL_types_22 : decode cL_types 22 = .ok (.if_icmp .eq 5, 3) := by decide +kernel
theorem dL_types_25 : decode cL_types 25 = .ok (.iconst 0, 1) := by decide +kernel
theorem dL_types_26 : decode cL_types 26 = .ok (.ireturn, 1) := by decide +kernel
theorem dL_types_27 : decode cL_types 27 = .ok (.iinc 2 1, 3) := by decide +kernel
theorem dL_types_30 : decode cL_types 30 = .ok (.goto (-28), 3) := by decide +kernel
theorem dL_types_33 : decode cL_types 33 = .ok (.iconst 1, 1) := by decide +kernel
theorem dL_types_34 : decode cL_types 34 = .ok (.ireturn, 1) := by decide +kernel
theorem dL_read_0 : decode cL_read 0 = .ok (.aload_n 0, 1) := by decide +kernel
theorem dL_read_1 : decode cL_read 1 = .ok (.aload_n 1, 1) := by decide +kernel
theorem dL_read_2 : decode cL_read 2 = .ok (.invokestatic 126, 3) := by decide +kernel
theorem dL_read_5 : decode cL_read 5 = .ok (.ifCond .eq 10, 3) := by decide +kernel
theorem dL_read_8 : decode cL_read 8 = .ok (.aload_n 0, 1) := by decide +kernel
theorem dL_read_9 : decode cL_read 9 = .ok (.invokestatic 130, 3) := by decide +kernel
theorem dL_read_12 : decode cL_read 12 = .ok (.goto 5, 3) := by decide +kernel
theorem dL_read_15 : decode cL_read 15 = .ok (.bipush (-9), 2) := by decide +kernel
theorem dL_read_17 : decode cL_read 17 = .ok (.ireturn, 1) := by decide +kernel
theorem dL_learn_0 : decode cL_learn 0 = .ok (.aload_n 0, 1) := by decide +kernel
theorem dL_learn_1 : decode cL_learn 1 = .ok (.aload_n 1, 1) := by decide +kernel
theorem dL_learn_2 : decode cL_learn 2 = .ok (.invokestatic 126, 3) := by decide +kernel
theorem dL_learn_5 : decode cL_learn 5 = .ok (.ifCond .eq 11, 3) := by decide +kernel
theorem dL_learn_8 : decode cL_learn 8 = .ok (.aload_n 0, 1) := by decide +kernel
theorem dL_learn_9 : decode cL_learn 9 = .ok (.iload_n 2, 1) := by decide +kernel
theorem dL_learn_10 : decode cL_learn 10 = .ok (.invokestatic 134, 3) := by decide +kernel
theorem dL_learn_13 : decode cL_learn 13 = .ok (.goto 5, 3) := by decide +kernel
theorem dL_learn_16 : decode cL_learn 16 = .ok (.bipush (-9), 2) := by decide +kernel
theorem dL_learn_18 : decode cL_learn 18 = .ok (.ireturn, 1) := by decide +kernel
theorem dL_undo_0 : decode cL_undo 0 = .ok (.aload_n 0, 1) := by decide +kernel
theorem dL_undo_1 : decode cL_undo 1 = .ok (.invokevirtual 145, 3) := by decide +kernel
theorem dL_undo_4 : decode cL_undo 4 = .ok (.ireturn, 1) := by decide +kernel
theorem dL_undo_5 : decode cL_undo 5 = .ok (.astore_n 1, 1) := by decide +kernel
theorem dL_undo_6 : decode cL_undo 6 = .ok (.iconst (-1), 1) := by decide +kernel
theorem dL_undo_7 : decode cL_undo 7 = .ok (.ireturn, 1) := by decide +kernel
theorem dL_then_0 : decode cL_then 0 = .ok (.bipush 32, 2) := by decide +kernel
theorem dL_then_2 : decode cL_then 2 = .ok (.newarray .int, 2) := by decide +kernel
theorem dL_then_4 : decode cL_then 4 = .ok (.astore_n 2, 1) := by decide +kernel
theorem dL_then_5 : decode cL_then 5 = .ok (.iconst 0, 1) := by decide +kernel
theorem dL_then_6 : decode cL_then 6 = .ok (.istore_n 3, 1) := by decide +kernel
theorem dL_then_7 : decode cL_then 7 = .ok (.iload_n 3, 1) := by decide +kernel
theorem dL_then_8 : decode cL_then 8 = .ok (.bipush 32, 2) := by decide +kernel
theorem dL_then_10 : decode cL_then 10 = .ok (.if_icmp .ge 17, 3) := by decide +kernel
theorem dL_then_13 : decode cL_then 13 = .ok (.aload_n 2, 1) := by decide +kernel
theorem dL_then_14 : decode cL_then 14 = .ok (.iload_n 3, 1) := by decide +kernel
theorem dL_then_15 : decode cL_then 15 = .ok (.aload_n 1, 1) := by decide +kernel
theorem dL_then_16 : decode cL_then 16 = .ok (.aload_n 0, 1) := by decide +kernel
theorem dL_then_17 : decode cL_then 17 = .ok (.iload_n 3, 1) := by decide +kernel
theorem dL_then_18 : decode cL_then 18 = .ok (.iaload, 1) := by decide +kernel
theorem dL_then_19 : decode cL_then 19 = .ok (.iaload, 1) := by decide +kernel
theorem dL_then_20 : decode cL_then 20 = .ok (.iastore, 1) := by decide +kernel
theorem dL_then_21 : decode cL_then 21 = .ok (.iinc 3 1, 3) := by decide +kernel
theorem dL_then_24 : decode cL_then 24 = .ok (.goto (-17), 3) := by decide +kernel
theorem dL_then_27 : decode cL_then 27 = .ok (.aload_n 2, 1) := by decide +kernel
theorem dL_then_28 : decode cL_then 28 = .ok (.areturn, 1) := by decide +kernel
theorem dL_inverse_0 : decode cL_inverse 0 = .ok (.bipush 32, 2) := by decide +kernel
theorem dL_inverse_2 : decode cL_inverse 2 = .ok (.newarray .int, 2) := by decide +kernel
theorem dL_inverse_4 : decode cL_inverse 4 = .ok (.astore_n 1, 1) := by decide +kernel
theorem dL_inverse_5 : decode cL_inverse 5 = .ok (.iconst 0, 1) := by decide +kernel
theorem dL_inverse_6 : decode cL_inverse 6 = .ok (.istore_n 2, 1) := by decide +kernel
theorem dL_inverse_7 : decode cL_inverse 7 = .ok (.iload_n 2, 1) := by decide +kernel
theorem dL_inverse_8 : decode cL_inverse 8 = .ok (.bipush 32, 2) := by decide +kernel
theorem dL_inverse_10 : decode cL_inverse 10 = .ok (.if_icmp .ge 15, 3) := by decide +kernel
theorem dL_inverse_13 : decode cL_inverse 13 = .ok (.aload_n 1, 1) := by decide +kernel
theorem dL_inverse_14 : decode cL_inverse 14 = .ok (.aload_n 0, 1) := by decide +kernel
theorem dL_inverse_15 : decode cL_inverse 15 = .ok (.iload_n 2, 1) := by decide +kernel
theorem dL_inverse_16 : decode cL_inverse 16 = .ok (.iaload, 1) := by decide +kernel
theorem dL_inverse_17 : decode cL_inverse 17 = .ok (.iload_n 2, 1) := by decide +kernel
theorem dL_inverse_18 : decode cL_inverse 18 = .ok (.iastore, 1) := by decide +kernel
theorem dL_inverse_19 : decode cL_inverse 19 = .ok (.iinc 2 1, 3) := by decide +kernel
theorem dL_inverse_22 : decode cL_inverse 22 = .ok (.goto (-15), 3) := by decide +kernel
theorem dL_inverse_25 : decode cL_inverse 25 = .ok (.aload_n 1, 1) := by decide +kernel
theorem dL_inverse_26 : decode cL_inverse 26 = .ok (.areturn, 1) := by decide +kernel
theorem dL_move_0 : decode cL_move 0 = .ok (.bipush 32, 2) := by decide +kernel
theorem dL_move_2 : decode cL_move 2 = .ok (.newarray .int, 2) := by decide +kernel
theorem dL_move_4 : decode cL_move 4 = .ok (.astore_n 3, 1) := by decide +kernel
theorem dL_move_5 : decode cL_move 5 = .ok (.iconst 0, 1) := by decide +kernel
theorem dL_move_6 : decode cL_move 6 = .ok (.istore 4, 2) := by decide +kernel
theorem dL_move_8 : decode cL_move 8 = .ok (.iload 4, 2) := by decide +kernel
theorem dL_move_10 : decode cL_move 10 = .ok (.bipush 32, 2) := by decide +kernel
theorem dL_move_12 : decode cL_move 12 = .ok (.if_icmp .ge 93, 3) := by decide +kernel
theorem dL_move_15 : decode cL_move 15 = .ok (.iload_n 0, 1) := by decide +kernel
theorem dL_move_16 : decode cL_move 16 = .ok (.ifCond .eq 20, 3) := by decide +kernel
theorem dL_move_19 : decode cL_move 19 = .ok (.iload 4, 2) := by decide +kernel
theorem dL_move_21 : decode cL_move 21 = .ok (.bipush 8, 2) := by decide +kernel
theorem dL_move_23 : decode cL_move 23 = .ok (.irem, 1) := by decide +kernel
theorem dL_move_24 : decode cL_move 24 = .ok (.iload_n 1, 1) := by decide +kernel
theorem dL_move_25 : decode cL_move 25 = .ok (.if_icmp .ne 7, 3) := by decide +kernel
theorem dL_move_28 : decode cL_move 28 = .ok (.iconst 1, 1) := by decide +kernel
theorem dL_move_29 : decode cL_move 29 = .ok (.goto 21, 3) := by decide +kernel
theorem dL_move_32 : decode cL_move 32 = .ok (.iconst 0, 1) := by decide +kernel
theorem dL_move_33 : decode cL_move 33 = .ok (.goto 17, 3) := by decide +kernel
theorem dL_move_36 : decode cL_move 36 = .ok (.iload 4, 2) := by decide +kernel
theorem dL_move_38 : decode cL_move 38 = .ok (.bipush 8, 2) := by decide +kernel
theorem dL_move_40 : decode cL_move 40 = .ok (.idiv, 1) := by decide +kernel
theorem dL_move_41 : decode cL_move 41 = .ok (.iload_n 1, 1) := by decide +kernel
theorem dL_move_42 : decode cL_move 42 = .ok (.if_icmp .ne 7, 3) := by decide +kernel
theorem dL_move_45 : decode cL_move 45 = .ok (.iconst 1, 1) := by decide +kernel
theorem dL_move_46 : decode cL_move 46 = .ok (.goto 4, 3) := by decide +kernel
theorem dL_move_49 : decode cL_move 49 = .ok (.iconst 0, 1) := by decide +kernel
theorem dL_move_50 : decode cL_move 50 = .ok (.istore 5, 2) := by decide +kernel
theorem dL_move_52 : decode cL_move 52 = .ok (.aload_n 3, 1) := by decide +kernel
theorem dL_move_53 : decode cL_move 53 = .ok (.iload 4, 2) := by decide +kernel
theorem dL_move_55 : decode cL_move 55 = .ok (.iload 5, 2) := by decide +kernel
theorem dL_move_57 : decode cL_move 57 = .ok (.ifCond .ne 8, 3) := by decide +kernel
theorem dL_move_60 : decode cL_move 60 = .ok (.iload 4, 2) := by decide +kernel
theorem dL_move_62 : decode cL_move 62 = .ok (.goto 36, 3) := by decide +kernel
theorem dL_move_65 : decode cL_move 65 = .ok (.iload_n 0, 1) := by decide +kernel
theorem dL_move_66 : decode cL_move 66 = .ok (.ifCond .eq 16, 3) := by decide +kernel
theorem dL_move_69 : decode cL_move 69 = .ok (.iload 4, 2) := by decide +kernel
theorem dL_move_71 : decode cL_move 71 = .ok (.bipush 8, 2) := by decide +kernel
theorem dL_move_73 : decode cL_move 73 = .ok (.iload_n 2, 1) := by decide +kernel
theorem dL_move_74 : decode cL_move 74 = .ok (.imul, 1) := by decide +kernel
theorem dL_move_75 : decode cL_move 75 = .ok (.iadd, 1) := by decide +kernel
theorem dL_move_76 : decode cL_move 76 = .ok (.bipush 32, 2) := by decide +kernel
theorem dL_move_78 : decode cL_move 78 = .ok (.irem, 1) := by decide +kernel
theorem dL_move_79 : decode cL_move 79 = .ok (.goto 19, 3) := by decide +kernel
theorem dL_move_82 : decode cL_move 82 = .ok (.iload 4, 2) := by decide +kernel
theorem dL_move_84 : decode cL_move 84 = .ok (.bipush 8, 2) := by decide +kernel
theorem dL_move_86 : decode cL_move 86 = .ok (.idiv, 1) := by decide +kernel
theorem dL_move_87 : decode cL_move 87 = .ok (.bipush 8, 2) := by decide +kernel
theorem dL_move_89 : decode cL_move 89 = .ok (.imul, 1) := by decide +kernel
theorem dL_move_90 : decode cL_move 90 = .ok (.iload 4, 2) := by decide +kernel
theorem dL_move_92 : decode cL_move 92 = .ok (.iload_n 2, 1) := by decide +kernel
theorem dL_move_93 : decode cL_move 93 = .ok (.iadd, 1) := by decide +kernel
theorem dL_move_94 : decode cL_move 94 = .ok (.bipush 8, 2) := by decide +kernel
theorem dL_move_96 : decode cL_move 96 = .ok (.irem, 1) := by decide +kernel
theorem dL_move_97 : decode cL_move 97 = .ok (.iadd, 1) := by decide +kernel
theorem dL_move_98 : decode cL_move 98 = .ok (.iastore, 1) := by decide +kernel
theorem dL_move_99 : decode cL_move 99 = .ok (.iinc 4 1, 3) := by decide +kernel
theorem dL_move_102 : decode cL_move 102 = .ok (.goto (-94), 3) := by decide +kernel
theorem dL_move_105 : decode cL_move 105 = .ok (.aload_n 3, 1) := by decide +kernel
theorem dL_move_106 : decode cL_move 106 = .ok (.areturn, 1) := by decide +kernel
theorem dL_sequence_0 : decode cL_sequence 0 = .ok (.iconst 0, 1) := by decide +kernel
theorem dL_sequence_1 : decode cL_sequence 1 = .ok (.iconst 0, 1) := by decide +kernel
theorem dL_sequence_2 : decode cL_sequence 2 = .ok (.iconst 0, 1) := by decide +kernel
theorem dL_sequence_3 : decode cL_sequence 3 = .ok (.invokestatic 148, 3) := by decide +kernel
theorem dL_sequence_6 : decode cL_sequence 6 = .ok (.astore 4, 2) := by decide +kernel
theorem dL_sequence_8 : decode cL_sequence 8 = .ok (.iconst 0, 1) := by decide +kernel
theorem dL_sequence_9 : decode cL_sequence 9 = .ok (.istore 5, 2) := by decide +kernel
theorem dL_sequence_11 : decode cL_sequence 11 = .ok (.iconst 1, 1) := by decide +kernel
theorem dL_sequence_12 : decode cL_sequence 12 = .ok (.aload_n 0, 1) := by decide +kernel
theorem dL_sequence_13 : decode cL_sequence 13 = .ok (.aload_n 1, 1) := by decide +kernel
theorem dL_sequence_14 : decode cL_sequence 14 = .ok (.iconst 0, 1) := by decide +kernel
theorem dL_sequence_15 : decode cL_sequence 15 = .ok (.iaload, 1) := by decide +kernel
theorem dL_sequence_16 : decode cL_sequence 16 = .ok (.invokestatic 152, 3) := by decide +kernel
theorem dL_sequence_19 : decode cL_sequence 19 = .ok (.iconst 1, 1) := by decide +kernel
theorem dL_sequence_20 : decode cL_sequence 20 = .ok (.iushr, 1) := by decide +kernel
theorem dL_sequence_21 : decode cL_sequence 21 = .ok (.iload_n 3, 1) := by decide +kernel
theorem dL_sequence_22 : decode cL_sequence 22 = .ok (.ifCond .ne 7, 3) := by decide +kernel
theorem dL_sequence_25 : decode cL_sequence 25 = .ok (.iconst 3, 1) := by decide +kernel
theorem dL_sequence_26 : decode cL_sequence 26 = .ok (.goto 4, 3) := by decide +kernel
theorem dL_sequence_29 : decode cL_sequence 29 = .ok (.iconst 2, 1) := by decide +kernel
theorem dL_sequence_30 : decode cL_sequence 30 = .ok (.irem, 1) := by decide +kernel
theorem dL_sequence_31 : decode cL_sequence 31 = .ok (.iadd, 1) := by decide +kernel
theorem dL_sequence_32 : decode cL_sequence 32 = .ok (.istore 6, 2) := by decide +kernel
theorem dL_sequence_34 : decode cL_sequence 34 = .ok (.aload_n 1, 1) := by decide +kernel
theorem dL_sequence_35 : decode cL_sequence 35 = .ok (.iconst 0, 1) := by decide +kernel
theorem dL_sequence_36 : decode cL_sequence 36 = .ok (.dup2, 1) := by decide +kernel
theorem dL_sequence_37 : decode cL_sequence 37 = .ok (.iaload, 1) := by decide +kernel
theorem dL_sequence_38 : decode cL_sequence 38 = .ok (.iconst 1, 1) := by decide +kernel
theorem dL_sequence_39 : decode cL_sequence 39 = .ok (.iadd, 1) := by decide +kernel
theorem dL_sequence_40 : decode cL_sequence 40 = .ok (.iastore, 1) := by decide +kernel
theorem dL_sequence_41 : decode cL_sequence 41 = .ok (.iconst 0, 1) := by decide +kernel
theorem dL_sequence_42 : decode cL_sequence 42 = .ok (.istore 7, 2) := by decide +kernel
theorem dL_sequence_44 : decode cL_sequence 44 = .ok (.iload 7, 2) := by decide +kernel
theorem dL_sequence_46 : decode cL_sequence 46 = .ok (.iload 6, 2) := by decide +kernel
theorem dL_sequence_48 : decode cL_sequence 48 = .ok (.if_icmp .ge 372, 3) := by decide +kernel
theorem dL_sequence_51 : decode cL_sequence 51 = .ok (.iload 7, 2) := by decide +kernel
theorem dL_sequence_53 : decode cL_sequence 53 = .ok (.ifCond .eq 12, 3) := by decide +kernel
theorem dL_sequence_56 : decode cL_sequence 56 = .ok (.aload_n 2, 1) := by decide +kernel
theorem dL_sequence_57 : decode cL_sequence 57 = .ok (.invokevirtual 156, 3) := by decide +kernel
theorem dL_sequence_60 : decode cL_sequence 60 = .ok (.bipush 24, 2) := by decide +kernel
theorem dL_sequence_62 : decode cL_sequence 62 = .ok (.if_icmp .ge 358, 3) := by decide +kernel
theorem dL_sequence_65 : decode cL_sequence 65 = .ok (.aload_n 0, 1) := by decide +kernel
theorem dL_sequence_66 : decode cL_sequence 66 = .ok (.aload_n 1, 1) := by decide +kernel
theorem dL_sequence_67 : decode cL_sequence 67 = .ok (.iconst 0, 1) := by decide +kernel
theorem dL_sequence_68 : decode cL_sequence 68 = .ok (.iaload, 1) := by decide +kernel
theorem dL_sequence_69 : decode cL_sequence 69 = .ok (.invokestatic 152, 3) := by decide +kernel
theorem dL_sequence_72 : decode cL_sequence 72 = .ok (.iconst 1, 1) := by decide +kernel
theorem dL_sequence_73 : decode cL_sequence 73 = .ok (.iushr, 1) := by decide +kernel
theorem dL_sequence_74 : decode cL_sequence 74 = .ok (.istore 8, 2) := by decide +kernel
theorem dL_sequence_76 : decode cL_sequence 76 = .ok (.iload 8, 2) := by decide +kernel
theorem dL_sequence_78 : decode cL_sequence 78 = .ok (.iconst 4, 1) := by decide +kernel
theorem dL_sequence_79 : decode cL_sequence 79 = .ok (.iushr, 1) := by decide +kernel
theorem dL_sequence_80 : decode cL_sequence 80 = .ok (.istore 9, 2) := by decide +kernel
theorem dL_sequence_82 : decode cL_sequence 82 = .ok (.aload_n 1, 1) := by decide +kernel
theorem dL_sequence_83 : decode cL_sequence 83 = .ok (.iconst 0, 1) := by decide +kernel
theorem dL_sequence_84 : decode cL_sequence 84 = .ok (.dup2, 1) := by decide +kernel
theorem dL_sequence_85 : decode cL_sequence 85 = .ok (.iaload, 1) := by decide +kernel
theorem dL_sequence_86 : decode cL_sequence 86 = .ok (.iconst 1, 1) := by decide +kernel
theorem dL_sequence_87 : decode cL_sequence 87 = .ok (.iadd, 1) := by decide +kernel
theorem dL_sequence_88 : decode cL_sequence 88 = .ok (.iastore, 1) := by decide +kernel
theorem dL_sequence_89 : decode cL_sequence 89 = .ok (.iload 8, 2) := by decide +kernel
theorem dL_sequence_91 : decode cL_sequence 91 = .ok (.bipush 8, 2) := by decide +kernel
theorem dL_sequence_93 : decode cL_sequence 93 = .ok (.irem, 1) := by decide +kernel
theorem dL_sequence_94 : decode cL_sequence 94 = .ok (.ifCond .ne 86, 3) := by decide +kernel
theorem dL_sequence_97 : decode cL_sequence 97 = .ok (.iload_n 3, 1) := by decide +kernel
theorem dL_sequence_98 : decode cL_sequence 98 = .ok (.iconst 2, 1) := by decide +kernel
theorem dL_sequence_99 : decode cL_sequence 99 = .ok (.if_icmp .ge 81, 3) := by decide +kernel
theorem dL_sequence_102 : decode cL_sequence 102 = .ok (.aload_n 2, 1) := by decide +kernel
theorem dL_sequence_103 : decode cL_sequence 103 = .ok (.bipush 40, 2) := by decide +kernel
theorem dL_sequence_105 : decode cL_sequence 105 = .ok (.invokevirtual 159, 3) := by decide +kernel
theorem dL_sequence_108 : decode cL_sequence 108 = .ok (.pop, 1) := by decide +kernel
theorem dL_sequence_109 : decode cL_sequence 109 = .ok (.aload_n 0, 1) := by decide +kernel
theorem dL_sequence_110 : decode cL_sequence 110 = .ok (.aload_n 1, 1) := by decide +kernel
theorem dL_sequence_111 : decode cL_sequence 111 = .ok (.aload_n 2, 1) := by decide +kernel
theorem dL_sequence_112 : decode cL_sequence 112 = .ok (.iload_n 3, 1) := by decide +kernel
theorem dL_sequence_113 : decode cL_sequence 113 = .ok (.iconst 1, 1) := by decide +kernel
theorem dL_sequence_114 : decode cL_sequence 114 = .ok (.iadd, 1) := by decide +kernel
theorem dL_sequence_115 : decode cL_sequence 115 = .ok (.invokestatic 162, 3) := by decide +kernel
theorem dL_sequence_118 : decode cL_sequence 118 = .ok (.astore 10, 2) := by decide +kernel
theorem dL_sequence_120 : decode cL_sequence 120 = .ok (.iconst 2, 1) := by decide +kernel
theorem dL_sequence_121 : decode cL_sequence 121 = .ok (.iload 9, 2) := by decide +kernel
theorem dL_sequence_123 : decode cL_sequence 123 = .ok (.iconst 3, 1) := by decide +kernel
theorem dL_sequence_124 : decode cL_sequence 124 = .ok (.irem, 1) := by decide +kernel
theorem dL_sequence_125 : decode cL_sequence 125 = .ok (.iadd, 1) := by decide +kernel
theorem dL_sequence_126 : decode cL_sequence 126 = .ok (.istore 11, 2) := by decide +kernel
theorem dL_sequence_128 : decode cL_sequence 128 = .ok (.aload_n 2, 1) := by decide +kernel
theorem dL_sequence_129 : decode cL_sequence 129 = .ok (.bipush 41, 2) := by decide +kernel
theorem dL_sequence_131 : decode cL_sequence 131 = .ok (.invokevirtual 159, 3) := by decide +kernel
theorem dL_sequence_134 : decode cL_sequence 134 = .ok (.iload 11, 2) := by decide +kernel
theorem dL_sequence_136 : decode cL_sequence 136 = .ok (.invokevirtual 166, 3) := by decide +kernel
theorem dL_sequence_139 : decode cL_sequence 139 = .ok (.pop, 1) := by decide +kernel
theorem dL_sequence_140 : decode cL_sequence 140 = .ok (.aload 10, 2) := by decide +kernel
theorem dL_sequence_142 : decode cL_sequence 142 = .ok (.astore 12, 2) := by decide +kernel
theorem dL_sequence_144 : decode cL_sequence 144 = .ok (.iconst 1, 1) := by decide +kernel
theorem dL_sequence_145 : decode cL_sequence 145 = .ok (.istore 13, 2) := by decide +kernel
theorem dL_sequence_147 : decode cL_sequence 147 = .ok (.iload 13, 2) := by decide +kernel
theorem dL_sequence_149 : decode cL_sequence 149 = .ok (.iload 11, 2) := by decide +kernel
theorem dL_sequence_151 : decode cL_sequence 151 = .ok (.if_icmp .ge 18, 3) := by decide +kernel
theorem dL_sequence_154 : decode cL_sequence 154 = .ok (.aload 10, 2) := by decide +kernel
theorem dL_sequence_156 : decode cL_sequence 156 = .ok (.aload 12, 2) := by decide +kernel
theorem dL_sequence_158 : decode cL_sequence 158 = .ok (.invokestatic 169, 3) := by decide +kernel
theorem dL_sequence_161 : decode cL_sequence 161 = .ok (.astore 10, 2) := by decide +kernel
theorem dL_sequence_163 : decode cL_sequence 163 = .ok (.iinc 13 1, 3) := by decide +kernel
theorem dL_sequence_166 : decode cL_sequence 166 = .ok (.goto (-19), 3) := by decide +kernel
theorem dL_sequence_169 : decode cL_sequence 169 = .ok (.aload_n 1, 1) := by decide +kernel
theorem dL_sequence_170 : decode cL_sequence 170 = .ok (.iconst 1, 1) := by decide +kernel
theorem dL_sequence_171 : decode cL_sequence 171 = .ok (.dup2, 1) := by decide +kernel
theorem dL_sequence_172 : decode cL_sequence 172 = .ok (.iaload, 1) := by decide +kernel
theorem dL_sequence_173 : decode cL_sequence 173 = .ok (.iload 11, 2) := by decide +kernel
theorem dL_sequence_175 : decode cL_sequence 175 = .ok (.imul, 1) := by decide +kernel
theorem dL_sequence_176 : decode cL_sequence 176 = .ok (.iastore, 1) := by decide +kernel
theorem dL_sequence_177 : decode cL_sequence 177 = .ok (.goto 196, 3) := by decide +kernel
theorem dL_sequence_180 : decode cL_sequence 180 = .ok (.iload 8, 2) := by decide +kernel
theorem dL_sequence_182 : decode cL_sequence 182 = .ok (.bipush 8, 2) := by decide +kernel
theorem dL_sequence_184 : decode cL_sequence 184 = .ok (.irem, 1) := by decide +kernel
theorem dL_sequence_185 : decode cL_sequence 185 = .ok (.iconst 1, 1) := by decide +kernel
theorem dL_sequence_186 : decode cL_sequence 186 = .ok (.if_icmp .ne 95, 3) := by decide +kernel
theorem dL_sequence_189 : decode cL_sequence 189 = .ok (.iload_n 3, 1) := by decide +kernel
theorem dL_sequence_190 : decode cL_sequence 190 = .ok (.iconst 2, 1) := by decide +kernel
theorem dL_sequence_191 : decode cL_sequence 191 = .ok (.if_icmp .ge 90, 3) := by decide +kernel
theorem dL_sequence_194 : decode cL_sequence 194 = .ok (.aload_n 2, 1) := by decide +kernel
theorem dL_sequence_195 : decode cL_sequence 195 = .ok (.bipush 91, 2) := by decide +kernel
theorem dL_sequence_197 : decode cL_sequence 197 = .ok (.invokevirtual 159, 3) := by decide +kernel
theorem dL_sequence_200 : decode cL_sequence 200 = .ok (.pop, 1) := by decide +kernel
theorem dL_sequence_201 : decode cL_sequence 201 = .ok (.aload_n 0, 1) := by decide +kernel
theorem dL_sequence_202 : decode cL_sequence 202 = .ok (.aload_n 1, 1) := by decide +kernel
theorem dL_sequence_203 : decode cL_sequence 203 = .ok (.aload_n 2, 1) := by decide +kernel
theorem dL_sequence_204 : decode cL_sequence 204 = .ok (.iload_n 3, 1) := by decide +kernel
theorem dL_sequence_205 : decode cL_sequence 205 = .ok (.iconst 1, 1) := by decide +kernel
theorem dL_sequence_206 : decode cL_sequence 206 = .ok (.iadd, 1) := by decide +kernel
theorem dL_sequence_207 : decode cL_sequence 207 = .ok (.invokestatic 162, 3) := by decide +kernel
theorem dL_sequence_210 : decode cL_sequence 210 = .ok (.astore 11, 2) := by decide +kernel
theorem dL_sequence_212 : decode cL_sequence 212 = .ok (.aload_n 1, 1) := by decide +kernel
theorem dL_sequence_213 : decode cL_sequence 213 = .ok (.iconst 1, 1) := by decide +kernel
theorem dL_sequence_214 : decode cL_sequence 214 = .ok (.iaload, 1) := by decide +kernel
theorem dL_sequence_215 : decode cL_sequence 215 = .ok (.istore 12, 2) := by decide +kernel
theorem dL_sequence_217 : decode cL_sequence 217 = .ok (.aload_n 2, 1) := by decide +kernel
theorem dL_sequence_218 : decode cL_sequence 218 = .ok (.bipush 44, 2) := by decide +kernel
theorem dL_sequence_220 : decode cL_sequence 220 = .ok (.invokevirtual 159, 3) := by decide +kernel
theorem dL_sequence_223 : decode cL_sequence 223 = .ok (.pop, 1) := by decide +kernel
theorem dL_sequence_224 : decode cL_sequence 224 = .ok (.aload_n 0, 1) := by decide +kernel
theorem dL_sequence_225 : decode cL_sequence 225 = .ok (.aload_n 1, 1) := by decide +kernel
theorem dL_sequence_226 : decode cL_sequence 226 = .ok (.aload_n 2, 1) := by decide +kernel
theorem dL_sequence_227 : decode cL_sequence 227 = .ok (.iload_n 3, 1) := by decide +kernel
theorem dL_sequence_228 : decode cL_sequence 228 = .ok (.iconst 1, 1) := by decide +kernel
theorem dL_sequence_229 : decode cL_sequence 229 = .ok (.iadd, 1) := by decide +kernel
theorem dL_sequence_230 : decode cL_sequence 230 = .ok (.invokestatic 162, 3) := by decide +kernel
theorem dL_sequence_233 : decode cL_sequence 233 = .ok (.astore 13, 2) := by decide +kernel
theorem dL_sequence_235 : decode cL_sequence 235 = .ok (.aload_n 2, 1) := by decide +kernel
theorem dL_sequence_236 : decode cL_sequence 236 = .ok (.bipush 93, 2) := by decide +kernel
theorem dL_sequence_238 : decode cL_sequence 238 = .ok (.invokevirtual 159, 3) := by decide +kernel
theorem dL_sequence_241 : decode cL_sequence 241 = .ok (.pop, 1) := by decide +kernel
theorem dL_sequence_242 : decode cL_sequence 242 = .ok (.aload 11, 2) := by decide +kernel
theorem dL_sequence_244 : decode cL_sequence 244 = .ok (.aload 13, 2) := by decide +kernel
theorem dL_sequence_246 : decode cL_sequence 246 = .ok (.invokestatic 169, 3) := by decide +kernel
theorem dL_sequence_249 : decode cL_sequence 249 = .ok (.aload 11, 2) := by decide +kernel
theorem dL_sequence_251 : decode cL_sequence 251 = .ok (.invokestatic 173, 3) := by decide +kernel
theorem dL_sequence_254 : decode cL_sequence 254 = .ok (.aload 13, 2) := by decide +kernel
theorem dL_sequence_256 : decode cL_sequence 256 = .ok (.invokestatic 173, 3) := by decide +kernel
theorem dL_sequence_259 : decode cL_sequence 259 = .ok (.invokestatic 169, 3) := by decide +kernel
theorem dL_sequence_262 : decode cL_sequence 262 = .ok (.invokestatic 169, 3) := by decide +kernel
theorem dL_sequence_265 : decode cL_sequence 265 = .ok (.astore 10, 2) := by decide +kernel
theorem dL_sequence_267 : decode cL_sequence 267 = .ok (.aload_n 1, 1) := by decide +kernel
theorem dL_sequence_268 : decode cL_sequence 268 = .ok (.iconst 1, 1) := by decide +kernel
theorem dL_sequence_269 : decode cL_sequence 269 = .ok (.iconst 2, 1) := by decide +kernel
theorem dL_sequence_270 : decode cL_sequence 270 = .ok (.iload 12, 2) := by decide +kernel
theorem dL_sequence_272 : decode cL_sequence 272 = .ok (.aload_n 1, 1) := by decide +kernel
theorem dL_sequence_273 : decode cL_sequence 273 = .ok (.iconst 1, 1) := by decide +kernel
theorem dL_sequence_274 : decode cL_sequence 274 = .ok (.iaload, 1) := by decide +kernel
theorem dL_sequence_275 : decode cL_sequence 275 = .ok (.iadd, 1) := by decide +kernel
theorem dL_sequence_276 : decode cL_sequence 276 = .ok (.imul, 1) := by decide +kernel
theorem dL_sequence_277 : decode cL_sequence 277 = .ok (.iastore, 1) := by decide +kernel
theorem dL_sequence_278 : decode cL_sequence 278 = .ok (.goto 95, 3) := by decide +kernel
theorem dL_sequence_281 : decode cL_sequence 281 = .ok (.iload 8, 2) := by decide +kernel
theorem dL_sequence_283 : decode cL_sequence 283 = .ok (.iconst 2, 1) := by decide +kernel
theorem dL_sequence_284 : decode cL_sequence 284 = .ok (.irem, 1) := by decide +kernel
theorem dL_sequence_285 : decode cL_sequence 285 = .ok (.ifCond .ne 7, 3) := by decide +kernel
theorem dL_sequence_288 : decode cL_sequence 288 = .ok (.iconst 1, 1) := by decide +kernel
theorem dL_sequence_289 : decode cL_sequence 289 = .ok (.goto 4, 3) := by decide +kernel
theorem dL_sequence_292 : decode cL_sequence 292 = .ok (.iconst 0, 1) := by decide +kernel
theorem dL_sequence_293 : decode cL_sequence 293 = .ok (.istore 11, 2) := by decide +kernel
theorem dL_sequence_295 : decode cL_sequence 295 = .ok (.iload 9, 2) := by decide +kernel
theorem dL_sequence_297 : decode cL_sequence 297 = .ok (.iload 11, 2) := by decide +kernel
theorem dL_sequence_299 : decode cL_sequence 299 = .ok (.ifCond .eq 8, 3) := by decide +kernel
theorem dL_sequence_302 : decode cL_sequence 302 = .ok (.bipush 8, 2) := by decide +kernel
theorem dL_sequence_304 : decode cL_sequence 304 = .ok (.goto 4, 3) := by decide +kernel
theorem dL_sequence_307 : decode cL_sequence 307 = .ok (.iconst 4, 1) := by decide +kernel
theorem dL_sequence_308 : decode cL_sequence 308 = .ok (.irem, 1) := by decide +kernel
theorem dL_sequence_309 : decode cL_sequence 309 = .ok (.istore 12, 2) := by decide +kernel
theorem dL_sequence_311 : decode cL_sequence 311 = .ok (.iconst 1, 1) := by decide +kernel
theorem dL_sequence_312 : decode cL_sequence 312 = .ok (.iload 9, 2) := by decide +kernel
theorem dL_sequence_314 : decode cL_sequence 314 = .ok (.iconst 3, 1) := by decide +kernel
theorem dL_sequence_315 : decode cL_sequence 315 = .ok (.iushr, 1) := by decide +kernel
theorem dL_sequence_316 : decode cL_sequence 316 = .ok (.iload 11, 2) := by decide +kernel
theorem dL_sequence_318 : decode cL_sequence 318 = .ok (.ifCond .eq 7, 3) := by decide +kernel
theorem dL_sequence_321 : decode cL_sequence 321 = .ok (.iconst 3, 1) := by decide +kernel
theorem dL_sequence_322 : decode cL_sequence 322 = .ok (.goto 5, 3) := by decide +kernel
theorem dL_sequence_325 : decode cL_sequence 325 = .ok (.bipush 7, 2) := by decide +kernel
theorem dL_sequence_327 : decode cL_sequence 327 = .ok (.irem, 1) := by decide +kernel
theorem dL_sequence_328 : decode cL_sequence 328 = .ok (.iadd, 1) := by decide +kernel
theorem dL_sequence_329 : decode cL_sequence 329 = .ok (.istore 13, 2) := by decide +kernel
theorem dL_sequence_331 : decode cL_sequence 331 = .ok (.aload_n 2, 1) := by decide +kernel
theorem dL_sequence_332 : decode cL_sequence 332 = .ok (.iload 11, 2) := by decide +kernel
theorem dL_sequence_334 : decode cL_sequence 334 = .ok (.ifCond .eq 8, 3) := by decide +kernel
theorem dL_sequence_337 : decode cL_sequence 337 = .ok (.bipush 99, 2) := by decide +kernel
theorem dL_sequence_339 : decode cL_sequence 339 = .ok (.goto 5, 3) := by decide +kernel
theorem dL_sequence_342 : decode cL_sequence 342 = .ok (.bipush 114, 2) := by decide +kernel
theorem dL_sequence_344 : decode cL_sequence 344 = .ok (.invokevirtual 159, 3) := by decide +kernel
theorem dL_sequence_347 : decode cL_sequence 347 = .ok (.iload 12, 2) := by decide +kernel
theorem dL_sequence_349 : decode cL_sequence 349 = .ok (.invokevirtual 166, 3) := by decide +kernel
theorem dL_sequence_352 : decode cL_sequence 352 = .ok (.iload 13, 2) := by decide +kernel
theorem dL_sequence_354 : decode cL_sequence 354 = .ok (.invokevirtual 166, 3) := by decide +kernel
theorem dL_sequence_357 : decode cL_sequence 357 = .ok (.pop, 1) := by decide +kernel
theorem dL_sequence_358 : decode cL_sequence 358 = .ok (.iload 11, 2) := by decide +kernel
theorem dL_sequence_360 : decode cL_sequence 360 = .ok (.iload 12, 2) := by decide +kernel
theorem dL_sequence_362 : decode cL_sequence 362 = .ok (.iload 13, 2) := by decide +kernel
theorem dL_sequence_364 : decode cL_sequence 364 = .ok (.invokestatic 148, 3) := by decide +kernel
theorem dL_sequence_367 : decode cL_sequence 367 = .ok (.astore 10, 2) := by decide +kernel
theorem dL_sequence_369 : decode cL_sequence 369 = .ok (.aload_n 1, 1) := by decide +kernel
theorem dL_sequence_370 : decode cL_sequence 370 = .ok (.iconst 1, 1) := by decide +kernel
theorem dL_sequence_371 : decode cL_sequence 371 = .ok (.iconst 1, 1) := by decide +kernel
theorem dL_sequence_372 : decode cL_sequence 372 = .ok (.iastore, 1) := by decide +kernel
theorem dL_sequence_373 : decode cL_sequence 373 = .ok (.iload 9, 2) := by decide +kernel
theorem dL_sequence_375 : decode cL_sequence 375 = .ok (.bipush 8, 2) := by decide +kernel
theorem dL_sequence_377 : decode cL_sequence 377 = .ok (.iushr, 1) := by decide +kernel
theorem dL_sequence_378 : decode cL_sequence 378 = .ok (.iconst 4, 1) := by decide +kernel
theorem dL_sequence_379 : decode cL_sequence 379 = .ok (.irem, 1) := by decide +kernel
theorem dL_sequence_380 : decode cL_sequence 380 = .ok (.ifCond .ne 17, 3) := by decide +kernel
theorem dL_sequence_383 : decode cL_sequence 383 = .ok (.aload_n 2, 1) := by decide +kernel
theorem dL_sequence_384 : decode cL_sequence 384 = .ok (.bipush 39, 2) := by decide +kernel
theorem dL_sequence_386 : decode cL_sequence 386 = .ok (.invokevirtual 159, 3) := by decide +kernel
theorem dL_sequence_389 : decode cL_sequence 389 = .ok (.pop, 1) := by decide +kernel
theorem dL_sequence_390 : decode cL_sequence 390 = .ok (.aload 10, 2) := by decide +kernel
theorem dL_sequence_392 : decode cL_sequence 392 = .ok (.invokestatic 173, 3) := by decide +kernel
theorem dL_sequence_395 : decode cL_sequence 395 = .ok (.astore 10, 2) := by decide +kernel
theorem dL_sequence_397 : decode cL_sequence 397 = .ok (.iload 5, 2) := by decide +kernel
theorem dL_sequence_399 : decode cL_sequence 399 = .ok (.aload_n 1, 1) := by decide +kernel
theorem dL_sequence_400 : decode cL_sequence 400 = .ok (.iconst 1, 1) := by decide +kernel
theorem dL_sequence_401 : decode cL_sequence 401 = .ok (.iaload, 1) := by decide +kernel
theorem dL_sequence_402 : decode cL_sequence 402 = .ok (.iadd, 1) := by decide +kernel
theorem dL_sequence_403 : decode cL_sequence 403 = .ok (.istore 5, 2) := by decide +kernel
theorem dL_sequence_405 : decode cL_sequence 405 = .ok (.aload 4, 2) := by decide +kernel
theorem dL_sequence_407 : decode cL_sequence 407 = .ok (.aload 10, 2) := by decide +kernel
theorem dL_sequence_409 : decode cL_sequence 409 = .ok (.invokestatic 169, 3) := by decide +kernel
theorem dL_sequence_412 : decode cL_sequence 412 = .ok (.astore 4, 2) := by decide +kernel
theorem dL_sequence_414 : decode cL_sequence 414 = .ok (.iinc 7 1, 3) := by decide +kernel
theorem dL_sequence_417 : decode cL_sequence 417 = .ok (.goto (-373), 3) := by decide +kernel
theorem dL_sequence_420 : decode cL_sequence 420 = .ok (.aload_n 1, 1) := by decide +kernel
theorem dL_sequence_421 : decode cL_sequence 421 = .ok (.iconst 1, 1) := by decide +kernel
theorem dL_sequence_422 : decode cL_sequence 422 = .ok (.iload 5, 2) := by decide +kernel
theorem dL_sequence_424 : decode cL_sequence 424 = .ok (.iastore, 1) := by decide +kernel
theorem dL_sequence_425 : decode cL_sequence 425 = .ok (.aload 4, 2) := by decide +kernel
theorem dL_sequence_427 : decode cL_sequence 427 = .ok (.areturn, 1) := by decide +kernel
theorem dL_drawn_0 : decode cL_drawn 0 = .ok (.new 9, 3) := by decide +kernel
theorem dL_drawn_3 : decode cL_drawn 3 = .ok (.dup, 1) := by decide +kernel
