/-! ===== printed: decode rows of the law's own methods ===== -/
theorem dL_turn_0 : decode cL_turn 0 = .ok (.aload_n 3, 1) := by decide +kernel
theorem dL_turn_1 : decode cL_turn 1 = .ok (.iconst 0, 1) := by decide +kernel
theorem dL_turn_2 : decode cL_turn 2 = .ok (.aload_n 0, 1) := by decide +kernel
theorem dL_turn_3 : decode cL_turn 3 = .ok (.iload_n 1, 1) := by decide +kernel
theorem dL_turn_4 : decode cL_turn 4 = .ok (.iload_n 2, 1) := by decide +kernel
theorem dL_turn_5 : decode cL_turn 5 = .ok (.invokevirtual 7, 3) := by decide +kernel
theorem dL_turn_8 : decode cL_turn 8 = .ok (.i2l, 1) := by decide +kernel
theorem dL_turn_9 : decode cL_turn 9 = .ok (.lastore, 1) := by decide +kernel
theorem dL_turn_10 : decode cL_turn 10 = .ok (.goto 11, 3) := by decide +kernel
theorem dL_turn_13 : decode cL_turn 13 = .ok (.astore 4, 2) := by decide +kernel
theorem dL_turn_15 : decode cL_turn 15 = .ok (.iconst 1, 1) := by decide +kernel
theorem dL_turn_16 : decode cL_turn 16 = .ok (.ireturn, 1) := by decide +kernel
theorem dL_turn_17 : decode cL_turn 17 = .ok (.astore 4, 2) := by decide +kernel
theorem dL_turn_19 : decode cL_turn 19 = .ok (.iconst 2, 1) := by decide +kernel
theorem dL_turn_20 : decode cL_turn 20 = .ok (.ireturn, 1) := by decide +kernel
theorem dL_turn_21 : decode cL_turn 21 = .ok (.iconst 0, 1) := by decide +kernel
theorem dL_turn_22 : decode cL_turn 22 = .ok (.ireturn, 1) := by decide +kernel
theorem dL_shift_0 : decode cL_shift 0 = .ok (.aload_n 3, 1) := by decide +kernel
theorem dL_shift_1 : decode cL_shift 1 = .ok (.iconst 0, 1) := by decide +kernel
theorem dL_shift_2 : decode cL_shift 2 = .ok (.aload_n 0, 1) := by decide +kernel
theorem dL_shift_3 : decode cL_shift 3 = .ok (.iload_n 1, 1) := by decide +kernel
theorem dL_shift_4 : decode cL_shift 4 = .ok (.iload_n 2, 1) := by decide +kernel
theorem dL_shift_5 : decode cL_shift 5 = .ok (.invokevirtual 17, 3) := by decide +kernel
theorem dL_shift_8 : decode cL_shift 8 = .ok (.i2l, 1) := by decide +kernel
theorem dL_shift_9 : decode cL_shift 9 = .ok (.lastore, 1) := by decide +kernel
theorem dL_shift_10 : decode cL_shift 10 = .ok (.goto 11, 3) := by decide +kernel
theorem dL_shift_13 : decode cL_shift 13 = .ok (.astore 4, 2) := by decide +kernel
theorem dL_shift_15 : decode cL_shift 15 = .ok (.iconst 1, 1) := by decide +kernel
theorem dL_shift_16 : decode cL_shift 16 = .ok (.ireturn, 1) := by decide +kernel
theorem dL_shift_17 : decode cL_shift 17 = .ok (.astore 4, 2) := by decide +kernel
theorem dL_shift_19 : decode cL_shift 19 = .ok (.iconst 2, 1) := by decide +kernel
theorem dL_shift_20 : decode cL_shift 20 = .ok (.ireturn, 1) := by decide +kernel
theorem dL_shift_21 : decode cL_shift 21 = .ok (.iconst 0, 1) := by decide +kernel
theorem dL_shift_22 : decode cL_shift 22 = .ok (.ireturn, 1) := by decide +kernel
theorem dL_back_0 : decode cL_back 0 = .ok (.aload_n 1, 1) := by decide +kernel
theorem dL_back_1 : decode cL_back 1 = .ok (.iconst 0, 1) := by decide +kernel
theorem dL_back_2 : decode cL_back 2 = .ok (.aload_n 0, 1) := by decide +kernel
theorem dL_back_3 : decode cL_back 3 = .ok (.invokevirtual 20, 3) := by decide +kernel
theorem dL_back_6 : decode cL_back 6 = .ok (.i2l, 1) := by decide +kernel
theorem dL_back_7 : decode cL_back 7 = .ok (.lastore, 1) := by decide +kernel
theorem dL_back_8 : decode cL_back 8 = .ok (.goto 6, 3) := by decide +kernel
theorem dL_back_11 : decode cL_back 11 = .ok (.astore_n 2, 1) := by decide +kernel
theorem dL_back_12 : decode cL_back 12 = .ok (.iconst 1, 1) := by decide +kernel
theorem dL_back_13 : decode cL_back 13 = .ok (.ireturn, 1) := by decide +kernel
theorem dL_back_14 : decode cL_back 14 = .ok (.iconst 0, 1) := by decide +kernel
theorem dL_back_15 : decode cL_back 15 = .ok (.ireturn, 1) := by decide +kernel
theorem dL_scramble_0 : decode cL_scramble 0 = .ok (.aload_n 3, 1) := by decide +kernel
theorem dL_scramble_1 : decode cL_scramble 1 = .ok (.iconst 0, 1) := by decide +kernel
theorem dL_scramble_2 : decode cL_scramble 2 = .ok (.aload_n 0, 1) := by decide +kernel
theorem dL_scramble_3 : decode cL_scramble 3 = .ok (.iload_n 1, 1) := by decide +kernel
theorem dL_scramble_4 : decode cL_scramble 4 = .ok (.iload_n 2, 1) := by decide +kernel
theorem dL_scramble_5 : decode cL_scramble 5 = .ok (.invokevirtual 26, 3) := by decide +kernel
theorem dL_scramble_8 : decode cL_scramble 8 = .ok (.i2l, 1) := by decide +kernel
theorem dL_scramble_9 : decode cL_scramble 9 = .ok (.lastore, 1) := by decide +kernel
theorem dL_scramble_10 : decode cL_scramble 10 = .ok (.goto 7, 3) := by decide +kernel
theorem dL_scramble_13 : decode cL_scramble 13 = .ok (.astore 4, 2) := by decide +kernel
theorem dL_scramble_15 : decode cL_scramble 15 = .ok (.iconst 1, 1) := by decide +kernel
theorem dL_scramble_16 : decode cL_scramble 16 = .ok (.ireturn, 1) := by decide +kernel
theorem dL_scramble_17 : decode cL_scramble 17 = .ok (.iconst 0, 1) := by decide +kernel
theorem dL_scramble_18 : decode cL_scramble 18 = .ok (.ireturn, 1) := by decide +kernel
theorem dL_logOf_0 : decode cL_logOf 0 = .ok (.aload_n 3, 1) := by decide +kernel
theorem dL_logOf_1 : decode cL_logOf 1 = .ok (.iconst 0, 1) := by decide +kernel
theorem dL_logOf_2 : decode cL_logOf 2 = .ok (.aload_n 0, 1) := by decide +kernel
theorem dL_logOf_3 : decode cL_logOf 3 = .ok (.iload_n 1, 1) := by decide +kernel
theorem dL_logOf_4 : decode cL_logOf 4 = .ok (.iload_n 2, 1) := by decide +kernel
theorem dL_logOf_5 : decode cL_logOf 5 = .ok (.invokevirtual 29, 3) := by decide +kernel
theorem dL_logOf_8 : decode cL_logOf 8 = .ok (.i2l, 1) := by decide +kernel
theorem dL_logOf_9 : decode cL_logOf 9 = .ok (.lastore, 1) := by decide +kernel
theorem dL_logOf_10 : decode cL_logOf 10 = .ok (.goto 11, 3) := by decide +kernel
theorem dL_logOf_13 : decode cL_logOf 13 = .ok (.astore 4, 2) := by decide +kernel
theorem dL_logOf_15 : decode cL_logOf 15 = .ok (.iconst 1, 1) := by decide +kernel
theorem dL_logOf_16 : decode cL_logOf 16 = .ok (.ireturn, 1) := by decide +kernel
theorem dL_logOf_17 : decode cL_logOf 17 = .ok (.astore 4, 2) := by decide +kernel
theorem dL_logOf_19 : decode cL_logOf 19 = .ok (.iconst 2, 1) := by decide +kernel
theorem dL_logOf_20 : decode cL_logOf 20 = .ok (.ireturn, 1) := by decide +kernel
theorem dL_logOf_21 : decode cL_logOf 21 = .ok (.iconst 0, 1) := by decide +kernel
theorem dL_logOf_22 : decode cL_logOf 22 = .ok (.ireturn, 1) := by decide +kernel
theorem dL_at_0 : decode cL_at 0 = .ok (.aload_n 2, 1) := by decide +kernel
theorem dL_at_1 : decode cL_at 1 = .ok (.iconst 0, 1) := by decide +kernel
theorem dL_at_2 : decode cL_at 2 = .ok (.aload_n 0, 1) := by decide +kernel
theorem dL_at_3 : decode cL_at 3 = .ok (.iload_n 1, 1) := by decide +kernel
theorem dL_at_4 : decode cL_at 4 = .ok (.invokevirtual 32, 3) := by decide +kernel
theorem dL_at_7 : decode cL_at 7 = .ok (.i2l, 1) := by decide +kernel
theorem dL_at_8 : decode cL_at 8 = .ok (.lastore, 1) := by decide +kernel
theorem dL_at_9 : decode cL_at 9 = .ok (.goto 6, 3) := by decide +kernel
theorem dL_at_12 : decode cL_at 12 = .ok (.astore_n 3, 1) := by decide +kernel
theorem dL_at_13 : decode cL_at 13 = .ok (.iconst 1, 1) := by decide +kernel
theorem dL_at_14 : decode cL_at 14 = .ok (.ireturn, 1) := by decide +kernel
theorem dL_at_15 : decode cL_at 15 = .ok (.iconst 0, 1) := by decide +kernel
theorem dL_at_16 : decode cL_at 16 = .ok (.ireturn, 1) := by decide +kernel
theorem dL_where_0 : decode cL_where 0 = .ok (.aload_n 2, 1) := by decide +kernel
theorem dL_where_1 : decode cL_where 1 = .ok (.iconst 0, 1) := by decide +kernel
theorem dL_where_2 : decode cL_where 2 = .ok (.aload_n 0, 1) := by decide +kernel
theorem dL_where_3 : decode cL_where 3 = .ok (.iload_n 1, 1) := by decide +kernel
theorem dL_where_4 : decode cL_where 4 = .ok (.invokevirtual 36, 3) := by decide +kernel
theorem dL_where_7 : decode cL_where 7 = .ok (.i2l, 1) := by decide +kernel
theorem dL_where_8 : decode cL_where 8 = .ok (.lastore, 1) := by decide +kernel
theorem dL_where_9 : decode cL_where 9 = .ok (.goto 6, 3) := by decide +kernel
theorem dL_where_12 : decode cL_where 12 = .ok (.astore_n 3, 1) := by decide +kernel
theorem dL_where_13 : decode cL_where 13 = .ok (.iconst 1, 1) := by decide +kernel
theorem dL_where_14 : decode cL_where 14 = .ok (.ireturn, 1) := by decide +kernel
theorem dL_where_15 : decode cL_where 15 = .ok (.iconst 0, 1) := by decide +kernel
theorem dL_where_16 : decode cL_where 16 = .ok (.ireturn, 1) := by decide +kernel
theorem dL_paint_0 : decode cL_paint 0 = .ok (.aload_n 3, 1) := by decide +kernel
theorem dL_paint_1 : decode cL_paint 1 = .ok (.iconst 0, 1) := by decide +kernel
theorem dL_paint_2 : decode cL_paint 2 = .ok (.aload_n 0, 1) := by decide +kernel
theorem dL_paint_3 : decode cL_paint 3 = .ok (.iload_n 1, 1) := by decide +kernel
theorem dL_paint_4 : decode cL_paint 4 = .ok (.iload_n 2, 1) := by decide +kernel
theorem dL_paint_5 : decode cL_paint 5 = .ok (.invokevirtual 39, 3) := by decide +kernel
theorem dL_paint_8 : decode cL_paint 8 = .ok (.i2l, 1) := by decide +kernel
theorem dL_paint_9 : decode cL_paint 9 = .ok (.lastore, 1) := by decide +kernel
theorem dL_paint_10 : decode cL_paint 10 = .ok (.goto 15, 3) := by decide +kernel
theorem dL_paint_13 : decode cL_paint 13 = .ok (.astore 4, 2) := by decide +kernel
theorem dL_paint_15 : decode cL_paint 15 = .ok (.iconst 1, 1) := by decide +kernel
theorem dL_paint_16 : decode cL_paint 16 = .ok (.ireturn, 1) := by decide +kernel
theorem dL_paint_17 : decode cL_paint 17 = .ok (.astore 4, 2) := by decide +kernel
theorem dL_paint_19 : decode cL_paint 19 = .ok (.iconst 2, 1) := by decide +kernel
theorem dL_paint_20 : decode cL_paint 20 = .ok (.ireturn, 1) := by decide +kernel
theorem dL_paint_21 : decode cL_paint 21 = .ok (.astore 4, 2) := by decide +kernel
theorem dL_paint_23 : decode cL_paint 23 = .ok (.iconst 3, 1) := by decide +kernel
theorem dL_paint_24 : decode cL_paint 24 = .ok (.ireturn, 1) := by decide +kernel
theorem dL_paint_25 : decode cL_paint 25 = .ok (.iconst 0, 1) := by decide +kernel
theorem dL_paint_26 : decode cL_paint 26 = .ok (.ireturn, 1) := by decide +kernel
theorem dL_colour_0 : decode cL_colour 0 = .ok (.aload_n 2, 1) := by decide +kernel
theorem dL_colour_1 : decode cL_colour 1 = .ok (.iconst 0, 1) := by decide +kernel
theorem dL_colour_2 : decode cL_colour 2 = .ok (.aload_n 0, 1) := by decide +kernel
theorem dL_colour_3 : decode cL_colour 3 = .ok (.iload_n 1, 1) := by decide +kernel
theorem dL_colour_4 : decode cL_colour 4 = .ok (.invokevirtual 42, 3) := by decide +kernel
theorem dL_colour_7 : decode cL_colour 7 = .ok (.i2l, 1) := by decide +kernel
theorem dL_colour_8 : decode cL_colour 8 = .ok (.lastore, 1) := by decide +kernel
theorem dL_colour_9 : decode cL_colour 9 = .ok (.goto 6, 3) := by decide +kernel
theorem dL_colour_12 : decode cL_colour 12 = .ok (.astore_n 3, 1) := by decide +kernel
theorem dL_colour_13 : decode cL_colour 13 = .ok (.iconst 1, 1) := by decide +kernel
theorem dL_colour_14 : decode cL_colour 14 = .ok (.ireturn, 1) := by decide +kernel
theorem dL_colour_15 : decode cL_colour 15 = .ok (.iconst 0, 1) := by decide +kernel
theorem dL_colour_16 : decode cL_colour 16 = .ok (.ireturn, 1) := by decide +kernel
theorem dL_isDone_0 : decode cL_isDone 0 = .ok (.aload_n 2, 1) := by decide +kernel
theorem dL_isDone_1 : decode cL_isDone 1 = .ok (.iconst 0, 1) := by decide +kernel
theorem dL_isDone_2 : decode cL_isDone 2 = .ok (.aload_n 0, 1) := by decide +kernel
theorem dL_isDone_3 : decode cL_isDone 3 = .ok (.iload_n 1, 1) := by decide +kernel
theorem dL_isDone_4 : decode cL_isDone 4 = .ok (.invokevirtual 45, 3) := by decide +kernel
theorem dL_isDone_7 : decode cL_isDone 7 = .ok (.ifCond .eq 7, 3) := by decide +kernel
theorem dL_isDone_10 : decode cL_isDone 10 = .ok (.lconst 1, 1) := by decide +kernel
theorem dL_isDone_11 : decode cL_isDone 11 = .ok (.goto 4, 3) := by decide +kernel
theorem dL_isDone_14 : decode cL_isDone 14 = .ok (.lconst 0, 1) := by decide +kernel
theorem dL_isDone_15 : decode cL_isDone 15 = .ok (.lastore, 1) := by decide +kernel
theorem dL_isDone_16 : decode cL_isDone 16 = .ok (.goto 6, 3) := by decide +kernel
theorem dL_isDone_19 : decode cL_isDone 19 = .ok (.astore_n 3, 1) := by decide +kernel
theorem dL_isDone_20 : decode cL_isDone 20 = .ok (.iconst 1, 1) := by decide +kernel
theorem dL_isDone_21 : decode cL_isDone 21 = .ok (.ireturn, 1) := by decide +kernel
theorem dL_isDone_22 : decode cL_isDone 22 = .ok (.iconst 0, 1) := by decide +kernel
theorem dL_isDone_23 : decode cL_isDone 23 = .ok (.ireturn, 1) := by decide +kernel
theorem dL_fewest_0 : decode cL_fewest 0 = .ok (.aload_n 3, 1) := by decide +kernel
theorem dL_fewest_1 : decode cL_fewest 1 = .ok (.iconst 0, 1) := by decide +kernel
theorem dL_fewest_2 : decode cL_fewest 2 = .ok (.aload_n 0, 1) := by decide +kernel
theorem dL_fewest_3 : decode cL_fewest 3 = .ok (.iload_n 1, 1) := by decide +kernel
theorem dL_fewest_4 : decode cL_fewest 4 = .ok (.iload_n 2, 1) := by decide +kernel
theorem dL_fewest_5 : decode cL_fewest 5 = .ok (.invokevirtual 49, 3) := by decide +kernel
theorem dL_fewest_8 : decode cL_fewest 8 = .ok (.i2l, 1) := by decide +kernel
theorem dL_fewest_9 : decode cL_fewest 9 = .ok (.lastore, 1) := by decide +kernel
theorem dL_fewest_10 : decode cL_fewest 10 = .ok (.goto 7, 3) := by decide +kernel
theorem dL_fewest_13 : decode cL_fewest 13 = .ok (.astore 4, 2) := by decide +kernel
theorem dL_fewest_15 : decode cL_fewest 15 = .ok (.iconst 1, 1) := by decide +kernel
theorem dL_fewest_16 : decode cL_fewest 16 = .ok (.ireturn, 1) := by decide +kernel
theorem dL_fewest_17 : decode cL_fewest 17 = .ok (.iconst 0, 1) := by decide +kernel
theorem dL_fewest_18 : decode cL_fewest 18 = .ok (.ireturn, 1) := by decide +kernel
theorem dL_learn_0 : decode cL_learn 0 = .ok (.aload_n 2, 1) := by decide +kernel
theorem dL_learn_1 : decode cL_learn 1 = .ok (.iconst 0, 1) := by decide +kernel
theorem dL_learn_2 : decode cL_learn 2 = .ok (.aload_n 0, 1) := by decide +kernel
theorem dL_learn_3 : decode cL_learn 3 = .ok (.iload_n 1, 1) := by decide +kernel
theorem dL_learn_4 : decode cL_learn 4 = .ok (.invokevirtual 52, 3) := by decide +kernel
theorem dL_learn_7 : decode cL_learn 7 = .ok (.i2l, 1) := by decide +kernel
theorem dL_learn_8 : decode cL_learn 8 = .ok (.lastore, 1) := by decide +kernel
theorem dL_learn_9 : decode cL_learn 9 = .ok (.goto 12, 3) := by decide +kernel
theorem dL_learn_12 : decode cL_learn 12 = .ok (.astore_n 3, 1) := by decide +kernel
theorem dL_learn_13 : decode cL_learn 13 = .ok (.iconst 1, 1) := by decide +kernel
theorem dL_learn_14 : decode cL_learn 14 = .ok (.ireturn, 1) := by decide +kernel
theorem dL_learn_15 : decode cL_learn 15 = .ok (.astore_n 3, 1) := by decide +kernel
theorem dL_learn_16 : decode cL_learn 16 = .ok (.iconst 2, 1) := by decide +kernel
theorem dL_learn_17 : decode cL_learn 17 = .ok (.ireturn, 1) := by decide +kernel
theorem dL_learn_18 : decode cL_learn 18 = .ok (.astore_n 3, 1) := by decide +kernel
theorem dL_learn_19 : decode cL_learn 19 = .ok (.iconst 3, 1) := by decide +kernel
theorem dL_learn_20 : decode cL_learn 20 = .ok (.ireturn, 1) := by decide +kernel
theorem dL_learn_21 : decode cL_learn 21 = .ok (.iconst 0, 1) := by decide +kernel
theorem dL_learn_22 : decode cL_learn 22 = .ok (.ireturn, 1) := by decide +kernel
theorem dL_use_0 : decode cL_use 0 = .ok (.aload_n 3, 1) := by decide +kernel
theorem dL_use_1 : decode cL_use 1 = .ok (.iconst 0, 1) := by decide +kernel
theorem dL_use_2 : decode cL_use 2 = .ok (.aload_n 0, 1) := by decide +kernel
theorem dL_use_3 : decode cL_use 3 = .ok (.iload_n 1, 1) := by decide +kernel
theorem dL_use_4 : decode cL_use 4 = .ok (.iload_n 2, 1) := by decide +kernel
theorem dL_use_5 : decode cL_use 5 = .ok (.invokevirtual 55, 3) := by decide +kernel
theorem dL_use_8 : decode cL_use 8 = .ok (.i2l, 1) := by decide +kernel
theorem dL_use_9 : decode cL_use 9 = .ok (.lastore, 1) := by decide +kernel
theorem dL_use_10 : decode cL_use 10 = .ok (.goto 15, 3) := by decide +kernel
theorem dL_use_13 : decode cL_use 13 = .ok (.astore 4, 2) := by decide +kernel
theorem dL_use_15 : decode cL_use 15 = .ok (.iconst 1, 1) := by decide +kernel
theorem dL_use_16 : decode cL_use 16 = .ok (.ireturn, 1) := by decide +kernel
theorem dL_use_17 : decode cL_use 17 = .ok (.astore 4, 2) := by decide +kernel
theorem dL_use_19 : decode cL_use 19 = .ok (.iconst 2, 1) := by decide +kernel
theorem dL_use_20 : decode cL_use 20 = .ok (.ireturn, 1) := by decide +kernel
theorem dL_use_21 : decode cL_use 21 = .ok (.astore 4, 2) := by decide +kernel
theorem dL_use_23 : decode cL_use 23 = .ok (.iconst 3, 1) := by decide +kernel
theorem dL_use_24 : decode cL_use 24 = .ok (.ireturn, 1) := by decide +kernel
theorem dL_use_25 : decode cL_use 25 = .ok (.iconst 0, 1) := by decide +kernel
theorem dL_use_26 : decode cL_use 26 = .ok (.ireturn, 1) := by decide +kernel
theorem dL_join_0 : decode cL_join 0 = .ok (.aload 4, 2) := by decide +kernel
theorem dL_join_2 : decode cL_join 2 = .ok (.iconst 0, 1) := by decide +kernel
theorem dL_join_3 : decode cL_join 3 = .ok (.aload_n 0, 1) := by decide +kernel
theorem dL_join_4 : decode cL_join 4 = .ok (.iload_n 1, 1) := by decide +kernel
theorem dL_join_5 : decode cL_join 5 = .ok (.iload_n 2, 1) := by decide +kernel
theorem dL_join_6 : decode cL_join 6 = .ok (.iload_n 3, 1) := by decide +kernel
theorem dL_join_7 : decode cL_join 7 = .ok (.invokevirtual 58, 3) := by decide +kernel
theorem dL_join_10 : decode cL_join 10 = .ok (.i2l, 1) := by decide +kernel
theorem dL_join_11 : decode cL_join 11 = .ok (.lastore, 1) := by decide +kernel
theorem dL_join_12 : decode cL_join 12 = .ok (.goto 11, 3) := by decide +kernel
theorem dL_join_15 : decode cL_join 15 = .ok (.astore 5, 2) := by decide +kernel
theorem dL_join_17 : decode cL_join 17 = .ok (.iconst 1, 1) := by decide +kernel
theorem dL_join_18 : decode cL_join 18 = .ok (.ireturn, 1) := by decide +kernel
theorem dL_join_19 : decode cL_join 19 = .ok (.astore 5, 2) := by decide +kernel
theorem dL_join_21 : decode cL_join 21 = .ok (.iconst 2, 1) := by decide +kernel
theorem dL_join_22 : decode cL_join 22 = .ok (.ireturn, 1) := by decide +kernel
theorem dL_join_23 : decode cL_join 23 = .ok (.iconst 0, 1) := by decide +kernel
theorem dL_join_24 : decode cL_join 24 = .ok (.ireturn, 1) := by decide +kernel
theorem dL_invert_0 : decode cL_invert 0 = .ok (.aload_n 3, 1) := by decide +kernel
theorem dL_invert_1 : decode cL_invert 1 = .ok (.iconst 0, 1) := by decide +kernel
theorem dL_invert_2 : decode cL_invert 2 = .ok (.aload_n 0, 1) := by decide +kernel
theorem dL_invert_3 : decode cL_invert 3 = .ok (.iload_n 1, 1) := by decide +kernel
theorem dL_invert_4 : decode cL_invert 4 = .ok (.iload_n 2, 1) := by decide +kernel
theorem dL_invert_5 : decode cL_invert 5 = .ok (.invokevirtual 62, 3) := by decide +kernel
theorem dL_invert_8 : decode cL_invert 8 = .ok (.i2l, 1) := by decide +kernel
theorem dL_invert_9 : decode cL_invert 9 = .ok (.lastore, 1) := by decide +kernel
theorem dL_invert_10 : decode cL_invert 10 = .ok (.goto 11, 3) := by decide +kernel
theorem dL_invert_13 : decode cL_invert 13 = .ok (.astore 4, 2) := by decide +kernel
theorem dL_invert_15 : decode cL_invert 15 = .ok (.iconst 1, 1) := by decide +kernel
theorem dL_invert_16 : decode cL_invert 16 = .ok (.ireturn, 1) := by decide +kernel
theorem dL_invert_17 : decode cL_invert 17 = .ok (.astore 4, 2) := by decide +kernel
theorem dL_invert_19 : decode cL_invert 19 = .ok (.iconst 2, 1) := by decide +kernel
theorem dL_invert_20 : decode cL_invert 20 = .ok (.ireturn, 1) := by decide +kernel
theorem dL_invert_21 : decode cL_invert 21 = .ok (.iconst 0, 1) := by decide +kernel
theorem dL_invert_22 : decode cL_invert 22 = .ok (.ireturn, 1) := by decide +kernel
theorem dL_commute_0 : decode cL_commute 0 = .ok (.aload 4, 2) := by decide +kernel
theorem dL_commute_2 : decode cL_commute 2 = .ok (.iconst 0, 1) := by decide +kernel
theorem dL_commute_3 : decode cL_commute 3 = .ok (.aload_n 0, 1) := by decide +kernel
theorem dL_commute_4 : decode cL_commute 4 = .ok (.iload_n 1, 1) := by decide +kernel
theorem dL_commute_5 : decode cL_commute 5 = .ok (.iload_n 2, 1) := by decide +kernel
theorem dL_commute_6 : decode cL_commute 6 = .ok (.iload_n 3, 1) := by decide +kernel
theorem dL_commute_7 : decode cL_commute 7 = .ok (.invokevirtual 65, 3) := by decide +kernel
theorem dL_commute_10 : decode cL_commute 10 = .ok (.i2l, 1) := by decide +kernel
theorem dL_commute_11 : decode cL_commute 11 = .ok (.lastore, 1) := by decide +kernel
theorem dL_commute_12 : decode cL_commute 12 = .ok (.goto 11, 3) := by decide +kernel
theorem dL_commute_15 : decode cL_commute 15 = .ok (.astore 5, 2) := by decide +kernel
theorem dL_commute_17 : decode cL_commute 17 = .ok (.iconst 1, 1) := by decide +kernel
theorem dL_commute_18 : decode cL_commute 18 = .ok (.ireturn, 1) := by decide +kernel
theorem dL_commute_19 : decode cL_commute 19 = .ok (.astore 5, 2) := by decide +kernel
theorem dL_commute_21 : decode cL_commute 21 = .ok (.iconst 2, 1) := by decide +kernel
theorem dL_commute_22 : decode cL_commute 22 = .ok (.ireturn, 1) := by decide +kernel
theorem dL_commute_23 : decode cL_commute 23 = .ok (.iconst 0, 1) := by decide +kernel
theorem dL_commute_24 : decode cL_commute 24 = .ok (.ireturn, 1) := by decide +kernel
theorem dL_forget_0 : decode cL_forget 0 = .ok (.aload_n 2, 1) := by decide +kernel
theorem dL_forget_1 : decode cL_forget 1 = .ok (.iconst 0, 1) := by decide +kernel
theorem dL_forget_2 : decode cL_forget 2 = .ok (.aload_n 0, 1) := by decide +kernel
theorem dL_forget_3 : decode cL_forget 3 = .ok (.iload_n 1, 1) := by decide +kernel
theorem dL_forget_4 : decode cL_forget 4 = .ok (.invokevirtual 68, 3) := by decide +kernel
theorem dL_forget_7 : decode cL_forget 7 = .ok (.i2l, 1) := by decide +kernel
theorem dL_forget_8 : decode cL_forget 8 = .ok (.lastore, 1) := by decide +kernel
theorem dL_forget_9 : decode cL_forget 9 = .ok (.goto 9, 3) := by decide +kernel
theorem dL_forget_12 : decode cL_forget 12 = .ok (.astore_n 3, 1) := by decide +kernel
theorem dL_forget_13 : decode cL_forget 13 = .ok (.iconst 1, 1) := by decide +kernel
theorem dL_forget_14 : decode cL_forget 14 = .ok (.ireturn, 1) := by decide +kernel
theorem dL_forget_15 : decode cL_forget 15 = .ok (.astore_n 3, 1) := by decide +kernel
theorem dL_forget_16 : decode cL_forget 16 = .ok (.iconst 2, 1) := by decide +kernel
theorem dL_forget_17 : decode cL_forget 17 = .ok (.ireturn, 1) := by decide +kernel
theorem dL_forget_18 : decode cL_forget 18 = .ok (.iconst 0, 1) := by decide +kernel
theorem dL_forget_19 : decode cL_forget 19 = .ok (.ireturn, 1) := by decide +kernel
theorem dL_goesTo_0 : decode cL_goesTo 0 = .ok (.aload_n 3, 1) := by decide +kernel
theorem dL_goesTo_1 : decode cL_goesTo 1 = .ok (.iconst 0, 1) := by decide +kernel
theorem dL_goesTo_2 : decode cL_goesTo 2 = .ok (.aload_n 0, 1) := by decide +kernel
theorem dL_goesTo_3 : decode cL_goesTo 3 = .ok (.iload_n 1, 1) := by decide +kernel
theorem dL_goesTo_4 : decode cL_goesTo 4 = .ok (.iload_n 2, 1) := by decide +kernel
theorem dL_goesTo_5 : decode cL_goesTo 5 = .ok (.invokevirtual 71, 3) := by decide +kernel
theorem dL_goesTo_8 : decode cL_goesTo 8 = .ok (.i2l, 1) := by decide +kernel
theorem dL_goesTo_9 : decode cL_goesTo 9 = .ok (.lastore, 1) := by decide +kernel
theorem dL_goesTo_10 : decode cL_goesTo 10 = .ok (.goto 11, 3) := by decide +kernel
theorem dL_goesTo_13 : decode cL_goesTo 13 = .ok (.astore 4, 2) := by decide +kernel
theorem dL_goesTo_15 : decode cL_goesTo 15 = .ok (.iconst 1, 1) := by decide +kernel
theorem dL_goesTo_16 : decode cL_goesTo 16 = .ok (.ireturn, 1) := by decide +kernel
theorem dL_goesTo_17 : decode cL_goesTo 17 = .ok (.astore 4, 2) := by decide +kernel
theorem dL_goesTo_19 : decode cL_goesTo 19 = .ok (.iconst 2, 1) := by decide +kernel
theorem dL_goesTo_20 : decode cL_goesTo 20 = .ok (.ireturn, 1) := by decide +kernel
theorem dL_goesTo_21 : decode cL_goesTo 21 = .ok (.iconst 0, 1) := by decide +kernel
theorem dL_goesTo_22 : decode cL_goesTo 22 = .ok (.ireturn, 1) := by decide +kernel
theorem dL_shelfOf_0 : decode cL_shelfOf 0 = .ok (.aload_n 3, 1) := by decide +kernel
theorem dL_shelfOf_1 : decode cL_shelfOf 1 = .ok (.iconst 0, 1) := by decide +kernel
theorem dL_shelfOf_2 : decode cL_shelfOf 2 = .ok (.aload_n 0, 1) := by decide +kernel
theorem dL_shelfOf_3 : decode cL_shelfOf 3 = .ok (.iload_n 1, 1) := by decide +kernel
theorem dL_shelfOf_4 : decode cL_shelfOf 4 = .ok (.iload_n 2, 1) := by decide +kernel
theorem dL_shelfOf_5 : decode cL_shelfOf 5 = .ok (.invokevirtual 76, 3) := by decide +kernel
theorem dL_shelfOf_8 : decode cL_shelfOf 8 = .ok (.i2l, 1) := by decide +kernel
theorem dL_shelfOf_9 : decode cL_shelfOf 9 = .ok (.lastore, 1) := by decide +kernel
theorem dL_shelfOf_10 : decode cL_shelfOf 10 = .ok (.goto 15, 3) := by decide +kernel
theorem dL_shelfOf_13 : decode cL_shelfOf 13 = .ok (.astore 4, 2) := by decide +kernel
theorem dL_shelfOf_15 : decode cL_shelfOf 15 = .ok (.iconst 1, 1) := by decide +kernel
theorem dL_shelfOf_16 : decode cL_shelfOf 16 = .ok (.ireturn, 1) := by decide +kernel
theorem dL_shelfOf_17 : decode cL_shelfOf 17 = .ok (.astore 4, 2) := by decide +kernel
theorem dL_shelfOf_19 : decode cL_shelfOf 19 = .ok (.iconst 2, 1) := by decide +kernel
theorem dL_shelfOf_20 : decode cL_shelfOf 20 = .ok (.ireturn, 1) := by decide +kernel
theorem dL_shelfOf_21 : decode cL_shelfOf 21 = .ok (.astore 4, 2) := by decide +kernel
theorem dL_shelfOf_23 : decode cL_shelfOf 23 = .ok (.iconst 3, 1) := by decide +kernel
theorem dL_shelfOf_24 : decode cL_shelfOf 24 = .ok (.ireturn, 1) := by decide +kernel
theorem dL_shelfOf_25 : decode cL_shelfOf 25 = .ok (.iconst 0, 1) := by decide +kernel
theorem dL_shelfOf_26 : decode cL_shelfOf 26 = .ok (.ireturn, 1) := by decide +kernel
theorem dL_orderAgain_0 : decode cL_orderAgain 0 = .ok (.aload_n 2, 1) := by decide +kernel
theorem dL_orderAgain_1 : decode cL_orderAgain 1 = .ok (.iconst 0, 1) := by decide +kernel
theorem dL_orderAgain_2 : decode cL_orderAgain 2 = .ok (.aload_n 0, 1) := by decide +kernel
theorem dL_orderAgain_3 : decode cL_orderAgain 3 = .ok (.iload_n 1, 1) := by decide +kernel
theorem dL_orderAgain_4 : decode cL_orderAgain 4 = .ok (.invokevirtual 79, 3) := by decide +kernel
theorem dL_orderAgain_7 : decode cL_orderAgain 7 = .ok (.i2l, 1) := by decide +kernel
theorem dL_orderAgain_8 : decode cL_orderAgain 8 = .ok (.lastore, 1) := by decide +kernel
theorem dL_orderAgain_9 : decode cL_orderAgain 9 = .ok (.goto 9, 3) := by decide +kernel
theorem dL_orderAgain_12 : decode cL_orderAgain 12 = .ok (.astore_n 3, 1) := by decide +kernel
theorem dL_orderAgain_13 : decode cL_orderAgain 13 = .ok (.iconst 1, 1) := by decide +kernel
theorem dL_orderAgain_14 : decode cL_orderAgain 14 = .ok (.ireturn, 1) := by decide +kernel
theorem dL_orderAgain_15 : decode cL_orderAgain 15 = .ok (.astore_n 3, 1) := by decide +kernel
theorem dL_orderAgain_16 : decode cL_orderAgain 16 = .ok (.iconst 2, 1) := by decide +kernel
theorem dL_orderAgain_17 : decode cL_orderAgain 17 = .ok (.ireturn, 1) := by decide +kernel
theorem dL_orderAgain_18 : decode cL_orderAgain 18 = .ok (.iconst 0, 1) := by decide +kernel
theorem dL_orderAgain_19 : decode cL_orderAgain 19 = .ok (.ireturn, 1) := by decide +kernel
theorem dL_isEven_0 : decode cL_isEven 0 = .ok (.aload_n 3, 1) := by decide +kernel
theorem dL_isEven_1 : decode cL_isEven 1 = .ok (.iconst 0, 1) := by decide +kernel
theorem dL_isEven_2 : decode cL_isEven 2 = .ok (.aload_n 0, 1) := by decide +kernel
theorem dL_isEven_3 : decode cL_isEven 3 = .ok (.iload_n 1, 1) := by decide +kernel
theorem dL_isEven_4 : decode cL_isEven 4 = .ok (.iload_n 2, 1) := by decide +kernel
theorem dL_isEven_5 : decode cL_isEven 5 = .ok (.invokevirtual 82, 3) := by decide +kernel
theorem dL_isEven_8 : decode cL_isEven 8 = .ok (.ifCond .eq 7, 3) := by decide +kernel
theorem dL_isEven_11 : decode cL_isEven 11 = .ok (.lconst 1, 1) := by decide +kernel
theorem dL_isEven_12 : decode cL_isEven 12 = .ok (.goto 4, 3) := by decide +kernel
theorem dL_isEven_15 : decode cL_isEven 15 = .ok (.lconst 0, 1) := by decide +kernel
theorem dL_isEven_16 : decode cL_isEven 16 = .ok (.lastore, 1) := by decide +kernel
theorem dL_isEven_17 : decode cL_isEven 17 = .ok (.goto 11, 3) := by decide +kernel
theorem dL_isEven_20 : decode cL_isEven 20 = .ok (.astore 4, 2) := by decide +kernel
theorem dL_isEven_22 : decode cL_isEven 22 = .ok (.iconst 1, 1) := by decide +kernel
theorem dL_isEven_23 : decode cL_isEven 23 = .ok (.ireturn, 1) := by decide +kernel
theorem dL_isEven_24 : decode cL_isEven 24 = .ok (.astore 4, 2) := by decide +kernel
theorem dL_isEven_26 : decode cL_isEven 26 = .ok (.iconst 2, 1) := by decide +kernel
theorem dL_isEven_27 : decode cL_isEven 27 = .ok (.ireturn, 1) := by decide +kernel
theorem dL_isEven_28 : decode cL_isEven 28 = .ok (.iconst 0, 1) := by decide +kernel
theorem dL_isEven_29 : decode cL_isEven 29 = .ok (.ireturn, 1) := by decide +kernel
theorem dL_cycle_0 : decode cL_cycle 0 = .ok (.aload_n 3, 1) := by decide +kernel
theorem dL_cycle_1 : decode cL_cycle 1 = .ok (.iconst 0, 1) := by decide +kernel
theorem dL_cycle_2 : decode cL_cycle 2 = .ok (.aload_n 0, 1) := by decide +kernel
theorem dL_cycle_3 : decode cL_cycle 3 = .ok (.iload_n 1, 1) := by decide +kernel
theorem dL_cycle_4 : decode cL_cycle 4 = .ok (.iload_n 2, 1) := by decide +kernel
theorem dL_cycle_5 : decode cL_cycle 5 = .ok (.invokevirtual 86, 3) := by decide +kernel
theorem dL_cycle_8 : decode cL_cycle 8 = .ok (.i2l, 1) := by decide +kernel
theorem dL_cycle_9 : decode cL_cycle 9 = .ok (.lastore, 1) := by decide +kernel
theorem dL_cycle_10 : decode cL_cycle 10 = .ok (.goto 11, 3) := by decide +kernel
theorem dL_cycle_13 : decode cL_cycle 13 = .ok (.astore 4, 2) := by decide +kernel
theorem dL_cycle_15 : decode cL_cycle 15 = .ok (.iconst 1, 1) := by decide +kernel
theorem dL_cycle_16 : decode cL_cycle 16 = .ok (.ireturn, 1) := by decide +kernel
theorem dL_cycle_17 : decode cL_cycle 17 = .ok (.astore 4, 2) := by decide +kernel
theorem dL_cycle_19 : decode cL_cycle 19 = .ok (.iconst 2, 1) := by decide +kernel
theorem dL_cycle_20 : decode cL_cycle 20 = .ok (.ireturn, 1) := by decide +kernel
theorem dL_cycle_21 : decode cL_cycle 21 = .ok (.iconst 0, 1) := by decide +kernel
theorem dL_cycle_22 : decode cL_cycle 22 = .ok (.ireturn, 1) := by decide +kernel
theorem dL_commutes_0 : decode cL_commutes 0 = .ok (.aload_n 3, 1) := by decide +kernel
theorem dL_commutes_1 : decode cL_commutes 1 = .ok (.iconst 0, 1) := by decide +kernel
theorem dL_commutes_2 : decode cL_commutes 2 = .ok (.aload_n 0, 1) := by decide +kernel
theorem dL_commutes_3 : decode cL_commutes 3 = .ok (.iload_n 1, 1) := by decide +kernel
theorem dL_commutes_4 : decode cL_commutes 4 = .ok (.iload_n 2, 1) := by decide +kernel
theorem dL_commutes_5 : decode cL_commutes 5 = .ok (.invokevirtual 89, 3) := by decide +kernel
theorem dL_commutes_8 : decode cL_commutes 8 = .ok (.ifCond .eq 7, 3) := by decide +kernel
theorem dL_commutes_11 : decode cL_commutes 11 = .ok (.lconst 1, 1) := by decide +kernel
theorem dL_commutes_12 : decode cL_commutes 12 = .ok (.goto 4, 3) := by decide +kernel
theorem dL_commutes_15 : decode cL_commutes 15 = .ok (.lconst 0, 1) := by decide +kernel
theorem dL_commutes_16 : decode cL_commutes 16 = .ok (.lastore, 1) := by decide +kernel
theorem dL_commutes_17 : decode cL_commutes 17 = .ok (.goto 11, 3) := by decide +kernel
theorem dL_commutes_20 : decode cL_commutes 20 = .ok (.astore 4, 2) := by decide +kernel
theorem dL_commutes_22 : decode cL_commutes 22 = .ok (.iconst 1, 1) := by decide +kernel
theorem dL_commutes_23 : decode cL_commutes 23 = .ok (.ireturn, 1) := by decide +kernel
theorem dL_commutes_24 : decode cL_commutes 24 = .ok (.astore 4, 2) := by decide +kernel
theorem dL_commutes_26 : decode cL_commutes 26 = .ok (.iconst 2, 1) := by decide +kernel
theorem dL_commutes_27 : decode cL_commutes 27 = .ok (.ireturn, 1) := by decide +kernel
theorem dL_commutes_28 : decode cL_commutes 28 = .ok (.iconst 0, 1) := by decide +kernel
theorem dL_commutes_29 : decode cL_commutes 29 = .ok (.ireturn, 1) := by decide +kernel
theorem dL_line_0 : decode cL_line 0 = .ok (.aload_n 2, 1) := by decide +kernel
theorem dL_line_1 : decode cL_line 1 = .ok (.iconst 0, 1) := by decide +kernel
theorem dL_line_2 : decode cL_line 2 = .ok (.aload_n 0, 1) := by decide +kernel
theorem dL_line_3 : decode cL_line 3 = .ok (.iload_n 1, 1) := by decide +kernel
theorem dL_line_4 : decode cL_line 4 = .ok (.invokevirtual 93, 3) := by decide +kernel
theorem dL_line_7 : decode cL_line 7 = .ok (.i2l, 1) := by decide +kernel
theorem dL_line_8 : decode cL_line 8 = .ok (.lastore, 1) := by decide +kernel
theorem dL_line_9 : decode cL_line 9 = .ok (.goto 6, 3) := by decide +kernel
theorem dL_line_12 : decode cL_line 12 = .ok (.astore_n 3, 1) := by decide +kernel
theorem dL_line_13 : decode cL_line 13 = .ok (.iconst 1, 1) := by decide +kernel
theorem dL_line_14 : decode cL_line 14 = .ok (.ireturn, 1) := by decide +kernel
theorem dL_line_15 : decode cL_line 15 = .ok (.iconst 0, 1) := by decide +kernel
theorem dL_line_16 : decode cL_line 16 = .ok (.ireturn, 1) := by decide +kernel
theorem dL_cycleLine_0 : decode cL_cycleLine 0 = .ok (.aload_n 2, 1) := by decide +kernel
theorem dL_cycleLine_1 : decode cL_cycleLine 1 = .ok (.iconst 0, 1) := by decide +kernel
theorem dL_cycleLine_2 : decode cL_cycleLine 2 = .ok (.aload_n 0, 1) := by decide +kernel
theorem dL_cycleLine_3 : decode cL_cycleLine 3 = .ok (.iload_n 1, 1) := by decide +kernel
theorem dL_cycleLine_4 : decode cL_cycleLine 4 = .ok (.invokevirtual 96, 3) := by decide +kernel
theorem dL_cycleLine_7 : decode cL_cycleLine 7 = .ok (.i2l, 1) := by decide +kernel
theorem dL_cycleLine_8 : decode cL_cycleLine 8 = .ok (.lastore, 1) := by decide +kernel
theorem dL_cycleLine_9 : decode cL_cycleLine 9 = .ok (.goto 9, 3) := by decide +kernel
theorem dL_cycleLine_12 : decode cL_cycleLine 12 = .ok (.astore_n 3, 1) := by decide +kernel
theorem dL_cycleLine_13 : decode cL_cycleLine 13 = .ok (.iconst 1, 1) := by decide +kernel
theorem dL_cycleLine_14 : decode cL_cycleLine 14 = .ok (.ireturn, 1) := by decide +kernel
theorem dL_cycleLine_15 : decode cL_cycleLine 15 = .ok (.astore_n 3, 1) := by decide +kernel
theorem dL_cycleLine_16 : decode cL_cycleLine 16 = .ok (.iconst 2, 1) := by decide +kernel
theorem dL_cycleLine_17 : decode cL_cycleLine 17 = .ok (.ireturn, 1) := by decide +kernel
theorem dL_cycleLine_18 : decode cL_cycleLine 18 = .ok (.iconst 0, 1) := by decide +kernel
theorem dL_cycleLine_19 : decode cL_cycleLine 19 = .ok (.ireturn, 1) := by decide +kernel
theorem dL_character_0 : decode cL_character 0 = .ok (.aload_n 2, 1) := by decide +kernel
theorem dL_character_1 : decode cL_character 1 = .ok (.iconst 0, 1) := by decide +kernel
theorem dL_character_2 : decode cL_character 2 = .ok (.aload_n 0, 1) := by decide +kernel
theorem dL_character_3 : decode cL_character 3 = .ok (.iload_n 1, 1) := by decide +kernel
theorem dL_character_4 : decode cL_character 4 = .ok (.invokevirtual 99, 3) := by decide +kernel
theorem dL_character_7 : decode cL_character 7 = .ok (.i2l, 1) := by decide +kernel
theorem dL_character_8 : decode cL_character 8 = .ok (.lastore, 1) := by decide +kernel
theorem dL_character_9 : decode cL_character 9 = .ok (.goto 6, 3) := by decide +kernel
theorem dL_character_12 : decode cL_character 12 = .ok (.astore_n 3, 1) := by decide +kernel
theorem dL_character_13 : decode cL_character 13 = .ok (.iconst 1, 1) := by decide +kernel
theorem dL_character_14 : decode cL_character 14 = .ok (.ireturn, 1) := by decide +kernel
theorem dL_character_15 : decode cL_character 15 = .ok (.iconst 0, 1) := by decide +kernel
theorem dL_character_16 : decode cL_character 16 = .ok (.ireturn, 1) := by decide +kernel
theorem dL_append_0 : decode cL_append 0 = .ok (.aload_n 2, 1) := by decide +kernel
theorem dL_append_1 : decode cL_append 1 = .ok (.iconst 0, 1) := by decide +kernel
theorem dL_append_2 : decode cL_append 2 = .ok (.aload_n 0, 1) := by decide +kernel
theorem dL_append_3 : decode cL_append 3 = .ok (.iload_n 1, 1) := by decide +kernel
theorem dL_append_4 : decode cL_append 4 = .ok (.invokevirtual 103, 3) := by decide +kernel
theorem dL_append_7 : decode cL_append 7 = .ok (.i2l, 1) := by decide +kernel
theorem dL_append_8 : decode cL_append 8 = .ok (.lastore, 1) := by decide +kernel
theorem dL_append_9 : decode cL_append 9 = .ok (.goto 6, 3) := by decide +kernel
theorem dL_append_12 : decode cL_append 12 = .ok (.astore_n 3, 1) := by decide +kernel
theorem dL_append_13 : decode cL_append 13 = .ok (.iconst 1, 1) := by decide +kernel
theorem dL_append_14 : decode cL_append 14 = .ok (.ireturn, 1) := by decide +kernel
theorem dL_append_15 : decode cL_append 15 = .ok (.iconst 0, 1) := by decide +kernel
theorem dL_append_16 : decode cL_append 16 = .ok (.ireturn, 1) := by decide +kernel
theorem dL_read_0 : decode cL_read 0 = .ok (.aload_n 1, 1) := by decide +kernel
theorem dL_read_1 : decode cL_read 1 = .ok (.iconst 0, 1) := by decide +kernel
theorem dL_read_2 : decode cL_read 2 = .ok (.aload_n 0, 1) := by decide +kernel
theorem dL_read_3 : decode cL_read 3 = .ok (.invokevirtual 109, 3) := by decide +kernel
theorem dL_read_6 : decode cL_read 6 = .ok (.i2l, 1) := by decide +kernel
theorem dL_read_7 : decode cL_read 7 = .ok (.lastore, 1) := by decide +kernel
theorem dL_read_8 : decode cL_read 8 = .ok (.goto 9, 3) := by decide +kernel
theorem dL_read_11 : decode cL_read 11 = .ok (.astore_n 2, 1) := by decide +kernel
theorem dL_read_12 : decode cL_read 12 = .ok (.iconst 1, 1) := by decide +kernel
theorem dL_read_13 : decode cL_read 13 = .ok (.ireturn, 1) := by decide +kernel
theorem dL_read_14 : decode cL_read 14 = .ok (.astore_n 2, 1) := by decide +kernel
theorem dL_read_15 : decode cL_read 15 = .ok (.iconst 2, 1) := by decide +kernel
theorem dL_read_16 : decode cL_read 16 = .ok (.ireturn, 1) := by decide +kernel
theorem dL_read_17 : decode cL_read 17 = .ok (.iconst 0, 1) := by decide +kernel
theorem dL_read_18 : decode cL_read 18 = .ok (.ireturn, 1) := by decide +kernel
theorem dL_errorPosition_0 : decode cL_errorPosition 0 = .ok (.aload_n 1, 1) := by decide +kernel
theorem dL_errorPosition_1 : decode cL_errorPosition 1 = .ok (.iconst 0, 1) := by decide +kernel
theorem dL_errorPosition_2 : decode cL_errorPosition 2 = .ok (.aload_n 0, 1) := by decide +kernel
theorem dL_errorPosition_3 : decode cL_errorPosition 3 = .ok (.invokevirtual 112, 3) := by decide +kernel
theorem dL_errorPosition_6 : decode cL_errorPosition 6 = .ok (.i2l, 1) := by decide +kernel
theorem dL_errorPosition_7 : decode cL_errorPosition 7 = .ok (.lastore, 1) := by decide +kernel
theorem dL_errorPosition_8 : decode cL_errorPosition 8 = .ok (.goto 6, 3) := by decide +kernel
theorem dL_errorPosition_11 : decode cL_errorPosition 11 = .ok (.astore_n 2, 1) := by decide +kernel
theorem dL_errorPosition_12 : decode cL_errorPosition 12 = .ok (.iconst 1, 1) := by decide +kernel
theorem dL_errorPosition_13 : decode cL_errorPosition 13 = .ok (.ireturn, 1) := by decide +kernel
theorem dL_errorPosition_14 : decode cL_errorPosition 14 = .ok (.iconst 0, 1) := by decide +kernel
theorem dL_errorPosition_15 : decode cL_errorPosition 15 = .ok (.ireturn, 1) := by decide +kernel
theorem dL_refusal_0 : decode cL_refusal 0 = .ok (.aload_n 2, 1) := by decide +kernel
theorem dL_refusal_1 : decode cL_refusal 1 = .ok (.iconst 0, 1) := by decide +kernel
theorem dL_refusal_2 : decode cL_refusal 2 = .ok (.aload_n 0, 1) := by decide +kernel
theorem dL_refusal_3 : decode cL_refusal 3 = .ok (.iload_n 1, 1) := by decide +kernel
theorem dL_refusal_4 : decode cL_refusal 4 = .ok (.invokevirtual 115, 3) := by decide +kernel
theorem dL_refusal_7 : decode cL_refusal 7 = .ok (.i2l, 1) := by decide +kernel
theorem dL_refusal_8 : decode cL_refusal 8 = .ok (.lastore, 1) := by decide +kernel
theorem dL_refusal_9 : decode cL_refusal 9 = .ok (.goto 6, 3) := by decide +kernel
theorem dL_refusal_12 : decode cL_refusal 12 = .ok (.astore_n 3, 1) := by decide +kernel
theorem dL_refusal_13 : decode cL_refusal 13 = .ok (.iconst 1, 1) := by decide +kernel
theorem dL_refusal_14 : decode cL_refusal 14 = .ok (.ireturn, 1) := by decide +kernel
theorem dL_refusal_15 : decode cL_refusal 15 = .ok (.iconst 0, 1) := by decide +kernel
theorem dL_refusal_16 : decode cL_refusal 16 = .ok (.ireturn, 1) := by decide +kernel
theorem dL_account_0 : decode cL_account 0 = .ok (.aload_n 2, 1) := by decide +kernel
theorem dL_account_1 : decode cL_account 1 = .ok (.iconst 0, 1) := by decide +kernel
theorem dL_account_2 : decode cL_account 2 = .ok (.aload_n 0, 1) := by decide +kernel
theorem dL_account_3 : decode cL_account 3 = .ok (.iload_n 1, 1) := by decide +kernel
theorem dL_account_4 : decode cL_account 4 = .ok (.invokevirtual 119, 3) := by decide +kernel
theorem dL_account_7 : decode cL_account 7 = .ok (.i2l, 1) := by decide +kernel
theorem dL_account_8 : decode cL_account 8 = .ok (.lastore, 1) := by decide +kernel
theorem dL_account_9 : decode cL_account 9 = .ok (.goto 6, 3) := by decide +kernel
theorem dL_account_12 : decode cL_account 12 = .ok (.astore_n 3, 1) := by decide +kernel
theorem dL_account_13 : decode cL_account 13 = .ok (.iconst 1, 1) := by decide +kernel
theorem dL_account_14 : decode cL_account 14 = .ok (.ireturn, 1) := by decide +kernel
theorem dL_account_15 : decode cL_account 15 = .ok (.iconst 0, 1) := by decide +kernel
theorem dL_account_16 : decode cL_account 16 = .ok (.ireturn, 1) := by decide +kernel
theorem dL_undo_0 : decode cL_undo 0 = .ok (.aload_n 1, 1) := by decide +kernel
theorem dL_undo_1 : decode cL_undo 1 = .ok (.iconst 0, 1) := by decide +kernel
theorem dL_undo_2 : decode cL_undo 2 = .ok (.aload_n 0, 1) := by decide +kernel
theorem dL_undo_3 : decode cL_undo 3 = .ok (.invokevirtual 122, 3) := by decide +kernel
theorem dL_undo_6 : decode cL_undo 6 = .ok (.i2l, 1) := by decide +kernel
theorem dL_undo_7 : decode cL_undo 7 = .ok (.lastore, 1) := by decide +kernel
theorem dL_undo_8 : decode cL_undo 8 = .ok (.goto 6, 3) := by decide +kernel
theorem dL_undo_11 : decode cL_undo 11 = .ok (.astore_n 2, 1) := by decide +kernel
theorem dL_undo_12 : decode cL_undo 12 = .ok (.iconst 1, 1) := by decide +kernel
theorem dL_undo_13 : decode cL_undo 13 = .ok (.ireturn, 1) := by decide +kernel
theorem dL_undo_14 : decode cL_undo 14 = .ok (.iconst 0, 1) := by decide +kernel
theorem dL_undo_15 : decode cL_undo 15 = .ok (.ireturn, 1) := by decide +kernel
theorem dL_restore_0 : decode cL_restore 0 = .ok (.aload_n 1, 1) := by decide +kernel
theorem dL_restore_1 : decode cL_restore 1 = .ok (.iconst 0, 1) := by decide +kernel
theorem dL_restore_2 : decode cL_restore 2 = .ok (.aload_n 0, 1) := by decide +kernel
theorem dL_restore_3 : decode cL_restore 3 = .ok (.invokevirtual 125, 3) := by decide +kernel
theorem dL_restore_6 : decode cL_restore 6 = .ok (.i2l, 1) := by decide +kernel
theorem dL_restore_7 : decode cL_restore 7 = .ok (.lastore, 1) := by decide +kernel
theorem dL_restore_8 : decode cL_restore 8 = .ok (.goto 6, 3) := by decide +kernel
theorem dL_restore_11 : decode cL_restore 11 = .ok (.astore_n 2, 1) := by decide +kernel
theorem dL_restore_12 : decode cL_restore 12 = .ok (.iconst 1, 1) := by decide +kernel
theorem dL_restore_13 : decode cL_restore 13 = .ok (.ireturn, 1) := by decide +kernel
theorem dL_restore_14 : decode cL_restore 14 = .ok (.iconst 0, 1) := by decide +kernel
theorem dL_restore_15 : decode cL_restore 15 = .ok (.ireturn, 1) := by decide +kernel
