/-! ===== printed: decode rows of J5 ===== -/
theorem dJ5_init_d00df_0 : decode cJ5_init_d00df 0 = .ok (.aload_n 0, 1) := by decide +kernel
theorem dJ5_init_d00df_1 : decode cJ5_init_d00df 1 = .ok (.invokespecial 3, 3) := by decide +kernel
theorem dJ5_init_d00df_4 : decode cJ5_init_d00df 4 = .ok (.getstatic 18, 3) := by decide +kernel
theorem dJ5_init_d00df_7 : decode cJ5_init_d00df 7 = .ok (.ifCond .eq 18, 3) := by decide +kernel
theorem dJ5_init_d00df_10 : decode cJ5_init_d00df 10 = .ok (.aload_n 0, 1) := by decide +kernel
theorem dJ5_init_d00df_11 : decode cJ5_init_d00df 11 = .ok (.iload_n 1, 1) := by decide +kernel
theorem dJ5_init_d00df_12 : decode cJ5_init_d00df 12 = .ok (.newarray .byte, 2) := by decide +kernel
theorem dJ5_init_d00df_14 : decode cJ5_init_d00df 14 = .ok (.putfield 15, 3) := by decide +kernel
theorem dJ5_init_d00df_17 : decode cJ5_init_d00df 17 = .ok (.aload_n 0, 1) := by decide +kernel
theorem dJ5_init_d00df_18 : decode cJ5_init_d00df 18 = .ok (.iconst 0, 1) := by decide +kernel
theorem dJ5_init_d00df_19 : decode cJ5_init_d00df 19 = .ok (.putfield 22, 3) := by decide +kernel
theorem dJ5_init_d00df_22 : decode cJ5_init_d00df 22 = .ok (.goto 16, 3) := by decide +kernel
theorem dJ5_init_d00df_25 : decode cJ5_init_d00df 25 = .ok (.aload_n 0, 1) := by decide +kernel
theorem dJ5_init_d00df_26 : decode cJ5_init_d00df 26 = .ok (.iload_n 1, 1) := by decide +kernel
theorem dJ5_init_d00df_27 : decode cJ5_init_d00df 27 = .ok (.invokestatic 26, 3) := by decide +kernel
theorem dJ5_init_d00df_30 : decode cJ5_init_d00df 30 = .ok (.putfield 15, 3) := by decide +kernel
theorem dJ5_init_d00df_33 : decode cJ5_init_d00df 33 = .ok (.aload_n 0, 1) := by decide +kernel
theorem dJ5_init_d00df_34 : decode cJ5_init_d00df 34 = .ok (.iconst 1, 1) := by decide +kernel
theorem dJ5_init_d00df_35 : decode cJ5_init_d00df 35 = .ok (.putfield 22, 3) := by decide +kernel
theorem dJ5_init_d00df_38 : decode cJ5_init_d00df 38 = .ok (.return_, 1) := by decide +kernel
theorem dJ5_length_8abf5_0 : decode cJ5_length_8abf5 0 = .ok (.aload_n 0, 1) := by decide +kernel
theorem dJ5_length_8abf5_1 : decode cJ5_length_8abf5 1 = .ok (.getfield 79, 3) := by decide +kernel
theorem dJ5_length_8abf5_4 : decode cJ5_length_8abf5 4 = .ok (.ireturn, 1) := by decide +kernel
theorem dJ5_ensureCapacityInternal_d00df_0 : decode cJ5_ensureCapacityInternal_d00df 0 = .ok (.aload_n 0, 1) := by decide +kernel
theorem dJ5_ensureCapacityInternal_d00df_1 : decode cJ5_ensureCapacityInternal_d00df 1 = .ok (.getfield 15, 3) := by decide +kernel
theorem dJ5_ensureCapacityInternal_d00df_4 : decode cJ5_ensureCapacityInternal_d00df 4 = .ok (.arraylength, 1) := by decide +kernel
theorem dJ5_ensureCapacityInternal_d00df_5 : decode cJ5_ensureCapacityInternal_d00df 5 = .ok (.aload_n 0, 1) := by decide +kernel
theorem dJ5_ensureCapacityInternal_d00df_6 : decode cJ5_ensureCapacityInternal_d00df 6 = .ok (.getfield 22, 3) := by decide +kernel
theorem dJ5_ensureCapacityInternal_d00df_9 : decode cJ5_ensureCapacityInternal_d00df 9 = .ok (.ishr, 1) := by decide +kernel
theorem dJ5_ensureCapacityInternal_d00df_10 : decode cJ5_ensureCapacityInternal_d00df 10 = .ok (.istore_n 2, 1) := by decide +kernel
theorem dJ5_ensureCapacityInternal_d00df_11 : decode cJ5_ensureCapacityInternal_d00df 11 = .ok (.iload_n 1, 1) := by decide +kernel
theorem dJ5_ensureCapacityInternal_d00df_12 : decode cJ5_ensureCapacityInternal_d00df 12 = .ok (.iload_n 2, 1) := by decide +kernel
theorem dJ5_ensureCapacityInternal_d00df_13 : decode cJ5_ensureCapacityInternal_d00df 13 = .ok (.isub, 1) := by decide +kernel
theorem dJ5_ensureCapacityInternal_d00df_14 : decode cJ5_ensureCapacityInternal_d00df 14 = .ok (.ifCond .le 24, 3) := by decide +kernel
theorem dJ5_ensureCapacityInternal_d00df_17 : decode cJ5_ensureCapacityInternal_d00df 17 = .ok (.aload_n 0, 1) := by decide +kernel
theorem dJ5_ensureCapacityInternal_d00df_18 : decode cJ5_ensureCapacityInternal_d00df 18 = .ok (.aload_n 0, 1) := by decide +kernel
theorem dJ5_ensureCapacityInternal_d00df_19 : decode cJ5_ensureCapacityInternal_d00df 19 = .ok (.getfield 15, 3) := by decide +kernel
theorem dJ5_ensureCapacityInternal_d00df_22 : decode cJ5_ensureCapacityInternal_d00df 22 = .ok (.aload_n 0, 1) := by decide +kernel
theorem dJ5_ensureCapacityInternal_d00df_23 : decode cJ5_ensureCapacityInternal_d00df 23 = .ok (.iload_n 1, 1) := by decide +kernel
theorem dJ5_ensureCapacityInternal_d00df_24 : decode cJ5_ensureCapacityInternal_d00df 24 = .ok (.invokevirtual 104, 3) := by decide +kernel
theorem dJ5_ensureCapacityInternal_d00df_27 : decode cJ5_ensureCapacityInternal_d00df 27 = .ok (.aload_n 0, 1) := by decide +kernel
theorem dJ5_ensureCapacityInternal_d00df_28 : decode cJ5_ensureCapacityInternal_d00df 28 = .ok (.getfield 22, 3) := by decide +kernel
theorem dJ5_ensureCapacityInternal_d00df_31 : decode cJ5_ensureCapacityInternal_d00df 31 = .ok (.ishl, 1) := by decide +kernel
theorem dJ5_ensureCapacityInternal_d00df_32 : decode cJ5_ensureCapacityInternal_d00df 32 = .ok (.invokestatic 108, 3) := by decide +kernel
theorem dJ5_ensureCapacityInternal_d00df_35 : decode cJ5_ensureCapacityInternal_d00df 35 = .ok (.putfield 15, 3) := by decide +kernel
theorem dJ5_ensureCapacityInternal_d00df_38 : decode cJ5_ensureCapacityInternal_d00df 38 = .ok (.return_, 1) := by decide +kernel
theorem dJ5_newCapacity_0f7a4_0 : decode cJ5_newCapacity_0f7a4 0 = .ok (.aload_n 0, 1) := by decide +kernel
theorem dJ5_newCapacity_0f7a4_1 : decode cJ5_newCapacity_0f7a4 1 = .ok (.getfield 15, 3) := by decide +kernel
theorem dJ5_newCapacity_0f7a4_4 : decode cJ5_newCapacity_0f7a4 4 = .ok (.arraylength, 1) := by decide +kernel
theorem dJ5_newCapacity_0f7a4_5 : decode cJ5_newCapacity_0f7a4 5 = .ok (.istore_n 2, 1) := by decide +kernel
theorem dJ5_newCapacity_0f7a4_6 : decode cJ5_newCapacity_0f7a4 6 = .ok (.iload_n 1, 1) := by decide +kernel
theorem dJ5_newCapacity_0f7a4_7 : decode cJ5_newCapacity_0f7a4 7 = .ok (.aload_n 0, 1) := by decide +kernel
theorem dJ5_newCapacity_0f7a4_8 : decode cJ5_newCapacity_0f7a4 8 = .ok (.getfield 22, 3) := by decide +kernel
theorem dJ5_newCapacity_0f7a4_11 : decode cJ5_newCapacity_0f7a4 11 = .ok (.ishl, 1) := by decide +kernel
theorem dJ5_newCapacity_0f7a4_12 : decode cJ5_newCapacity_0f7a4 12 = .ok (.istore_n 3, 1) := by decide +kernel
theorem dJ5_newCapacity_0f7a4_13 : decode cJ5_newCapacity_0f7a4 13 = .ok (.iload_n 3, 1) := by decide +kernel
theorem dJ5_newCapacity_0f7a4_14 : decode cJ5_newCapacity_0f7a4 14 = .ok (.iload_n 2, 1) := by decide +kernel
theorem dJ5_newCapacity_0f7a4_15 : decode cJ5_newCapacity_0f7a4 15 = .ok (.isub, 1) := by decide +kernel
theorem dJ5_newCapacity_0f7a4_16 : decode cJ5_newCapacity_0f7a4 16 = .ok (.istore 4, 2) := by decide +kernel
theorem dJ5_newCapacity_0f7a4_18 : decode cJ5_newCapacity_0f7a4 18 = .ok (.iload_n 2, 1) := by decide +kernel
theorem dJ5_newCapacity_0f7a4_19 : decode cJ5_newCapacity_0f7a4 19 = .ok (.iload 4, 2) := by decide +kernel
theorem dJ5_newCapacity_0f7a4_21 : decode cJ5_newCapacity_0f7a4 21 = .ok (.iload_n 2, 1) := by decide +kernel
theorem dJ5_newCapacity_0f7a4_22 : decode cJ5_newCapacity_0f7a4 22 = .ok (.iconst 2, 1) := by decide +kernel
theorem dJ5_newCapacity_0f7a4_23 : decode cJ5_newCapacity_0f7a4 23 = .ok (.aload_n 0, 1) := by decide +kernel
theorem dJ5_newCapacity_0f7a4_24 : decode cJ5_newCapacity_0f7a4 24 = .ok (.getfield 22, 3) := by decide +kernel
theorem dJ5_newCapacity_0f7a4_27 : decode cJ5_newCapacity_0f7a4 27 = .ok (.ishl, 1) := by decide +kernel
theorem dJ5_newCapacity_0f7a4_28 : decode cJ5_newCapacity_0f7a4 28 = .ok (.iadd, 1) := by decide +kernel
theorem dJ5_newCapacity_0f7a4_29 : decode cJ5_newCapacity_0f7a4 29 = .ok (.invokestatic 114, 3) := by decide +kernel
theorem dJ5_newCapacity_0f7a4_32 : decode cJ5_newCapacity_0f7a4 32 = .ok (.istore 5, 2) := by decide +kernel
theorem dJ5_newCapacity_0f7a4_34 : decode cJ5_newCapacity_0f7a4 34 = .ok (.iload 5, 2) := by decide +kernel
theorem dJ5_newCapacity_0f7a4_36 : decode cJ5_newCapacity_0f7a4 36 = .ok (.ldc 39, 2) := by decide +kernel
theorem dJ5_newCapacity_0f7a4_38 : decode cJ5_newCapacity_0f7a4 38 = .ok (.if_icmp .ne 13, 3) := by decide +kernel
theorem dJ5_newCapacity_0f7a4_41 : decode cJ5_newCapacity_0f7a4 41 = .ok (.new 120, 3) := by decide +kernel
theorem dJ5_newCapacity_0f7a4_44 : decode cJ5_newCapacity_0f7a4 44 = .ok (.dup, 1) := by decide +kernel
theorem dJ5_newCapacity_0f7a4_45 : decode cJ5_newCapacity_0f7a4 45 = .ok (.ldc 122, 2) := by decide +kernel
theorem dJ5_newCapacity_0f7a4_47 : decode cJ5_newCapacity_0f7a4 47 = .ok (.invokespecial 124, 3) := by decide +kernel
theorem dJ5_newCapacity_0f7a4_50 : decode cJ5_newCapacity_0f7a4 50 = .ok (.athrow, 1) := by decide +kernel
theorem dJ5_newCapacity_0f7a4_51 : decode cJ5_newCapacity_0f7a4 51 = .ok (.iload 5, 2) := by decide +kernel
theorem dJ5_newCapacity_0f7a4_53 : decode cJ5_newCapacity_0f7a4 53 = .ok (.aload_n 0, 1) := by decide +kernel
theorem dJ5_newCapacity_0f7a4_54 : decode cJ5_newCapacity_0f7a4 54 = .ok (.getfield 22, 3) := by decide +kernel
theorem dJ5_newCapacity_0f7a4_57 : decode cJ5_newCapacity_0f7a4 57 = .ok (.ishr, 1) := by decide +kernel
theorem dJ5_newCapacity_0f7a4_58 : decode cJ5_newCapacity_0f7a4 58 = .ok (.ireturn, 1) := by decide +kernel
theorem dJ5_inflate_da8c8_0 : decode cJ5_inflate_da8c8 0 = .ok (.aload_n 0, 1) := by decide +kernel
theorem dJ5_inflate_da8c8_1 : decode cJ5_inflate_da8c8 1 = .ok (.invokevirtual 83, 3) := by decide +kernel
theorem dJ5_inflate_da8c8_4 : decode cJ5_inflate_da8c8 4 = .ok (.ifCond .ne 4, 3) := by decide +kernel
theorem dJ5_inflate_da8c8_7 : decode cJ5_inflate_da8c8 7 = .ok (.return_, 1) := by decide +kernel
theorem dJ5_inflate_da8c8_8 : decode cJ5_inflate_da8c8 8 = .ok (.aload_n 0, 1) := by decide +kernel
theorem dJ5_inflate_da8c8_9 : decode cJ5_inflate_da8c8 9 = .ok (.getfield 15, 3) := by decide +kernel
theorem dJ5_inflate_da8c8_12 : decode cJ5_inflate_da8c8 12 = .ok (.arraylength, 1) := by decide +kernel
theorem dJ5_inflate_da8c8_13 : decode cJ5_inflate_da8c8 13 = .ok (.invokestatic 26, 3) := by decide +kernel
theorem dJ5_inflate_da8c8_16 : decode cJ5_inflate_da8c8 16 = .ok (.astore_n 1, 1) := by decide +kernel
theorem dJ5_inflate_da8c8_17 : decode cJ5_inflate_da8c8 17 = .ok (.aload_n 0, 1) := by decide +kernel
theorem dJ5_inflate_da8c8_18 : decode cJ5_inflate_da8c8 18 = .ok (.getfield 15, 3) := by decide +kernel
theorem dJ5_inflate_da8c8_21 : decode cJ5_inflate_da8c8 21 = .ok (.iconst 0, 1) := by decide +kernel
theorem dJ5_inflate_da8c8_22 : decode cJ5_inflate_da8c8 22 = .ok (.aload_n 1, 1) := by decide +kernel
theorem dJ5_inflate_da8c8_23 : decode cJ5_inflate_da8c8 23 = .ok (.iconst 0, 1) := by decide +kernel
theorem dJ5_inflate_da8c8_24 : decode cJ5_inflate_da8c8 24 = .ok (.aload_n 0, 1) := by decide +kernel
theorem dJ5_inflate_da8c8_25 : decode cJ5_inflate_da8c8 25 = .ok (.getfield 79, 3) := by decide +kernel
theorem dJ5_inflate_da8c8_28 : decode cJ5_inflate_da8c8 28 = .ok (.invokestatic 125, 3) := by decide +kernel
theorem dJ5_inflate_da8c8_31 : decode cJ5_inflate_da8c8 31 = .ok (.aload_n 0, 1) := by decide +kernel
theorem dJ5_inflate_da8c8_32 : decode cJ5_inflate_da8c8 32 = .ok (.aload_n 1, 1) := by decide +kernel
theorem dJ5_inflate_da8c8_33 : decode cJ5_inflate_da8c8 33 = .ok (.putfield 15, 3) := by decide +kernel
theorem dJ5_inflate_da8c8_36 : decode cJ5_inflate_da8c8 36 = .ok (.aload_n 0, 1) := by decide +kernel
theorem dJ5_inflate_da8c8_37 : decode cJ5_inflate_da8c8 37 = .ok (.iconst 1, 1) := by decide +kernel
theorem dJ5_inflate_da8c8_38 : decode cJ5_inflate_da8c8 38 = .ok (.putfield 22, 3) := by decide +kernel
theorem dJ5_inflate_da8c8_41 : decode cJ5_inflate_da8c8 41 = .ok (.return_, 1) := by decide +kernel
theorem dJ5_charAt_5068e_0 : decode cJ5_charAt_5068e 0 = .ok (.aload_n 0, 1) := by decide +kernel
theorem dJ5_charAt_5068e_1 : decode cJ5_charAt_5068e 1 = .ok (.getfield 22, 3) := by decide +kernel
theorem dJ5_charAt_5068e_4 : decode cJ5_charAt_5068e 4 = .ok (.istore_n 2, 1) := by decide +kernel
theorem dJ5_charAt_5068e_5 : decode cJ5_charAt_5068e 5 = .ok (.aload_n 0, 1) := by decide +kernel
theorem dJ5_charAt_5068e_6 : decode cJ5_charAt_5068e 6 = .ok (.getfield 15, 3) := by decide +kernel
theorem dJ5_charAt_5068e_9 : decode cJ5_charAt_5068e 9 = .ok (.astore_n 3, 1) := by decide +kernel
theorem dJ5_charAt_5068e_10 : decode cJ5_charAt_5068e 10 = .ok (.aload_n 0, 1) := by decide +kernel
theorem dJ5_charAt_5068e_11 : decode cJ5_charAt_5068e 11 = .ok (.getfield 79, 3) := by decide +kernel
theorem dJ5_charAt_5068e_14 : decode cJ5_charAt_5068e 14 = .ok (.aload_n 3, 1) := by decide +kernel
theorem dJ5_charAt_5068e_15 : decode cJ5_charAt_5068e 15 = .ok (.arraylength, 1) := by decide +kernel
theorem dJ5_charAt_5068e_16 : decode cJ5_charAt_5068e 16 = .ok (.iload_n 2, 1) := by decide +kernel
theorem dJ5_charAt_5068e_17 : decode cJ5_charAt_5068e 17 = .ok (.ishr, 1) := by decide +kernel
theorem dJ5_charAt_5068e_18 : decode cJ5_charAt_5068e 18 = .ok (.invokestatic 138, 3) := by decide +kernel
theorem dJ5_charAt_5068e_21 : decode cJ5_charAt_5068e 21 = .ok (.istore 4, 2) := by decide +kernel
theorem dJ5_charAt_5068e_23 : decode cJ5_charAt_5068e 23 = .ok (.iload_n 1, 1) := by decide +kernel
theorem dJ5_charAt_5068e_24 : decode cJ5_charAt_5068e 24 = .ok (.iload 4, 2) := by decide +kernel
theorem dJ5_charAt_5068e_26 : decode cJ5_charAt_5068e 26 = .ok (.invokestatic 144, 3) := by decide +kernel
theorem dJ5_charAt_5068e_29 : decode cJ5_charAt_5068e 29 = .ok (.iload_n 2, 1) := by decide +kernel
theorem dJ5_charAt_5068e_30 : decode cJ5_charAt_5068e 30 = .ok (.ifCond .ne 12, 3) := by decide +kernel
theorem dJ5_charAt_5068e_33 : decode cJ5_charAt_5068e 33 = .ok (.aload_n 3, 1) := by decide +kernel
theorem dJ5_charAt_5068e_34 : decode cJ5_charAt_5068e 34 = .ok (.iload_n 1, 1) := by decide +kernel
theorem dJ5_charAt_5068e_35 : decode cJ5_charAt_5068e 35 = .ok (.baload, 1) := by decide +kernel
theorem dJ5_charAt_5068e_36 : decode cJ5_charAt_5068e 36 = .ok (.sipush 255, 3) := by decide +kernel
theorem dJ5_charAt_5068e_39 : decode cJ5_charAt_5068e 39 = .ok (.iand, 1) := by decide +kernel
theorem dJ5_charAt_5068e_40 : decode cJ5_charAt_5068e 40 = .ok (.i2c, 1) := by decide +kernel
theorem dJ5_charAt_5068e_41 : decode cJ5_charAt_5068e 41 = .ok (.ireturn, 1) := by decide +kernel
theorem dJ5_charAt_5068e_42 : decode cJ5_charAt_5068e 42 = .ok (.aload_n 3, 1) := by decide +kernel
theorem dJ5_charAt_5068e_43 : decode cJ5_charAt_5068e 43 = .ok (.iload_n 1, 1) := by decide +kernel
theorem dJ5_charAt_5068e_44 : decode cJ5_charAt_5068e 44 = .ok (.invokestatic 148, 3) := by decide +kernel
theorem dJ5_charAt_5068e_47 : decode cJ5_charAt_5068e 47 = .ok (.ireturn, 1) := by decide +kernel
theorem dJ5_append_cf1ce_0 : decode cJ5_append_cf1ce 0 = .ok (.aload_n 1, 1) := by decide +kernel
theorem dJ5_append_cf1ce_1 : decode cJ5_append_cf1ce 1 = .ok (.ifnonnull 8, 3) := by decide +kernel
theorem dJ5_append_cf1ce_4 : decode cJ5_append_cf1ce 4 = .ok (.aload_n 0, 1) := by decide +kernel
theorem dJ5_append_cf1ce_5 : decode cJ5_append_cf1ce 5 = .ok (.invokevirtual 204, 3) := by decide +kernel
theorem dJ5_append_cf1ce_8 : decode cJ5_append_cf1ce 8 = .ok (.areturn, 1) := by decide +kernel
theorem dJ5_append_cf1ce_9 : decode cJ5_append_cf1ce 9 = .ok (.aload_n 1, 1) := by decide +kernel
theorem dJ5_append_cf1ce_10 : decode cJ5_append_cf1ce 10 = .ok (.invokevirtual 32, 3) := by decide +kernel
theorem dJ5_append_cf1ce_13 : decode cJ5_append_cf1ce 13 = .ok (.istore_n 2, 1) := by decide +kernel
theorem dJ5_append_cf1ce_14 : decode cJ5_append_cf1ce 14 = .ok (.aload_n 0, 1) := by decide +kernel
theorem dJ5_append_cf1ce_15 : decode cJ5_append_cf1ce 15 = .ok (.aload_n 0, 1) := by decide +kernel
theorem dJ5_append_cf1ce_16 : decode cJ5_append_cf1ce 16 = .ok (.getfield 79, 3) := by decide +kernel
theorem dJ5_append_cf1ce_19 : decode cJ5_append_cf1ce 19 = .ok (.iload_n 2, 1) := by decide +kernel
theorem dJ5_append_cf1ce_20 : decode cJ5_append_cf1ce 20 = .ok (.iadd, 1) := by decide +kernel
theorem dJ5_append_cf1ce_21 : decode cJ5_append_cf1ce 21 = .ok (.invokevirtual 100, 3) := by decide +kernel
theorem dJ5_append_cf1ce_24 : decode cJ5_append_cf1ce 24 = .ok (.aload_n 0, 1) := by decide +kernel
theorem dJ5_append_cf1ce_25 : decode cJ5_append_cf1ce 25 = .ok (.aload_n 0, 1) := by decide +kernel
theorem dJ5_append_cf1ce_26 : decode cJ5_append_cf1ce 26 = .ok (.getfield 79, 3) := by decide +kernel
theorem dJ5_append_cf1ce_29 : decode cJ5_append_cf1ce 29 = .ok (.aload_n 1, 1) := by decide +kernel
theorem dJ5_append_cf1ce_30 : decode cJ5_append_cf1ce 30 = .ok (.invokevirtual 208, 3) := by decide +kernel
theorem dJ5_append_cf1ce_33 : decode cJ5_append_cf1ce 33 = .ok (.aload_n 0, 1) := by decide +kernel
theorem dJ5_append_cf1ce_34 : decode cJ5_append_cf1ce 34 = .ok (.dup, 1) := by decide +kernel
theorem dJ5_append_cf1ce_35 : decode cJ5_append_cf1ce 35 = .ok (.getfield 79, 3) := by decide +kernel
theorem dJ5_append_cf1ce_38 : decode cJ5_append_cf1ce 38 = .ok (.iload_n 2, 1) := by decide +kernel
theorem dJ5_append_cf1ce_39 : decode cJ5_append_cf1ce 39 = .ok (.iadd, 1) := by decide +kernel
theorem dJ5_append_cf1ce_40 : decode cJ5_append_cf1ce 40 = .ok (.putfield 79, 3) := by decide +kernel
theorem dJ5_append_cf1ce_43 : decode cJ5_append_cf1ce 43 = .ok (.aload_n 0, 1) := by decide +kernel
theorem dJ5_append_cf1ce_44 : decode cJ5_append_cf1ce 44 = .ok (.areturn, 1) := by decide +kernel
theorem dJ5_append_2ceeb_0 : decode cJ5_append_2ceeb 0 = .ok (.aload_n 1, 1) := by decide +kernel
theorem dJ5_append_2ceeb_1 : decode cJ5_append_2ceeb 1 = .ok (.ifnonnull 8, 3) := by decide +kernel
theorem dJ5_append_2ceeb_4 : decode cJ5_append_2ceeb 4 = .ok (.aload_n 0, 1) := by decide +kernel
theorem dJ5_append_2ceeb_5 : decode cJ5_append_2ceeb 5 = .ok (.invokevirtual 204, 3) := by decide +kernel
theorem dJ5_append_2ceeb_8 : decode cJ5_append_2ceeb 8 = .ok (.areturn, 1) := by decide +kernel
theorem dJ5_append_2ceeb_9 : decode cJ5_append_2ceeb 9 = .ok (.aload_n 1, 1) := by decide +kernel
theorem dJ5_append_2ceeb_10 : decode cJ5_append_2ceeb 10 = .ok (.invokevirtual 160, 3) := by decide +kernel
theorem dJ5_append_2ceeb_13 : decode cJ5_append_2ceeb 13 = .ok (.istore_n 2, 1) := by decide +kernel
theorem dJ5_append_2ceeb_14 : decode cJ5_append_2ceeb 14 = .ok (.aload_n 0, 1) := by decide +kernel
theorem dJ5_append_2ceeb_15 : decode cJ5_append_2ceeb 15 = .ok (.aload_n 0, 1) := by decide +kernel
theorem dJ5_append_2ceeb_16 : decode cJ5_append_2ceeb 16 = .ok (.getfield 79, 3) := by decide +kernel
theorem dJ5_append_2ceeb_19 : decode cJ5_append_2ceeb 19 = .ok (.iload_n 2, 1) := by decide +kernel
theorem dJ5_append_2ceeb_20 : decode cJ5_append_2ceeb 20 = .ok (.iadd, 1) := by decide +kernel
theorem dJ5_append_2ceeb_21 : decode cJ5_append_2ceeb 21 = .ok (.invokevirtual 100, 3) := by decide +kernel
theorem dJ5_append_2ceeb_24 : decode cJ5_append_2ceeb 24 = .ok (.aload_n 0, 1) := by decide +kernel
theorem dJ5_append_2ceeb_25 : decode cJ5_append_2ceeb 25 = .ok (.aload_n 1, 1) := by decide +kernel
theorem dJ5_append_2ceeb_26 : decode cJ5_append_2ceeb 26 = .ok (.invokevirtual 215, 3) := by decide +kernel
theorem dJ5_append_2ceeb_29 : decode cJ5_append_2ceeb 29 = .ok (.aload_n 1, 1) := by decide +kernel
theorem dJ5_append_2ceeb_30 : decode cJ5_append_2ceeb 30 = .ok (.aload_n 0, 1) := by decide +kernel
theorem dJ5_append_2ceeb_31 : decode cJ5_append_2ceeb 31 = .ok (.getfield 15, 3) := by decide +kernel
theorem dJ5_append_2ceeb_34 : decode cJ5_append_2ceeb 34 = .ok (.aload_n 0, 1) := by decide +kernel
theorem dJ5_append_2ceeb_35 : decode cJ5_append_2ceeb 35 = .ok (.getfield 79, 3) := by decide +kernel
theorem dJ5_append_2ceeb_38 : decode cJ5_append_2ceeb 38 = .ok (.aload_n 0, 1) := by decide +kernel
theorem dJ5_append_2ceeb_39 : decode cJ5_append_2ceeb 39 = .ok (.getfield 22, 3) := by decide +kernel
theorem dJ5_append_2ceeb_42 : decode cJ5_append_2ceeb 42 = .ok (.invokevirtual 219, 3) := by decide +kernel
theorem dJ5_append_2ceeb_45 : decode cJ5_append_2ceeb 45 = .ok (.aload_n 0, 1) := by decide +kernel
theorem dJ5_append_2ceeb_46 : decode cJ5_append_2ceeb 46 = .ok (.dup, 1) := by decide +kernel
theorem dJ5_append_2ceeb_47 : decode cJ5_append_2ceeb 47 = .ok (.getfield 79, 3) := by decide +kernel
theorem dJ5_append_2ceeb_50 : decode cJ5_append_2ceeb 50 = .ok (.iload_n 2, 1) := by decide +kernel
theorem dJ5_append_2ceeb_51 : decode cJ5_append_2ceeb 51 = .ok (.iadd, 1) := by decide +kernel
theorem dJ5_append_2ceeb_52 : decode cJ5_append_2ceeb 52 = .ok (.putfield 79, 3) := by decide +kernel
theorem dJ5_append_2ceeb_55 : decode cJ5_append_2ceeb 55 = .ok (.aload_n 0, 1) := by decide +kernel
theorem dJ5_append_2ceeb_56 : decode cJ5_append_2ceeb 56 = .ok (.dup, 1) := by decide +kernel
theorem dJ5_append_2ceeb_57 : decode cJ5_append_2ceeb 57 = .ok (.getfield 73, 3) := by decide +kernel
theorem dJ5_append_2ceeb_60 : decode cJ5_append_2ceeb 60 = .ok (.aload_n 1, 1) := by decide +kernel
theorem dJ5_append_2ceeb_61 : decode cJ5_append_2ceeb 61 = .ok (.getfield 73, 3) := by decide +kernel
theorem dJ5_append_2ceeb_64 : decode cJ5_append_2ceeb 64 = .ok (.ior, 1) := by decide +kernel
theorem dJ5_append_2ceeb_65 : decode cJ5_append_2ceeb 65 = .ok (.putfield 73, 3) := by decide +kernel
theorem dJ5_append_2ceeb_68 : decode cJ5_append_2ceeb 68 = .ok (.aload_n 0, 1) := by decide +kernel
theorem dJ5_append_2ceeb_69 : decode cJ5_append_2ceeb 69 = .ok (.areturn, 1) := by decide +kernel
theorem dJ5_append_8f9a3_0 : decode cJ5_append_8f9a3 0 = .ok (.aload_n 1, 1) := by decide +kernel
theorem dJ5_append_8f9a3_1 : decode cJ5_append_8f9a3 1 = .ok (.ifnonnull 8, 3) := by decide +kernel
theorem dJ5_append_8f9a3_4 : decode cJ5_append_8f9a3 4 = .ok (.aload_n 0, 1) := by decide +kernel
theorem dJ5_append_8f9a3_5 : decode cJ5_append_8f9a3 5 = .ok (.invokevirtual 204, 3) := by decide +kernel
theorem dJ5_append_8f9a3_8 : decode cJ5_append_8f9a3 8 = .ok (.areturn, 1) := by decide +kernel
theorem dJ5_append_8f9a3_9 : decode cJ5_append_8f9a3 9 = .ok (.aload_n 1, 1) := by decide +kernel
theorem dJ5_append_8f9a3_10 : decode cJ5_append_8f9a3 10 = .ok (.instanceof 1, 3) := by decide +kernel
theorem dJ5_append_8f9a3_13 : decode cJ5_append_8f9a3 13 = .ok (.ifCond .eq 12, 3) := by decide +kernel
theorem dJ5_append_8f9a3_16 : decode cJ5_append_8f9a3 16 = .ok (.aload_n 0, 1) := by decide +kernel
theorem dJ5_append_8f9a3_17 : decode cJ5_append_8f9a3 17 = .ok (.aload_n 1, 1) := by decide +kernel
theorem dJ5_append_8f9a3_18 : decode cJ5_append_8f9a3 18 = .ok (.checkcast 1, 3) := by decide +kernel
theorem dJ5_append_8f9a3_21 : decode cJ5_append_8f9a3 21 = .ok (.invokevirtual 43, 3) := by decide +kernel
theorem dJ5_append_8f9a3_24 : decode cJ5_append_8f9a3 24 = .ok (.areturn, 1) := by decide +kernel
theorem dJ5_append_8f9a3_25 : decode cJ5_append_8f9a3 25 = .ok (.aload_n 1, 1) := by decide +kernel
theorem dJ5_append_8f9a3_26 : decode cJ5_append_8f9a3 26 = .ok (.instanceof 10, 3) := by decide +kernel
theorem dJ5_append_8f9a3_29 : decode cJ5_append_8f9a3 29 = .ok (.ifCond .eq 12, 3) := by decide +kernel
theorem dJ5_append_8f9a3_32 : decode cJ5_append_8f9a3 32 = .ok (.aload_n 0, 1) := by decide +kernel
theorem dJ5_append_8f9a3_33 : decode cJ5_append_8f9a3 33 = .ok (.aload_n 1, 1) := by decide +kernel
theorem dJ5_append_8f9a3_34 : decode cJ5_append_8f9a3 34 = .ok (.checkcast 10, 3) := by decide +kernel
theorem dJ5_append_8f9a3_37 : decode cJ5_append_8f9a3 37 = .ok (.invokevirtual 212, 3) := by decide +kernel
theorem dJ5_append_8f9a3_40 : decode cJ5_append_8f9a3 40 = .ok (.areturn, 1) := by decide +kernel
theorem dJ5_append_8f9a3_41 : decode cJ5_append_8f9a3 41 = .ok (.aload_n 0, 1) := by decide +kernel
theorem dJ5_append_8f9a3_42 : decode cJ5_append_8f9a3 42 = .ok (.aload_n 1, 1) := by decide +kernel
theorem dJ5_append_8f9a3_43 : decode cJ5_append_8f9a3 43 = .ok (.iconst 0, 1) := by decide +kernel
theorem dJ5_append_8f9a3_44 : decode cJ5_append_8f9a3 44 = .ok (.aload_n 1, 1) := by decide +kernel
theorem dJ5_append_8f9a3_45 : decode cJ5_append_8f9a3 45 = .ok (.invokeinterface 47 1, 5) := by decide +kernel
theorem dJ5_append_8f9a3_50 : decode cJ5_append_8f9a3 50 = .ok (.invokevirtual 223, 3) := by decide +kernel
theorem dJ5_append_8f9a3_53 : decode cJ5_append_8f9a3 53 = .ok (.areturn, 1) := by decide +kernel
theorem dJ5_appendNull_278bc_0 : decode cJ5_appendNull_278bc 0 = .ok (.aload_n 0, 1) := by decide +kernel
theorem dJ5_appendNull_278bc_1 : decode cJ5_appendNull_278bc 1 = .ok (.aload_n 0, 1) := by decide +kernel
theorem dJ5_appendNull_278bc_2 : decode cJ5_appendNull_278bc 2 = .ok (.getfield 79, 3) := by decide +kernel
theorem dJ5_appendNull_278bc_5 : decode cJ5_appendNull_278bc 5 = .ok (.iconst 4, 1) := by decide +kernel
theorem dJ5_appendNull_278bc_6 : decode cJ5_appendNull_278bc 6 = .ok (.iadd, 1) := by decide +kernel
theorem dJ5_appendNull_278bc_7 : decode cJ5_appendNull_278bc 7 = .ok (.invokevirtual 100, 3) := by decide +kernel
theorem dJ5_appendNull_278bc_10 : decode cJ5_appendNull_278bc 10 = .ok (.aload_n 0, 1) := by decide +kernel
theorem dJ5_appendNull_278bc_11 : decode cJ5_appendNull_278bc 11 = .ok (.getfield 79, 3) := by decide +kernel
theorem dJ5_appendNull_278bc_14 : decode cJ5_appendNull_278bc 14 = .ok (.istore_n 1, 1) := by decide +kernel
theorem dJ5_appendNull_278bc_15 : decode cJ5_appendNull_278bc 15 = .ok (.aload_n 0, 1) := by decide +kernel
theorem dJ5_appendNull_278bc_16 : decode cJ5_appendNull_278bc 16 = .ok (.getfield 15, 3) := by decide +kernel
theorem dJ5_appendNull_278bc_19 : decode cJ5_appendNull_278bc 19 = .ok (.astore_n 2, 1) := by decide +kernel
theorem dJ5_appendNull_278bc_20 : decode cJ5_appendNull_278bc 20 = .ok (.aload_n 0, 1) := by decide +kernel
theorem dJ5_appendNull_278bc_21 : decode cJ5_appendNull_278bc 21 = .ok (.invokevirtual 83, 3) := by decide +kernel
theorem dJ5_appendNull_278bc_24 : decode cJ5_appendNull_278bc 24 = .ok (.ifCond .eq 38, 3) := by decide +kernel
theorem dJ5_appendNull_278bc_27 : decode cJ5_appendNull_278bc 27 = .ok (.aload_n 2, 1) := by decide +kernel
theorem dJ5_appendNull_278bc_28 : decode cJ5_appendNull_278bc 28 = .ok (.iload_n 1, 1) := by decide +kernel
theorem dJ5_appendNull_278bc_29 : decode cJ5_appendNull_278bc 29 = .ok (.iinc 1 1, 3) := by decide +kernel
theorem dJ5_appendNull_278bc_32 : decode cJ5_appendNull_278bc 32 = .ok (.bipush 110, 2) := by decide +kernel
theorem dJ5_appendNull_278bc_34 : decode cJ5_appendNull_278bc 34 = .ok (.bastore, 1) := by decide +kernel
theorem dJ5_appendNull_278bc_35 : decode cJ5_appendNull_278bc 35 = .ok (.aload_n 2, 1) := by decide +kernel
theorem dJ5_appendNull_278bc_36 : decode cJ5_appendNull_278bc 36 = .ok (.iload_n 1, 1) := by decide +kernel
theorem dJ5_appendNull_278bc_37 : decode cJ5_appendNull_278bc 37 = .ok (.iinc 1 1, 3) := by decide +kernel
theorem dJ5_appendNull_278bc_40 : decode cJ5_appendNull_278bc 40 = .ok (.bipush 117, 2) := by decide +kernel
theorem dJ5_appendNull_278bc_42 : decode cJ5_appendNull_278bc 42 = .ok (.bastore, 1) := by decide +kernel
theorem dJ5_appendNull_278bc_43 : decode cJ5_appendNull_278bc 43 = .ok (.aload_n 2, 1) := by decide +kernel
theorem dJ5_appendNull_278bc_44 : decode cJ5_appendNull_278bc 44 = .ok (.iload_n 1, 1) := by decide +kernel
theorem dJ5_appendNull_278bc_45 : decode cJ5_appendNull_278bc 45 = .ok (.iinc 1 1, 3) := by decide +kernel
theorem dJ5_appendNull_278bc_48 : decode cJ5_appendNull_278bc 48 = .ok (.bipush 108, 2) := by decide +kernel
theorem dJ5_appendNull_278bc_50 : decode cJ5_appendNull_278bc 50 = .ok (.bastore, 1) := by decide +kernel
theorem dJ5_appendNull_278bc_51 : decode cJ5_appendNull_278bc 51 = .ok (.aload_n 2, 1) := by decide +kernel
theorem dJ5_appendNull_278bc_52 : decode cJ5_appendNull_278bc 52 = .ok (.iload_n 1, 1) := by decide +kernel
theorem dJ5_appendNull_278bc_53 : decode cJ5_appendNull_278bc 53 = .ok (.iinc 1 1, 3) := by decide +kernel
theorem dJ5_appendNull_278bc_56 : decode cJ5_appendNull_278bc 56 = .ok (.bipush 108, 2) := by decide +kernel
theorem dJ5_appendNull_278bc_58 : decode cJ5_appendNull_278bc 58 = .ok (.bastore, 1) := by decide +kernel
theorem dJ5_appendNull_278bc_59 : decode cJ5_appendNull_278bc 59 = .ok (.goto 17, 3) := by decide +kernel
theorem dJ5_appendNull_278bc_62 : decode cJ5_appendNull_278bc 62 = .ok (.aload_n 2, 1) := by decide +kernel
theorem dJ5_appendNull_278bc_63 : decode cJ5_appendNull_278bc 63 = .ok (.iload_n 1, 1) := by decide +kernel
theorem dJ5_appendNull_278bc_64 : decode cJ5_appendNull_278bc 64 = .ok (.bipush 110, 2) := by decide +kernel
theorem dJ5_appendNull_278bc_66 : decode cJ5_appendNull_278bc 66 = .ok (.bipush 117, 2) := by decide +kernel
theorem dJ5_appendNull_278bc_68 : decode cJ5_appendNull_278bc 68 = .ok (.bipush 108, 2) := by decide +kernel
theorem dJ5_appendNull_278bc_70 : decode cJ5_appendNull_278bc 70 = .ok (.bipush 108, 2) := by decide +kernel
theorem dJ5_appendNull_278bc_72 : decode cJ5_appendNull_278bc 72 = .ok (.invokestatic 226, 3) := by decide +kernel
theorem dJ5_appendNull_278bc_75 : decode cJ5_appendNull_278bc 75 = .ok (.istore_n 1, 1) := by decide +kernel
theorem dJ5_appendNull_278bc_76 : decode cJ5_appendNull_278bc 76 = .ok (.aload_n 0, 1) := by decide +kernel
theorem dJ5_appendNull_278bc_77 : decode cJ5_appendNull_278bc 77 = .ok (.iload_n 1, 1) := by decide +kernel
theorem dJ5_appendNull_278bc_78 : decode cJ5_appendNull_278bc 78 = .ok (.putfield 79, 3) := by decide +kernel
theorem dJ5_appendNull_278bc_81 : decode cJ5_appendNull_278bc 81 = .ok (.aload_n 0, 1) := by decide +kernel
theorem dJ5_appendNull_278bc_82 : decode cJ5_appendNull_278bc 82 = .ok (.areturn, 1) := by decide +kernel
theorem dJ5_append_e1f22_0 : decode cJ5_append_e1f22 0 = .ok (.aload_n 1, 1) := by decide +kernel
theorem dJ5_append_e1f22_1 : decode cJ5_append_e1f22 1 = .ok (.ifnonnull 6, 3) := by decide +kernel
theorem dJ5_append_e1f22_4 : decode cJ5_append_e1f22 4 = .ok (.ldc 230, 2) := by decide +kernel
theorem dJ5_append_e1f22_6 : decode cJ5_append_e1f22 6 = .ok (.astore_n 1, 1) := by decide +kernel
theorem dJ5_append_e1f22_7 : decode cJ5_append_e1f22 7 = .ok (.iload_n 2, 1) := by decide +kernel
theorem dJ5_append_e1f22_8 : decode cJ5_append_e1f22 8 = .ok (.iload_n 3, 1) := by decide +kernel
theorem dJ5_append_e1f22_9 : decode cJ5_append_e1f22 9 = .ok (.aload_n 1, 1) := by decide +kernel
theorem dJ5_append_e1f22_10 : decode cJ5_append_e1f22 10 = .ok (.invokeinterface 47 1, 5) := by decide +kernel
theorem dJ5_append_e1f22_15 : decode cJ5_append_e1f22 15 = .ok (.getstatic 183, 3) := by decide +kernel
theorem dJ5_append_e1f22_18 : decode cJ5_append_e1f22 18 = .ok (.invokestatic 161, 3) := by decide +kernel
theorem dJ5_append_e1f22_21 : decode cJ5_append_e1f22 21 = .ok (.pop, 1) := by decide +kernel
theorem dJ5_append_e1f22_22 : decode cJ5_append_e1f22 22 = .ok (.iload_n 3, 1) := by decide +kernel
theorem dJ5_append_e1f22_23 : decode cJ5_append_e1f22 23 = .ok (.iload_n 2, 1) := by decide +kernel
theorem dJ5_append_e1f22_24 : decode cJ5_append_e1f22 24 = .ok (.isub, 1) := by decide +kernel
theorem dJ5_append_e1f22_25 : decode cJ5_append_e1f22 25 = .ok (.istore 4, 2) := by decide +kernel
theorem dJ5_append_e1f22_27 : decode cJ5_append_e1f22 27 = .ok (.aload_n 0, 1) := by decide +kernel
theorem dJ5_append_e1f22_28 : decode cJ5_append_e1f22 28 = .ok (.aload_n 0, 1) := by decide +kernel
theorem dJ5_append_e1f22_29 : decode cJ5_append_e1f22 29 = .ok (.getfield 79, 3) := by decide +kernel
theorem dJ5_append_e1f22_32 : decode cJ5_append_e1f22 32 = .ok (.iload 4, 2) := by decide +kernel
theorem dJ5_append_e1f22_34 : decode cJ5_append_e1f22 34 = .ok (.iadd, 1) := by decide +kernel
theorem dJ5_append_e1f22_35 : decode cJ5_append_e1f22 35 = .ok (.invokevirtual 100, 3) := by decide +kernel
theorem dJ5_append_e1f22_38 : decode cJ5_append_e1f22 38 = .ok (.aload_n 1, 1) := by decide +kernel
theorem dJ5_append_e1f22_39 : decode cJ5_append_e1f22 39 = .ok (.instanceof 1, 3) := by decide +kernel
theorem dJ5_append_e1f22_42 : decode cJ5_append_e1f22 42 = .ok (.ifCond .eq 16, 3) := by decide +kernel
theorem dJ5_append_e1f22_45 : decode cJ5_append_e1f22 45 = .ok (.aload_n 0, 1) := by decide +kernel
theorem dJ5_append_e1f22_46 : decode cJ5_append_e1f22 46 = .ok (.aload_n 1, 1) := by decide +kernel
theorem dJ5_append_e1f22_47 : decode cJ5_append_e1f22 47 = .ok (.checkcast 1, 3) := by decide +kernel
theorem dJ5_append_e1f22_50 : decode cJ5_append_e1f22 50 = .ok (.iload_n 2, 1) := by decide +kernel
theorem dJ5_append_e1f22_51 : decode cJ5_append_e1f22 51 = .ok (.iload_n 3, 1) := by decide +kernel
theorem dJ5_append_e1f22_52 : decode cJ5_append_e1f22 52 = .ok (.invokevirtual 232, 3) := by decide +kernel
theorem dJ5_append_e1f22_55 : decode cJ5_append_e1f22 55 = .ok (.goto 10, 3) := by decide +kernel
theorem dJ5_append_e1f22_58 : decode cJ5_append_e1f22 58 = .ok (.aload_n 0, 1) := by decide +kernel
theorem dJ5_append_e1f22_59 : decode cJ5_append_e1f22 59 = .ok (.aload_n 1, 1) := by decide +kernel
theorem dJ5_append_e1f22_60 : decode cJ5_append_e1f22 60 = .ok (.iload_n 2, 1) := by decide +kernel
theorem dJ5_append_e1f22_61 : decode cJ5_append_e1f22 61 = .ok (.iload_n 3, 1) := by decide +kernel
theorem dJ5_append_e1f22_62 : decode cJ5_append_e1f22 62 = .ok (.invokevirtual 236, 3) := by decide +kernel
theorem dJ5_append_e1f22_65 : decode cJ5_append_e1f22 65 = .ok (.aload_n 0, 1) := by decide +kernel
theorem dJ5_append_e1f22_66 : decode cJ5_append_e1f22 66 = .ok (.areturn, 1) := by decide +kernel
theorem dJ5_append_3fe6f_0 : decode cJ5_append_3fe6f 0 = .ok (.aload_n 0, 1) := by decide +kernel
theorem dJ5_append_3fe6f_1 : decode cJ5_append_3fe6f 1 = .ok (.aload_n 0, 1) := by decide +kernel
theorem dJ5_append_3fe6f_2 : decode cJ5_append_3fe6f 2 = .ok (.getfield 79, 3) := by decide +kernel
theorem dJ5_append_3fe6f_5 : decode cJ5_append_3fe6f 5 = .ok (.iconst 1, 1) := by decide +kernel
theorem dJ5_append_3fe6f_6 : decode cJ5_append_3fe6f 6 = .ok (.iadd, 1) := by decide +kernel
theorem dJ5_append_3fe6f_7 : decode cJ5_append_3fe6f 7 = .ok (.invokevirtual 100, 3) := by decide +kernel
theorem dJ5_append_3fe6f_10 : decode cJ5_append_3fe6f 10 = .ok (.aload_n 0, 1) := by decide +kernel
theorem dJ5_append_3fe6f_11 : decode cJ5_append_3fe6f 11 = .ok (.invokevirtual 83, 3) := by decide +kernel
theorem dJ5_append_3fe6f_14 : decode cJ5_append_3fe6f 14 = .ok (.ifCond .eq 31, 3) := by decide +kernel
theorem dJ5_append_3fe6f_17 : decode cJ5_append_3fe6f 17 = .ok (.iload_n 1, 1) := by decide +kernel
theorem dJ5_append_3fe6f_18 : decode cJ5_append_3fe6f 18 = .ok (.invokestatic 191, 3) := by decide +kernel
theorem dJ5_append_3fe6f_21 : decode cJ5_append_3fe6f 21 = .ok (.ifCond .eq 24, 3) := by decide +kernel
theorem dJ5_append_3fe6f_24 : decode cJ5_append_3fe6f 24 = .ok (.aload_n 0, 1) := by decide +kernel
theorem dJ5_append_3fe6f_25 : decode cJ5_append_3fe6f 25 = .ok (.getfield 15, 3) := by decide +kernel
theorem dJ5_append_3fe6f_28 : decode cJ5_append_3fe6f 28 = .ok (.aload_n 0, 1) := by decide +kernel
theorem dJ5_append_3fe6f_29 : decode cJ5_append_3fe6f 29 = .ok (.dup, 1) := by decide +kernel
theorem dJ5_append_3fe6f_30 : decode cJ5_append_3fe6f 30 = .ok (.getfield 79, 3) := by decide +kernel
theorem dJ5_append_3fe6f_33 : decode cJ5_append_3fe6f 33 = .ok (.dup_x1, 1) := by decide +kernel
theorem dJ5_append_3fe6f_34 : decode cJ5_append_3fe6f 34 = .ok (.iconst 1, 1) := by decide +kernel
theorem dJ5_append_3fe6f_35 : decode cJ5_append_3fe6f 35 = .ok (.iadd, 1) := by decide +kernel
theorem dJ5_append_3fe6f_36 : decode cJ5_append_3fe6f 36 = .ok (.putfield 79, 3) := by decide +kernel
theorem dJ5_append_3fe6f_39 : decode cJ5_append_3fe6f 39 = .ok (.iload_n 1, 1) := by decide +kernel
theorem dJ5_append_3fe6f_40 : decode cJ5_append_3fe6f 40 = .ok (.i2b, 1) := by decide +kernel
theorem dJ5_append_3fe6f_41 : decode cJ5_append_3fe6f 41 = .ok (.bastore, 1) := by decide +kernel
theorem dJ5_append_3fe6f_42 : decode cJ5_append_3fe6f 42 = .ok (.goto 33, 3) := by decide +kernel
theorem dJ5_append_3fe6f_45 : decode cJ5_append_3fe6f 45 = .ok (.aload_n 0, 1) := by decide +kernel
theorem dJ5_append_3fe6f_46 : decode cJ5_append_3fe6f 46 = .ok (.invokevirtual 83, 3) := by decide +kernel
theorem dJ5_append_3fe6f_49 : decode cJ5_append_3fe6f 49 = .ok (.ifCond .eq 7, 3) := by decide +kernel
theorem dJ5_append_3fe6f_52 : decode cJ5_append_3fe6f 52 = .ok (.aload_n 0, 1) := by decide +kernel
theorem dJ5_append_3fe6f_53 : decode cJ5_append_3fe6f 53 = .ok (.invokevirtual 195, 3) := by decide +kernel
theorem dJ5_append_3fe6f_56 : decode cJ5_append_3fe6f 56 = .ok (.aload_n 0, 1) := by decide +kernel
theorem dJ5_append_3fe6f_57 : decode cJ5_append_3fe6f 57 = .ok (.getfield 15, 3) := by decide +kernel
theorem dJ5_append_3fe6f_60 : decode cJ5_append_3fe6f 60 = .ok (.aload_n 0, 1) := by decide +kernel
theorem dJ5_append_3fe6f_61 : decode cJ5_append_3fe6f 61 = .ok (.dup, 1) := by decide +kernel
theorem dJ5_append_3fe6f_62 : decode cJ5_append_3fe6f 62 = .ok (.getfield 79, 3) := by decide +kernel
theorem dJ5_append_3fe6f_65 : decode cJ5_append_3fe6f 65 = .ok (.dup_x1, 1) := by decide +kernel
theorem dJ5_append_3fe6f_66 : decode cJ5_append_3fe6f 66 = .ok (.iconst 1, 1) := by decide +kernel
theorem dJ5_append_3fe6f_67 : decode cJ5_append_3fe6f 67 = .ok (.iadd, 1) := by decide +kernel
theorem dJ5_append_3fe6f_68 : decode cJ5_append_3fe6f 68 = .ok (.putfield 79, 3) := by decide +kernel
theorem dJ5_append_3fe6f_71 : decode cJ5_append_3fe6f 71 = .ok (.iload_n 1, 1) := by decide +kernel
theorem dJ5_append_3fe6f_72 : decode cJ5_append_3fe6f 72 = .ok (.invokestatic 197, 3) := by decide +kernel
theorem dJ5_append_3fe6f_75 : decode cJ5_append_3fe6f 75 = .ok (.aload_n 0, 1) := by decide +kernel
theorem dJ5_append_3fe6f_76 : decode cJ5_append_3fe6f 76 = .ok (.areturn, 1) := by decide +kernel
theorem dJ5_append_c97b9_0 : decode cJ5_append_c97b9 0 = .ok (.aload_n 0, 1) := by decide +kernel
theorem dJ5_append_c97b9_1 : decode cJ5_append_c97b9 1 = .ok (.getfield 79, 3) := by decide +kernel
theorem dJ5_append_c97b9_4 : decode cJ5_append_c97b9 4 = .ok (.istore_n 2, 1) := by decide +kernel
theorem dJ5_append_c97b9_5 : decode cJ5_append_c97b9 5 = .ok (.iload_n 2, 1) := by decide +kernel
theorem dJ5_append_c97b9_6 : decode cJ5_append_c97b9 6 = .ok (.iload_n 1, 1) := by decide +kernel
theorem dJ5_append_c97b9_7 : decode cJ5_append_c97b9 7 = .ok (.invokestatic 245, 3) := by decide +kernel
theorem dJ5_append_c97b9_10 : decode cJ5_append_c97b9 10 = .ok (.iadd, 1) := by decide +kernel
theorem dJ5_append_c97b9_11 : decode cJ5_append_c97b9 11 = .ok (.istore_n 3, 1) := by decide +kernel
theorem dJ5_append_c97b9_12 : decode cJ5_append_c97b9 12 = .ok (.aload_n 0, 1) := by decide +kernel
theorem dJ5_append_c97b9_13 : decode cJ5_append_c97b9 13 = .ok (.iload_n 3, 1) := by decide +kernel
theorem dJ5_append_c97b9_14 : decode cJ5_append_c97b9 14 = .ok (.invokevirtual 100, 3) := by decide +kernel
theorem dJ5_append_c97b9_17 : decode cJ5_append_c97b9 17 = .ok (.aload_n 0, 1) := by decide +kernel
theorem dJ5_append_c97b9_18 : decode cJ5_append_c97b9 18 = .ok (.invokevirtual 83, 3) := by decide +kernel
theorem dJ5_append_c97b9_21 : decode cJ5_append_c97b9 21 = .ok (.ifCond .eq 16, 3) := by decide +kernel
theorem dJ5_append_c97b9_24 : decode cJ5_append_c97b9 24 = .ok (.iload_n 1, 1) := by decide +kernel
theorem dJ5_append_c97b9_25 : decode cJ5_append_c97b9 25 = .ok (.iload_n 3, 1) := by decide +kernel
theorem dJ5_append_c97b9_26 : decode cJ5_append_c97b9 26 = .ok (.aload_n 0, 1) := by decide +kernel
theorem dJ5_append_c97b9_27 : decode cJ5_append_c97b9 27 = .ok (.getfield 15, 3) := by decide +kernel
theorem dJ5_append_c97b9_30 : decode cJ5_append_c97b9 30 = .ok (.invokestatic 248, 3) := by decide +kernel
theorem dJ5_append_c97b9_33 : decode cJ5_append_c97b9 33 = .ok (.pop, 1) := by decide +kernel
theorem dJ5_append_c97b9_34 : decode cJ5_append_c97b9 34 = .ok (.goto 14, 3) := by decide +kernel
theorem dJ5_append_c97b9_37 : decode cJ5_append_c97b9 37 = .ok (.iload_n 1, 1) := by decide +kernel
theorem dJ5_append_c97b9_38 : decode cJ5_append_c97b9 38 = .ok (.iload_n 2, 1) := by decide +kernel
theorem dJ5_append_c97b9_39 : decode cJ5_append_c97b9 39 = .ok (.iload_n 3, 1) := by decide +kernel
theorem dJ5_append_c97b9_40 : decode cJ5_append_c97b9 40 = .ok (.aload_n 0, 1) := by decide +kernel
theorem dJ5_append_c97b9_41 : decode cJ5_append_c97b9 41 = .ok (.getfield 15, 3) := by decide +kernel
theorem dJ5_append_c97b9_44 : decode cJ5_append_c97b9 44 = .ok (.invokestatic 251, 3) := by decide +kernel
theorem dJ5_append_c97b9_47 : decode cJ5_append_c97b9 47 = .ok (.pop, 1) := by decide +kernel
theorem dJ5_append_c97b9_48 : decode cJ5_append_c97b9 48 = .ok (.aload_n 0, 1) := by decide +kernel
theorem dJ5_append_c97b9_49 : decode cJ5_append_c97b9 49 = .ok (.iload_n 3, 1) := by decide +kernel
theorem dJ5_append_c97b9_50 : decode cJ5_append_c97b9 50 = .ok (.putfield 79, 3) := by decide +kernel
theorem dJ5_append_c97b9_53 : decode cJ5_append_c97b9 53 = .ok (.aload_n 0, 1) := by decide +kernel
theorem dJ5_append_c97b9_54 : decode cJ5_append_c97b9 54 = .ok (.areturn, 1) := by decide +kernel
theorem dJ5_getValue_6d5f1_0 : decode cJ5_getValue_6d5f1 0 = .ok (.aload_n 0, 1) := by decide +kernel
theorem dJ5_getValue_6d5f1_1 : decode cJ5_getValue_6d5f1 1 = .ok (.getfield 15, 3) := by decide +kernel
theorem dJ5_getValue_6d5f1_4 : decode cJ5_getValue_6d5f1 4 = .ok (.areturn, 1) := by decide +kernel
theorem dJ5_getBytes_840e7_0 : decode cJ5_getBytes_840e7 0 = .ok (.aload_n 0, 1) := by decide +kernel
theorem dJ5_getBytes_840e7_1 : decode cJ5_getBytes_840e7 1 = .ok (.getfield 22, 3) := by decide +kernel
theorem dJ5_getBytes_840e7_4 : decode cJ5_getBytes_840e7 4 = .ok (.iload_n 3, 1) := by decide +kernel
theorem dJ5_getBytes_840e7_5 : decode cJ5_getBytes_840e7 5 = .ok (.if_icmp .ne 24, 3) := by decide +kernel
theorem dJ5_getBytes_840e7_8 : decode cJ5_getBytes_840e7 8 = .ok (.aload_n 0, 1) := by decide +kernel
theorem dJ5_getBytes_840e7_9 : decode cJ5_getBytes_840e7 9 = .ok (.getfield 15, 3) := by decide +kernel
theorem dJ5_getBytes_840e7_12 : decode cJ5_getBytes_840e7 12 = .ok (.iconst 0, 1) := by decide +kernel
theorem dJ5_getBytes_840e7_13 : decode cJ5_getBytes_840e7 13 = .ok (.aload_n 1, 1) := by decide +kernel
theorem dJ5_getBytes_840e7_14 : decode cJ5_getBytes_840e7 14 = .ok (.iload_n 2, 1) := by decide +kernel
theorem dJ5_getBytes_840e7_15 : decode cJ5_getBytes_840e7 15 = .ok (.iload_n 3, 1) := by decide +kernel
theorem dJ5_getBytes_840e7_16 : decode cJ5_getBytes_840e7 16 = .ok (.ishl, 1) := by decide +kernel
theorem dJ5_getBytes_840e7_17 : decode cJ5_getBytes_840e7 17 = .ok (.aload_n 0, 1) := by decide +kernel
theorem dJ5_getBytes_840e7_18 : decode cJ5_getBytes_840e7 18 = .ok (.getfield 79, 3) := by decide +kernel
theorem dJ5_getBytes_840e7_21 : decode cJ5_getBytes_840e7 21 = .ok (.iload_n 3, 1) := by decide +kernel
theorem dJ5_getBytes_840e7_22 : decode cJ5_getBytes_840e7 22 = .ok (.ishl, 1) := by decide +kernel
theorem dJ5_getBytes_840e7_23 : decode cJ5_getBytes_840e7 23 = .ok (.invokestatic 309, 3) := by decide +kernel
theorem dJ5_getBytes_840e7_26 : decode cJ5_getBytes_840e7 26 = .ok (.goto 17, 3) := by decide +kernel
theorem dJ5_getBytes_840e7_29 : decode cJ5_getBytes_840e7 29 = .ok (.aload_n 0, 1) := by decide +kernel
theorem dJ5_getBytes_840e7_30 : decode cJ5_getBytes_840e7 30 = .ok (.getfield 15, 3) := by decide +kernel
theorem dJ5_getBytes_840e7_33 : decode cJ5_getBytes_840e7 33 = .ok (.iconst 0, 1) := by decide +kernel
theorem dJ5_getBytes_840e7_34 : decode cJ5_getBytes_840e7 34 = .ok (.aload_n 1, 1) := by decide +kernel
theorem dJ5_getBytes_840e7_35 : decode cJ5_getBytes_840e7 35 = .ok (.iload_n 2, 1) := by decide +kernel
theorem dJ5_getBytes_840e7_36 : decode cJ5_getBytes_840e7 36 = .ok (.aload_n 0, 1) := by decide +kernel
theorem dJ5_getBytes_840e7_37 : decode cJ5_getBytes_840e7 37 = .ok (.getfield 79, 3) := by decide +kernel
theorem dJ5_getBytes_840e7_40 : decode cJ5_getBytes_840e7 40 = .ok (.invokestatic 125, 3) := by decide +kernel
theorem dJ5_getBytes_840e7_43 : decode cJ5_getBytes_840e7 43 = .ok (.return_, 1) := by decide +kernel
theorem dJ5_getCoder_7d493_0 : decode cJ5_getCoder_7d493 0 = .ok (.getstatic 18, 3) := by decide +kernel
theorem dJ5_getCoder_7d493_3 : decode cJ5_getCoder_7d493 3 = .ok (.ifCond .eq 10, 3) := by decide +kernel
theorem dJ5_getCoder_7d493_6 : decode cJ5_getCoder_7d493 6 = .ok (.aload_n 0, 1) := by decide +kernel
theorem dJ5_getCoder_7d493_7 : decode cJ5_getCoder_7d493 7 = .ok (.getfield 22, 3) := by decide +kernel
theorem dJ5_getCoder_7d493_10 : decode cJ5_getCoder_7d493 10 = .ok (.goto 4, 3) := by decide +kernel
theorem dJ5_getCoder_7d493_13 : decode cJ5_getCoder_7d493 13 = .ok (.iconst 1, 1) := by decide +kernel
theorem dJ5_getCoder_7d493_14 : decode cJ5_getCoder_7d493 14 = .ok (.ireturn, 1) := by decide +kernel
theorem dJ5_isLatin1_aae02_0 : decode cJ5_isLatin1_aae02 0 = .ok (.getstatic 18, 3) := by decide +kernel
theorem dJ5_isLatin1_aae02_3 : decode cJ5_isLatin1_aae02 3 = .ok (.ifCond .eq 14, 3) := by decide +kernel
theorem dJ5_isLatin1_aae02_6 : decode cJ5_isLatin1_aae02 6 = .ok (.aload_n 0, 1) := by decide +kernel
theorem dJ5_isLatin1_aae02_7 : decode cJ5_isLatin1_aae02 7 = .ok (.getfield 22, 3) := by decide +kernel
theorem dJ5_isLatin1_aae02_10 : decode cJ5_isLatin1_aae02 10 = .ok (.ifCond .ne 7, 3) := by decide +kernel
theorem dJ5_isLatin1_aae02_13 : decode cJ5_isLatin1_aae02 13 = .ok (.iconst 1, 1) := by decide +kernel
theorem dJ5_isLatin1_aae02_14 : decode cJ5_isLatin1_aae02 14 = .ok (.goto 4, 3) := by decide +kernel
theorem dJ5_isLatin1_aae02_17 : decode cJ5_isLatin1_aae02 17 = .ok (.iconst 0, 1) := by decide +kernel
theorem dJ5_isLatin1_aae02_18 : decode cJ5_isLatin1_aae02 18 = .ok (.ireturn, 1) := by decide +kernel
theorem dJ5_inflateIfNeededFor_a7421_0 : decode cJ5_inflateIfNeededFor_a7421 0 = .ok (.getstatic 18, 3) := by decide +kernel
theorem dJ5_inflateIfNeededFor_a7421_3 : decode cJ5_inflateIfNeededFor_a7421 3 = .ok (.ifCond .eq 18, 3) := by decide +kernel
theorem dJ5_inflateIfNeededFor_a7421_6 : decode cJ5_inflateIfNeededFor_a7421 6 = .ok (.aload_n 0, 1) := by decide +kernel
theorem dJ5_inflateIfNeededFor_a7421_7 : decode cJ5_inflateIfNeededFor_a7421 7 = .ok (.getfield 22, 3) := by decide +kernel
theorem dJ5_inflateIfNeededFor_a7421_10 : decode cJ5_inflateIfNeededFor_a7421 10 = .ok (.aload_n 1, 1) := by decide +kernel
theorem dJ5_inflateIfNeededFor_a7421_11 : decode cJ5_inflateIfNeededFor_a7421 11 = .ok (.invokevirtual 40, 3) := by decide +kernel
theorem dJ5_inflateIfNeededFor_a7421_14 : decode cJ5_inflateIfNeededFor_a7421 14 = .ok (.if_icmp .eq 7, 3) := by decide +kernel
theorem dJ5_inflateIfNeededFor_a7421_17 : decode cJ5_inflateIfNeededFor_a7421 17 = .ok (.aload_n 0, 1) := by decide +kernel
theorem dJ5_inflateIfNeededFor_a7421_18 : decode cJ5_inflateIfNeededFor_a7421 18 = .ok (.invokevirtual 195, 3) := by decide +kernel
theorem dJ5_inflateIfNeededFor_a7421_21 : decode cJ5_inflateIfNeededFor_a7421 21 = .ok (.return_, 1) := by decide +kernel
theorem dJ5_inflateIfNeededFor_56e69_0 : decode cJ5_inflateIfNeededFor_56e69 0 = .ok (.getstatic 18, 3) := by decide +kernel
theorem dJ5_inflateIfNeededFor_56e69_3 : decode cJ5_inflateIfNeededFor_56e69 3 = .ok (.ifCond .eq 18, 3) := by decide +kernel
theorem dJ5_inflateIfNeededFor_56e69_6 : decode cJ5_inflateIfNeededFor_56e69 6 = .ok (.aload_n 0, 1) := by decide +kernel
theorem dJ5_inflateIfNeededFor_56e69_7 : decode cJ5_inflateIfNeededFor_56e69 7 = .ok (.getfield 22, 3) := by decide +kernel
theorem dJ5_inflateIfNeededFor_56e69_10 : decode cJ5_inflateIfNeededFor_56e69 10 = .ok (.aload_n 1, 1) := by decide +kernel
theorem dJ5_inflateIfNeededFor_56e69_11 : decode cJ5_inflateIfNeededFor_56e69 11 = .ok (.invokevirtual 70, 3) := by decide +kernel
theorem dJ5_inflateIfNeededFor_56e69_14 : decode cJ5_inflateIfNeededFor_56e69 14 = .ok (.if_icmp .eq 7, 3) := by decide +kernel
theorem dJ5_inflateIfNeededFor_56e69_17 : decode cJ5_inflateIfNeededFor_56e69 17 = .ok (.aload_n 0, 1) := by decide +kernel
theorem dJ5_inflateIfNeededFor_56e69_18 : decode cJ5_inflateIfNeededFor_56e69 18 = .ok (.invokevirtual 195, 3) := by decide +kernel
theorem dJ5_inflateIfNeededFor_56e69_21 : decode cJ5_inflateIfNeededFor_56e69 21 = .ok (.return_, 1) := by decide +kernel
theorem dJ5_putStringAt_47b60_0 : decode cJ5_putStringAt_47b60 0 = .ok (.aload_n 0, 1) := by decide +kernel
theorem dJ5_putStringAt_47b60_1 : decode cJ5_putStringAt_47b60 1 = .ok (.aload_n 2, 1) := by decide +kernel
theorem dJ5_putStringAt_47b60_2 : decode cJ5_putStringAt_47b60 2 = .ok (.invokevirtual 397, 3) := by decide +kernel
theorem dJ5_putStringAt_47b60_5 : decode cJ5_putStringAt_47b60 5 = .ok (.aload_n 2, 1) := by decide +kernel
theorem dJ5_putStringAt_47b60_6 : decode cJ5_putStringAt_47b60 6 = .ok (.aload_n 0, 1) := by decide +kernel
theorem dJ5_putStringAt_47b60_7 : decode cJ5_putStringAt_47b60 7 = .ok (.getfield 15, 3) := by decide +kernel
theorem dJ5_putStringAt_47b60_10 : decode cJ5_putStringAt_47b60 10 = .ok (.iload_n 1, 1) := by decide +kernel
theorem dJ5_putStringAt_47b60_11 : decode cJ5_putStringAt_47b60 11 = .ok (.aload_n 0, 1) := by decide +kernel
theorem dJ5_putStringAt_47b60_12 : decode cJ5_putStringAt_47b60 12 = .ok (.getfield 22, 3) := by decide +kernel
theorem dJ5_putStringAt_47b60_15 : decode cJ5_putStringAt_47b60 15 = .ok (.invokevirtual 399, 3) := by decide +kernel
theorem dJ5_putStringAt_47b60_18 : decode cJ5_putStringAt_47b60 18 = .ok (.return_, 1) := by decide +kernel
theorem dJ5_appendChars_3135b_0 : decode cJ5_appendChars_3135b 0 = .ok (.aload_n 0, 1) := by decide +kernel
theorem dJ5_appendChars_3135b_1 : decode cJ5_appendChars_3135b 1 = .ok (.invokevirtual 83, 3) := by decide +kernel
theorem dJ5_appendChars_3135b_4 : decode cJ5_appendChars_3135b 4 = .ok (.ifCond .eq 141, 3) := by decide +kernel
theorem dJ5_appendChars_3135b_7 : decode cJ5_appendChars_3135b 7 = .ok (.aload_n 1, 1) := by decide +kernel
theorem dJ5_appendChars_3135b_8 : decode cJ5_appendChars_3135b 8 = .ok (.invokevirtual 400, 3) := by decide +kernel
theorem dJ5_appendChars_3135b_11 : decode cJ5_appendChars_3135b 11 = .ok (.ifCond .eq 25, 3) := by decide +kernel
theorem dJ5_appendChars_3135b_14 : decode cJ5_appendChars_3135b 14 = .ok (.aload_n 1, 1) := by decide +kernel
theorem dJ5_appendChars_3135b_15 : decode cJ5_appendChars_3135b 15 = .ok (.invokevirtual 401, 3) := by decide +kernel
theorem dJ5_appendChars_3135b_18 : decode cJ5_appendChars_3135b 18 = .ok (.iload_n 2, 1) := by decide +kernel
theorem dJ5_appendChars_3135b_19 : decode cJ5_appendChars_3135b 19 = .ok (.aload_n 0, 1) := by decide +kernel
theorem dJ5_appendChars_3135b_20 : decode cJ5_appendChars_3135b 20 = .ok (.getfield 15, 3) := by decide +kernel
theorem dJ5_appendChars_3135b_23 : decode cJ5_appendChars_3135b 23 = .ok (.aload_n 0, 1) := by decide +kernel
theorem dJ5_appendChars_3135b_24 : decode cJ5_appendChars_3135b 24 = .ok (.getfield 79, 3) := by decide +kernel
theorem dJ5_appendChars_3135b_27 : decode cJ5_appendChars_3135b 27 = .ok (.iload_n 3, 1) := by decide +kernel
theorem dJ5_appendChars_3135b_28 : decode cJ5_appendChars_3135b 28 = .ok (.iload_n 2, 1) := by decide +kernel
theorem dJ5_appendChars_3135b_29 : decode cJ5_appendChars_3135b 29 = .ok (.isub, 1) := by decide +kernel
theorem dJ5_appendChars_3135b_30 : decode cJ5_appendChars_3135b 30 = .ok (.invokestatic 309, 3) := by decide +kernel
theorem dJ5_appendChars_3135b_33 : decode cJ5_appendChars_3135b 33 = .ok (.goto 161, 3) := by decide +kernel
theorem dJ5_appendChars_3135b_36 : decode cJ5_appendChars_3135b 36 = .ok (.aload_n 0, 1) := by decide +kernel
theorem dJ5_appendChars_3135b_37 : decode cJ5_appendChars_3135b 37 = .ok (.getfield 15, 3) := by decide +kernel
theorem dJ5_appendChars_3135b_40 : decode cJ5_appendChars_3135b 40 = .ok (.astore 4, 2) := by decide +kernel
theorem dJ5_appendChars_3135b_42 : decode cJ5_appendChars_3135b 42 = .ok (.iload_n 2, 1) := by decide +kernel
theorem dJ5_appendChars_3135b_43 : decode cJ5_appendChars_3135b 43 = .ok (.istore 5, 2) := by decide +kernel
theorem dJ5_appendChars_3135b_45 : decode cJ5_appendChars_3135b 45 = .ok (.aload_n 0, 1) := by decide +kernel
theorem dJ5_appendChars_3135b_46 : decode cJ5_appendChars_3135b 46 = .ok (.getfield 79, 3) := by decide +kernel
theorem dJ5_appendChars_3135b_49 : decode cJ5_appendChars_3135b 49 = .ok (.istore 6, 2) := by decide +kernel
theorem dJ5_appendChars_3135b_51 : decode cJ5_appendChars_3135b 51 = .ok (.iload 5, 2) := by decide +kernel
theorem dJ5_appendChars_3135b_53 : decode cJ5_appendChars_3135b 53 = .ok (.iload_n 3, 1) := by decide +kernel
theorem dJ5_appendChars_3135b_54 : decode cJ5_appendChars_3135b 54 = .ok (.if_icmp .ge 88, 3) := by decide +kernel
theorem dJ5_appendChars_3135b_57 : decode cJ5_appendChars_3135b 57 = .ok (.aload_n 1, 1) := by decide +kernel
theorem dJ5_appendChars_3135b_58 : decode cJ5_appendChars_3135b 58 = .ok (.iload 5, 2) := by decide +kernel
theorem dJ5_appendChars_3135b_60 : decode cJ5_appendChars_3135b 60 = .ok (.invokevirtual 404, 3) := by decide +kernel
theorem dJ5_appendChars_3135b_63 : decode cJ5_appendChars_3135b 63 = .ok (.istore 7, 2) := by decide +kernel
theorem dJ5_appendChars_3135b_65 : decode cJ5_appendChars_3135b 65 = .ok (.iload 7, 2) := by decide +kernel
theorem dJ5_appendChars_3135b_67 : decode cJ5_appendChars_3135b 67 = .ok (.invokestatic 191, 3) := by decide +kernel
theorem dJ5_appendChars_3135b_70 : decode cJ5_appendChars_3135b 70 = .ok (.ifCond .eq 17, 3) := by decide +kernel
theorem dJ5_appendChars_3135b_73 : decode cJ5_appendChars_3135b 73 = .ok (.aload 4, 2) := by decide +kernel
theorem dJ5_appendChars_3135b_75 : decode cJ5_appendChars_3135b 75 = .ok (.iload 6, 2) := by decide +kernel
theorem dJ5_appendChars_3135b_77 : decode cJ5_appendChars_3135b 77 = .ok (.iinc 6 1, 3) := by decide +kernel
theorem dJ5_appendChars_3135b_80 : decode cJ5_appendChars_3135b 80 = .ok (.iload 7, 2) := by decide +kernel
theorem dJ5_appendChars_3135b_82 : decode cJ5_appendChars_3135b 82 = .ok (.i2b, 1) := by decide +kernel
theorem dJ5_appendChars_3135b_83 : decode cJ5_appendChars_3135b 83 = .ok (.bastore, 1) := by decide +kernel
theorem dJ5_appendChars_3135b_84 : decode cJ5_appendChars_3135b 84 = .ok (.goto 52, 3) := by decide +kernel
theorem dJ5_appendChars_3135b_87 : decode cJ5_appendChars_3135b 87 = .ok (.aload_n 0, 1) := by decide +kernel
theorem dJ5_appendChars_3135b_88 : decode cJ5_appendChars_3135b 88 = .ok (.iload 6, 2) := by decide +kernel
theorem dJ5_appendChars_3135b_90 : decode cJ5_appendChars_3135b 90 = .ok (.putfield 79, 3) := by decide +kernel
theorem dJ5_appendChars_3135b_93 : decode cJ5_appendChars_3135b 93 = .ok (.aload_n 0, 1) := by decide +kernel
theorem dJ5_appendChars_3135b_94 : decode cJ5_appendChars_3135b 94 = .ok (.invokevirtual 195, 3) := by decide +kernel
theorem dJ5_appendChars_3135b_97 : decode cJ5_appendChars_3135b 97 = .ok (.aload_n 1, 1) := by decide +kernel
theorem dJ5_appendChars_3135b_98 : decode cJ5_appendChars_3135b 98 = .ok (.invokevirtual 401, 3) := by decide +kernel
theorem dJ5_appendChars_3135b_101 : decode cJ5_appendChars_3135b 101 = .ok (.iload 5, 2) := by decide +kernel
theorem dJ5_appendChars_3135b_103 : decode cJ5_appendChars_3135b 103 = .ok (.iconst 1, 1) := by decide +kernel
theorem dJ5_appendChars_3135b_104 : decode cJ5_appendChars_3135b 104 = .ok (.ishl, 1) := by decide +kernel
theorem dJ5_appendChars_3135b_105 : decode cJ5_appendChars_3135b 105 = .ok (.aload_n 0, 1) := by decide +kernel
theorem dJ5_appendChars_3135b_106 : decode cJ5_appendChars_3135b 106 = .ok (.getfield 15, 3) := by decide +kernel
theorem dJ5_appendChars_3135b_109 : decode cJ5_appendChars_3135b 109 = .ok (.iload 6, 2) := by decide +kernel
theorem dJ5_appendChars_3135b_111 : decode cJ5_appendChars_3135b 111 = .ok (.iconst 1, 1) := by decide +kernel
theorem dJ5_appendChars_3135b_112 : decode cJ5_appendChars_3135b 112 = .ok (.ishl, 1) := by decide +kernel
theorem dJ5_appendChars_3135b_113 : decode cJ5_appendChars_3135b 113 = .ok (.iload_n 3, 1) := by decide +kernel
theorem dJ5_appendChars_3135b_114 : decode cJ5_appendChars_3135b 114 = .ok (.iload 5, 2) := by decide +kernel
theorem dJ5_appendChars_3135b_116 : decode cJ5_appendChars_3135b 116 = .ok (.isub, 1) := by decide +kernel
theorem dJ5_appendChars_3135b_117 : decode cJ5_appendChars_3135b 117 = .ok (.iconst 1, 1) := by decide +kernel
theorem dJ5_appendChars_3135b_118 : decode cJ5_appendChars_3135b 118 = .ok (.ishl, 1) := by decide +kernel
theorem dJ5_appendChars_3135b_119 : decode cJ5_appendChars_3135b 119 = .ok (.invokestatic 309, 3) := by decide +kernel
theorem dJ5_appendChars_3135b_122 : decode cJ5_appendChars_3135b 122 = .ok (.aload_n 0, 1) := by decide +kernel
theorem dJ5_appendChars_3135b_123 : decode cJ5_appendChars_3135b 123 = .ok (.dup, 1) := by decide +kernel
theorem dJ5_appendChars_3135b_124 : decode cJ5_appendChars_3135b 124 = .ok (.getfield 79, 3) := by decide +kernel
theorem dJ5_appendChars_3135b_127 : decode cJ5_appendChars_3135b 127 = .ok (.iload_n 3, 1) := by decide +kernel
theorem dJ5_appendChars_3135b_128 : decode cJ5_appendChars_3135b 128 = .ok (.iload 5, 2) := by decide +kernel
theorem dJ5_appendChars_3135b_130 : decode cJ5_appendChars_3135b 130 = .ok (.isub, 1) := by decide +kernel
theorem dJ5_appendChars_3135b_131 : decode cJ5_appendChars_3135b 131 = .ok (.iadd, 1) := by decide +kernel
theorem dJ5_appendChars_3135b_132 : decode cJ5_appendChars_3135b 132 = .ok (.putfield 79, 3) := by decide +kernel
theorem dJ5_appendChars_3135b_135 : decode cJ5_appendChars_3135b 135 = .ok (.return_, 1) := by decide +kernel
theorem dJ5_appendChars_3135b_136 : decode cJ5_appendChars_3135b 136 = .ok (.iinc 5 1, 3) := by decide +kernel
theorem dJ5_appendChars_3135b_139 : decode cJ5_appendChars_3135b 139 = .ok (.goto (-88), 3) := by decide +kernel
theorem dJ5_appendChars_3135b_142 : decode cJ5_appendChars_3135b 142 = .ok (.goto 52, 3) := by decide +kernel
theorem dJ5_appendChars_3135b_145 : decode cJ5_appendChars_3135b 145 = .ok (.aload_n 1, 1) := by decide +kernel
theorem dJ5_appendChars_3135b_146 : decode cJ5_appendChars_3135b 146 = .ok (.invokevirtual 400, 3) := by decide +kernel
theorem dJ5_appendChars_3135b_149 : decode cJ5_appendChars_3135b 149 = .ok (.ifCond .eq 20, 3) := by decide +kernel
theorem dJ5_appendChars_3135b_152 : decode cJ5_appendChars_3135b 152 = .ok (.aload_n 0, 1) := by decide +kernel
theorem dJ5_appendChars_3135b_153 : decode cJ5_appendChars_3135b 153 = .ok (.getfield 15, 3) := by decide +kernel
theorem dJ5_appendChars_3135b_156 : decode cJ5_appendChars_3135b 156 = .ok (.aload_n 0, 1) := by decide +kernel
theorem dJ5_appendChars_3135b_157 : decode cJ5_appendChars_3135b 157 = .ok (.getfield 79, 3) := by decide +kernel
theorem dJ5_appendChars_3135b_160 : decode cJ5_appendChars_3135b 160 = .ok (.aload_n 1, 1) := by decide +kernel
theorem dJ5_appendChars_3135b_161 : decode cJ5_appendChars_3135b 161 = .ok (.iload_n 2, 1) := by decide +kernel
theorem dJ5_appendChars_3135b_162 : decode cJ5_appendChars_3135b 162 = .ok (.iload_n 3, 1) := by decide +kernel
theorem dJ5_appendChars_3135b_163 : decode cJ5_appendChars_3135b 163 = .ok (.invokestatic 394, 3) := by decide +kernel
theorem dJ5_appendChars_3135b_166 : decode cJ5_appendChars_3135b 166 = .ok (.goto 28, 3) := by decide +kernel
theorem dJ5_appendChars_3135b_169 : decode cJ5_appendChars_3135b 169 = .ok (.aload_n 1, 1) := by decide +kernel
theorem dJ5_appendChars_3135b_170 : decode cJ5_appendChars_3135b 170 = .ok (.invokevirtual 401, 3) := by decide +kernel
theorem dJ5_appendChars_3135b_173 : decode cJ5_appendChars_3135b 173 = .ok (.iload_n 2, 1) := by decide +kernel
theorem dJ5_appendChars_3135b_174 : decode cJ5_appendChars_3135b 174 = .ok (.iconst 1, 1) := by decide +kernel
theorem dJ5_appendChars_3135b_175 : decode cJ5_appendChars_3135b 175 = .ok (.ishl, 1) := by decide +kernel
theorem dJ5_appendChars_3135b_176 : decode cJ5_appendChars_3135b 176 = .ok (.aload_n 0, 1) := by decide +kernel
theorem dJ5_appendChars_3135b_177 : decode cJ5_appendChars_3135b 177 = .ok (.getfield 15, 3) := by decide +kernel
theorem dJ5_appendChars_3135b_180 : decode cJ5_appendChars_3135b 180 = .ok (.aload_n 0, 1) := by decide +kernel
theorem dJ5_appendChars_3135b_181 : decode cJ5_appendChars_3135b 181 = .ok (.getfield 79, 3) := by decide +kernel
theorem dJ5_appendChars_3135b_184 : decode cJ5_appendChars_3135b 184 = .ok (.iconst 1, 1) := by decide +kernel
theorem dJ5_appendChars_3135b_185 : decode cJ5_appendChars_3135b 185 = .ok (.ishl, 1) := by decide +kernel
theorem dJ5_appendChars_3135b_186 : decode cJ5_appendChars_3135b 186 = .ok (.iload_n 3, 1) := by decide +kernel
theorem dJ5_appendChars_3135b_187 : decode cJ5_appendChars_3135b 187 = .ok (.iload_n 2, 1) := by decide +kernel
theorem dJ5_appendChars_3135b_188 : decode cJ5_appendChars_3135b 188 = .ok (.isub, 1) := by decide +kernel
theorem dJ5_appendChars_3135b_189 : decode cJ5_appendChars_3135b 189 = .ok (.iconst 1, 1) := by decide +kernel
theorem dJ5_appendChars_3135b_190 : decode cJ5_appendChars_3135b 190 = .ok (.ishl, 1) := by decide +kernel
theorem dJ5_appendChars_3135b_191 : decode cJ5_appendChars_3135b 191 = .ok (.invokestatic 309, 3) := by decide +kernel
theorem dJ5_appendChars_3135b_194 : decode cJ5_appendChars_3135b 194 = .ok (.aload_n 0, 1) := by decide +kernel
theorem dJ5_appendChars_3135b_195 : decode cJ5_appendChars_3135b 195 = .ok (.dup, 1) := by decide +kernel
theorem dJ5_appendChars_3135b_196 : decode cJ5_appendChars_3135b 196 = .ok (.getfield 79, 3) := by decide +kernel
theorem dJ5_appendChars_3135b_199 : decode cJ5_appendChars_3135b 199 = .ok (.iload_n 3, 1) := by decide +kernel
theorem dJ5_appendChars_3135b_200 : decode cJ5_appendChars_3135b 200 = .ok (.iload_n 2, 1) := by decide +kernel
theorem dJ5_appendChars_3135b_201 : decode cJ5_appendChars_3135b 201 = .ok (.isub, 1) := by decide +kernel
theorem dJ5_appendChars_3135b_202 : decode cJ5_appendChars_3135b 202 = .ok (.iadd, 1) := by decide +kernel
theorem dJ5_appendChars_3135b_203 : decode cJ5_appendChars_3135b 203 = .ok (.putfield 79, 3) := by decide +kernel
theorem dJ5_appendChars_3135b_206 : decode cJ5_appendChars_3135b 206 = .ok (.return_, 1) := by decide +kernel
theorem dJ5_appendChars_a91ff_0 : decode cJ5_appendChars_a91ff 0 = .ok (.aload_n 0, 1) := by decide +kernel
theorem dJ5_appendChars_a91ff_1 : decode cJ5_appendChars_a91ff 1 = .ok (.invokevirtual 83, 3) := by decide +kernel
theorem dJ5_appendChars_a91ff_4 : decode cJ5_appendChars_a91ff 4 = .ok (.ifCond .eq 125, 3) := by decide +kernel
theorem dJ5_appendChars_a91ff_7 : decode cJ5_appendChars_a91ff 7 = .ok (.aload_n 0, 1) := by decide +kernel
theorem dJ5_appendChars_a91ff_8 : decode cJ5_appendChars_a91ff 8 = .ok (.getfield 15, 3) := by decide +kernel
theorem dJ5_appendChars_a91ff_11 : decode cJ5_appendChars_a91ff 11 = .ok (.astore 4, 2) := by decide +kernel
theorem dJ5_appendChars_a91ff_13 : decode cJ5_appendChars_a91ff 13 = .ok (.iload_n 2, 1) := by decide +kernel
theorem dJ5_appendChars_a91ff_14 : decode cJ5_appendChars_a91ff 14 = .ok (.istore 5, 2) := by decide +kernel
theorem dJ5_appendChars_a91ff_16 : decode cJ5_appendChars_a91ff 16 = .ok (.aload_n 0, 1) := by decide +kernel
theorem dJ5_appendChars_a91ff_17 : decode cJ5_appendChars_a91ff 17 = .ok (.getfield 79, 3) := by decide +kernel
theorem dJ5_appendChars_a91ff_20 : decode cJ5_appendChars_a91ff 20 = .ok (.istore 6, 2) := by decide +kernel
theorem dJ5_appendChars_a91ff_22 : decode cJ5_appendChars_a91ff 22 = .ok (.iload 5, 2) := by decide +kernel
theorem dJ5_appendChars_a91ff_24 : decode cJ5_appendChars_a91ff 24 = .ok (.iload_n 3, 1) := by decide +kernel
theorem dJ5_appendChars_a91ff_25 : decode cJ5_appendChars_a91ff 25 = .ok (.if_icmp .ge 101, 3) := by decide +kernel
theorem dJ5_appendChars_a91ff_28 : decode cJ5_appendChars_a91ff 28 = .ok (.aload_n 1, 1) := by decide +kernel
theorem dJ5_appendChars_a91ff_29 : decode cJ5_appendChars_a91ff 29 = .ok (.iload 5, 2) := by decide +kernel
theorem dJ5_appendChars_a91ff_31 : decode cJ5_appendChars_a91ff 31 = .ok (.invokeinterface 390 2, 5) := by decide +kernel
theorem dJ5_appendChars_a91ff_36 : decode cJ5_appendChars_a91ff 36 = .ok (.istore 7, 2) := by decide +kernel
theorem dJ5_appendChars_a91ff_38 : decode cJ5_appendChars_a91ff 38 = .ok (.iload 7, 2) := by decide +kernel
theorem dJ5_appendChars_a91ff_40 : decode cJ5_appendChars_a91ff 40 = .ok (.invokestatic 191, 3) := by decide +kernel
theorem dJ5_appendChars_a91ff_43 : decode cJ5_appendChars_a91ff 43 = .ok (.ifCond .eq 17, 3) := by decide +kernel
theorem dJ5_appendChars_a91ff_46 : decode cJ5_appendChars_a91ff 46 = .ok (.aload 4, 2) := by decide +kernel
theorem dJ5_appendChars_a91ff_48 : decode cJ5_appendChars_a91ff 48 = .ok (.iload 6, 2) := by decide +kernel
theorem dJ5_appendChars_a91ff_50 : decode cJ5_appendChars_a91ff 50 = .ok (.iinc 6 1, 3) := by decide +kernel
theorem dJ5_appendChars_a91ff_53 : decode cJ5_appendChars_a91ff 53 = .ok (.iload 7, 2) := by decide +kernel
theorem dJ5_appendChars_a91ff_55 : decode cJ5_appendChars_a91ff 55 = .ok (.i2b, 1) := by decide +kernel
theorem dJ5_appendChars_a91ff_56 : decode cJ5_appendChars_a91ff 56 = .ok (.bastore, 1) := by decide +kernel
theorem dJ5_appendChars_a91ff_57 : decode cJ5_appendChars_a91ff 57 = .ok (.goto 63, 3) := by decide +kernel
theorem dJ5_appendChars_a91ff_60 : decode cJ5_appendChars_a91ff 60 = .ok (.aload_n 0, 1) := by decide +kernel
theorem dJ5_appendChars_a91ff_61 : decode cJ5_appendChars_a91ff 61 = .ok (.iload 6, 2) := by decide +kernel
theorem dJ5_appendChars_a91ff_63 : decode cJ5_appendChars_a91ff 63 = .ok (.putfield 79, 3) := by decide +kernel
theorem dJ5_appendChars_a91ff_66 : decode cJ5_appendChars_a91ff 66 = .ok (.aload_n 0, 1) := by decide +kernel
theorem dJ5_appendChars_a91ff_67 : decode cJ5_appendChars_a91ff 67 = .ok (.invokevirtual 195, 3) := by decide +kernel
theorem dJ5_appendChars_a91ff_70 : decode cJ5_appendChars_a91ff 70 = .ok (.aload_n 0, 1) := by decide +kernel
theorem dJ5_appendChars_a91ff_71 : decode cJ5_appendChars_a91ff 71 = .ok (.getfield 15, 3) := by decide +kernel
theorem dJ5_appendChars_a91ff_74 : decode cJ5_appendChars_a91ff 74 = .ok (.iload 6, 2) := by decide +kernel
theorem dJ5_appendChars_a91ff_76 : decode cJ5_appendChars_a91ff 76 = .ok (.iinc 6 1, 3) := by decide +kernel
theorem dJ5_appendChars_a91ff_79 : decode cJ5_appendChars_a91ff 79 = .ok (.iload 7, 2) := by decide +kernel
theorem dJ5_appendChars_a91ff_81 : decode cJ5_appendChars_a91ff 81 = .ok (.invokestatic 197, 3) := by decide +kernel
theorem dJ5_appendChars_a91ff_84 : decode cJ5_appendChars_a91ff 84 = .ok (.aload_n 0, 1) := by decide +kernel
theorem dJ5_appendChars_a91ff_85 : decode cJ5_appendChars_a91ff 85 = .ok (.iload 6, 2) := by decide +kernel
theorem dJ5_appendChars_a91ff_87 : decode cJ5_appendChars_a91ff 87 = .ok (.putfield 79, 3) := by decide +kernel
theorem dJ5_appendChars_a91ff_90 : decode cJ5_appendChars_a91ff 90 = .ok (.iinc 5 1, 3) := by decide +kernel
theorem dJ5_appendChars_a91ff_93 : decode cJ5_appendChars_a91ff 93 = .ok (.aload_n 0, 1) := by decide +kernel
theorem dJ5_appendChars_a91ff_94 : decode cJ5_appendChars_a91ff 94 = .ok (.getfield 15, 3) := by decide +kernel
theorem dJ5_appendChars_a91ff_97 : decode cJ5_appendChars_a91ff 97 = .ok (.iload 6, 2) := by decide +kernel
theorem dJ5_appendChars_a91ff_99 : decode cJ5_appendChars_a91ff 99 = .ok (.aload_n 1, 1) := by decide +kernel
theorem dJ5_appendChars_a91ff_100 : decode cJ5_appendChars_a91ff 100 = .ok (.iload 5, 2) := by decide +kernel
theorem dJ5_appendChars_a91ff_102 : decode cJ5_appendChars_a91ff 102 = .ok (.iload_n 3, 1) := by decide +kernel
theorem dJ5_appendChars_a91ff_103 : decode cJ5_appendChars_a91ff 103 = .ok (.invokestatic 394, 3) := by decide +kernel
theorem dJ5_appendChars_a91ff_106 : decode cJ5_appendChars_a91ff 106 = .ok (.aload_n 0, 1) := by decide +kernel
theorem dJ5_appendChars_a91ff_107 : decode cJ5_appendChars_a91ff 107 = .ok (.dup, 1) := by decide +kernel
theorem dJ5_appendChars_a91ff_108 : decode cJ5_appendChars_a91ff 108 = .ok (.getfield 79, 3) := by decide +kernel
theorem dJ5_appendChars_a91ff_111 : decode cJ5_appendChars_a91ff 111 = .ok (.iload_n 3, 1) := by decide +kernel
theorem dJ5_appendChars_a91ff_112 : decode cJ5_appendChars_a91ff 112 = .ok (.iload 5, 2) := by decide +kernel
theorem dJ5_appendChars_a91ff_114 : decode cJ5_appendChars_a91ff 114 = .ok (.isub, 1) := by decide +kernel
theorem dJ5_appendChars_a91ff_115 : decode cJ5_appendChars_a91ff 115 = .ok (.iadd, 1) := by decide +kernel
theorem dJ5_appendChars_a91ff_116 : decode cJ5_appendChars_a91ff 116 = .ok (.putfield 79, 3) := by decide +kernel
theorem dJ5_appendChars_a91ff_119 : decode cJ5_appendChars_a91ff 119 = .ok (.return_, 1) := by decide +kernel
theorem dJ5_appendChars_a91ff_120 : decode cJ5_appendChars_a91ff 120 = .ok (.iinc 5 1, 3) := by decide +kernel
theorem dJ5_appendChars_a91ff_123 : decode cJ5_appendChars_a91ff 123 = .ok (.goto (-101), 3) := by decide +kernel
theorem dJ5_appendChars_a91ff_126 : decode cJ5_appendChars_a91ff 126 = .ok (.goto 17, 3) := by decide +kernel
theorem dJ5_appendChars_a91ff_129 : decode cJ5_appendChars_a91ff 129 = .ok (.aload_n 0, 1) := by decide +kernel
theorem dJ5_appendChars_a91ff_130 : decode cJ5_appendChars_a91ff 130 = .ok (.getfield 15, 3) := by decide +kernel
theorem dJ5_appendChars_a91ff_133 : decode cJ5_appendChars_a91ff 133 = .ok (.aload_n 0, 1) := by decide +kernel
theorem dJ5_appendChars_a91ff_134 : decode cJ5_appendChars_a91ff 134 = .ok (.getfield 79, 3) := by decide +kernel
theorem dJ5_appendChars_a91ff_137 : decode cJ5_appendChars_a91ff 137 = .ok (.aload_n 1, 1) := by decide +kernel
theorem dJ5_appendChars_a91ff_138 : decode cJ5_appendChars_a91ff 138 = .ok (.iload_n 2, 1) := by decide +kernel
theorem dJ5_appendChars_a91ff_139 : decode cJ5_appendChars_a91ff 139 = .ok (.iload_n 3, 1) := by decide +kernel
theorem dJ5_appendChars_a91ff_140 : decode cJ5_appendChars_a91ff 140 = .ok (.invokestatic 394, 3) := by decide +kernel
theorem dJ5_appendChars_a91ff_143 : decode cJ5_appendChars_a91ff 143 = .ok (.aload_n 0, 1) := by decide +kernel
theorem dJ5_appendChars_a91ff_144 : decode cJ5_appendChars_a91ff 144 = .ok (.dup, 1) := by decide +kernel
theorem dJ5_appendChars_a91ff_145 : decode cJ5_appendChars_a91ff 145 = .ok (.getfield 79, 3) := by decide +kernel
theorem dJ5_appendChars_a91ff_148 : decode cJ5_appendChars_a91ff 148 = .ok (.iload_n 3, 1) := by decide +kernel
theorem dJ5_appendChars_a91ff_149 : decode cJ5_appendChars_a91ff 149 = .ok (.iload_n 2, 1) := by decide +kernel
theorem dJ5_appendChars_a91ff_150 : decode cJ5_appendChars_a91ff 150 = .ok (.isub, 1) := by decide +kernel
theorem dJ5_appendChars_a91ff_151 : decode cJ5_appendChars_a91ff 151 = .ok (.iadd, 1) := by decide +kernel
theorem dJ5_appendChars_a91ff_152 : decode cJ5_appendChars_a91ff 152 = .ok (.putfield 79, 3) := by decide +kernel
theorem dJ5_appendChars_a91ff_155 : decode cJ5_appendChars_a91ff 155 = .ok (.return_, 1) := by decide +kernel
