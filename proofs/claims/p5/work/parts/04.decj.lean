section ZM0
theorem dJ5_init_d00df_0 : decode cJ5_init_d00df 0 = .ok (.aload_n 0, 1) := by decide +kernel
theorem dJ5_init_d00df_1 : decode cJ5_init_d00df 1 = .ok (.invokespecial 3, 3) := by decide +kernel
theorem dJ5_init_d00df_4 : decode cJ5_init_d00df 4 = .ok (.getstatic 18, 3) := by decide +kernel
theorem dJ5_init_d00df_7 : decode cJ5_init_d00df 7 = .ok (.ifCond .eq 18, 3) := by decide +kernel
theorem dJ5_init_d00df_10 : decode cJ5_init_d00df 10 = .ok (.aload_n 0, 1) := by decide +kernel
theorem dJ5_init_d00df_11 : decode cJ5_init_d00df 11 = .ok (.iload_n 1, 1) := by decide +kernel
theorem dJ5_init_d00df_12 : decode cJ5_init_d00df 12 = .ok (.newarray .byte, 2) := by decide +kernel
theorem dJ5_init_d00df_14 : decode cJ5_init_d00df 14 = .ok (.putfield 15, 3) := by decide +kernel
theorem dJ5_init_d00df_17 : decode cJ5_init_d00df 17 = .ok (.aload_n 0, 1) := by decide +kernel
theorem dJ5_init_d00df_18 : decode cJ5_init_d00df 18 = .ok (.iconst 0, 1) := by decide +kernel
theorem dJ5_init_d00df_19 : decode cJ5_init_d00df 19 = .ok (.putfield 22, 3) := by decide +kernel
theorem dJ5_init_d00df_22 : decode cJ5_init_d00df 22 = .ok (.goto 16, 3) := by decide +kernel
theorem dJ5_init_d00df_38 : decode cJ5_init_d00df 38 = .ok (.return_, 1) := by decide +kernel
theorem dJ5_length_8abf5_0 : decode cJ5_length_8abf5 0 = .ok (.aload_n 0, 1) := by decide +kernel
theorem dJ5_length_8abf5_1 : decode cJ5_length_8abf5 1 = .ok (.getfield 79, 3) := by decide +kernel
theorem dJ5_length_8abf5_4 : decode cJ5_length_8abf5 4 = .ok (.ireturn, 1) := by decide +kernel
theorem dJ5_ensureCapacityInternal_d00df_0 : decode cJ5_ensureCapacityInternal_d00df 0 = .ok (.aload_n 0, 1) := by decide +kernel
theorem dJ5_ensureCapacityInternal_d00df_1 : decode cJ5_ensureCapacityInternal_d00df 1 = .ok (.getfield 15, 3) := by decide +kernel
theorem dJ5_ensureCapacityInternal_d00df_4 : decode cJ5_ensureCapacityInternal_d00df 4 = .ok (.arraylength, 1) := by decide +kernel
theorem dJ5_ensureCapacityInternal_d00df_5 : decode cJ5_ensureCapacityInternal_d00df 5 = .ok (.aload_n 0, 1) := by decide +kernel
theorem dJ5_ensureCapacityInternal_d00df_6 : decode cJ5_ensureCapacityInternal_d00df 6 = .ok (.getfield 22, 3) := by decide +kernel
theorem dJ5_ensureCapacityInternal_d00df_9 : decode cJ5_ensureCapacityInternal_d00df 9 = .ok (.ishr, 1) := by decide +kernel
theorem dJ5_ensureCapacityInternal_d00df_10 : decode cJ5_ensureCapacityInternal_d00df 10 = .ok (.istore_n 2, 1) := by decide +kernel
theorem dJ5_ensureCapacityInternal_d00df_11 : decode cJ5_ensureCapacityInternal_d00df 11 = .ok (.iload_n 1, 1) := by decide +kernel
theorem dJ5_ensureCapacityInternal_d00df_12 : decode cJ5_ensureCapacityInternal_d00df 12 = .ok (.iload_n 2, 1) := by decide +kernel
theorem dJ5_ensureCapacityInternal_d00df_13 : decode cJ5_ensureCapacityInternal_d00df 13 = .ok (.isub, 1) := by decide +kernel
theorem dJ5_ensureCapacityInternal_d00df_14 : decode cJ5_ensureCapacityInternal_d00df 14 = .ok (.ifCond .le 24, 3) := by decide +kernel
theorem dJ5_ensureCapacityInternal_d00df_17 : decode cJ5_ensureCapacityInternal_d00df 17 = .ok (.aload_n 0, 1) := by decide +kernel
theorem dJ5_ensureCapacityInternal_d00df_18 : decode cJ5_ensureCapacityInternal_d00df 18 = .ok (.aload_n 0, 1) := by decide +kernel
theorem dJ5_ensureCapacityInternal_d00df_19 : decode cJ5_ensureCapacityInternal_d00df 19 = .ok (.getfield 15, 3) := by decide +kernel
theorem dJ5_ensureCapacityInternal_d00df_22 : decode cJ5_ensureCapacityInternal_d00df 22 = .ok (.aload_n 0, 1) := by decide +kernel
theorem dJ5_ensureCapacityInternal_d00df_23 : decode cJ5_ensureCapacityInternal_d00df 23 = .ok (.iload_n 1, 1) := by decide +kernel
theorem dJ5_ensureCapacityInternal_d00df_24 : decode cJ5_ensureCapacityInternal_d00df 24 = .ok (.invokevirtual 104, 3) := by decide +kernel
theorem dJ5_ensureCapacityInternal_d00df_27 : decode cJ5_ensureCapacityInternal_d00df 27 = .ok (.aload_n 0, 1) := by decide +kernel
theorem dJ5_ensureCapacityInternal_d00df_28 : decode cJ5_ensureCapacityInternal_d00df 28 = .ok (.getfield 22, 3) := by decide +kernel
theorem dJ5_ensureCapacityInternal_d00df_31 : decode cJ5_ensureCapacityInternal_d00df 31 = .ok (.ishl, 1) := by decide +kernel
theorem dJ5_ensureCapacityInternal_d00df_32 : decode cJ5_ensureCapacityInternal_d00df 32 = .ok (.invokestatic 108, 3) := by decide +kernel
theorem dJ5_ensureCapacityInternal_d00df_35 : decode cJ5_ensureCapacityInternal_d00df 35 = .ok (.putfield 15, 3) := by decide +kernel
theorem dJ5_ensureCapacityInternal_d00df_38 : decode cJ5_ensureCapacityInternal_d00df 38 = .ok (.return_, 1) := by decide +kernel
theorem dJ5_newCapacity_0f7a4_0 : decode cJ5_newCapacity_0f7a4 0 = .ok (.aload_n 0, 1) := by decide +kernel
theorem dJ5_newCapacity_0f7a4_1 : decode cJ5_newCapacity_0f7a4 1 = .ok (.getfield 15, 3) := by decide +kernel
theorem dJ5_newCapacity_0f7a4_4 : decode cJ5_newCapacity_0f7a4 4 = .ok (.arraylength, 1) := by decide +kernel
theorem dJ5_newCapacity_0f7a4_5 : decode cJ5_newCapacity_0f7a4 5 = .ok (.istore_n 2, 1) := by decide +kernel
theorem dJ5_newCapacity_0f7a4_6 : decode cJ5_newCapacity_0f7a4 6 = .ok (.iload_n 1, 1) := by decide +kernel
theorem dJ5_newCapacity_0f7a4_7 : decode cJ5_newCapacity_0f7a4 7 = .ok (.aload_n 0, 1) := by decide +kernel
theorem dJ5_newCapacity_0f7a4_8 : decode cJ5_newCapacity_0f7a4 8 = .ok (.getfield 22, 3) := by decide +kernel
theorem dJ5_newCapacity_0f7a4_11 : decode cJ5_newCapacity_0f7a4 11 = .ok (.ishl, 1) := by decide +kernel
theorem dJ5_newCapacity_0f7a4_12 : decode cJ5_newCapacity_0f7a4 12 = .ok (.istore_n 3, 1) := by decide +kernel
theorem dJ5_newCapacity_0f7a4_13 : decode cJ5_newCapacity_0f7a4 13 = .ok (.iload_n 3, 1) := by decide +kernel
theorem dJ5_newCapacity_0f7a4_14 : decode cJ5_newCapacity_0f7a4 14 = .ok (.iload_n 2, 1) := by decide +kernel
theorem dJ5_newCapacity_0f7a4_15 : decode cJ5_newCapacity_0f7a4 15 = .ok (.isub, 1) := by decide +kernel
theorem dJ5_newCapacity_0f7a4_16 : decode cJ5_newCapacity_0f7a4 16 = .ok (.istore 4, 2) := by decide +kernel
theorem dJ5_newCapacity_0f7a4_18 : decode cJ5_newCapacity_0f7a4 18 = .ok (.iload_n 2, 1) := by decide +kernel
theorem dJ5_newCapacity_0f7a4_19 : decode cJ5_newCapacity_0f7a4 19 = .ok (.iload 4, 2) := by decide +kernel
theorem dJ5_newCapacity_0f7a4_21 : decode cJ5_newCapacity_0f7a4 21 = .ok (.iload_n 2, 1) := by decide +kernel
theorem dJ5_newCapacity_0f7a4_22 : decode cJ5_newCapacity_0f7a4 22 = .ok (.iconst 2, 1) := by decide +kernel
theorem dJ5_newCapacity_0f7a4_23 : decode cJ5_newCapacity_0f7a4 23 = .ok (.aload_n 0, 1) := by decide +kernel
theorem dJ5_newCapacity_0f7a4_24 : decode cJ5_newCapacity_0f7a4 24 = .ok (.getfield 22, 3) := by decide +kernel
theorem dJ5_newCapacity_0f7a4_27 : decode cJ5_newCapacity_0f7a4 27 = .ok (.ishl, 1) := by decide +kernel
theorem dJ5_newCapacity_0f7a4_28 : decode cJ5_newCapacity_0f7a4 28 = .ok (.iadd, 1) := by decide +kernel
theorem dJ5_newCapacity_0f7a4_29 : decode cJ5_newCapacity_0f7a4 29 = .ok (.invokestatic 114, 3) := by decide +kernel
theorem dJ5_newCapacity_0f7a4_32 : decode cJ5_newCapacity_0f7a4 32 = .ok (.istore 5, 2) := by decide +kernel
theorem dJ5_newCapacity_0f7a4_34 : decode cJ5_newCapacity_0f7a4 34 = .ok (.iload 5, 2) := by decide +kernel
theorem dJ5_newCapacity_0f7a4_36 : decode cJ5_newCapacity_0f7a4 36 = .ok (.ldc 39, 2) := by decide +kernel
theorem dJ5_newCapacity_0f7a4_38 : decode cJ5_newCapacity_0f7a4 38 = .ok (.if_icmp .ne 13, 3) := by decide +kernel
theorem dJ5_newCapacity_0f7a4_51 : decode cJ5_newCapacity_0f7a4 51 = .ok (.iload 5, 2) := by decide +kernel
theorem dJ5_newCapacity_0f7a4_53 : decode cJ5_newCapacity_0f7a4 53 = .ok (.aload_n 0, 1) := by decide +kernel
theorem dJ5_newCapacity_0f7a4_54 : decode cJ5_newCapacity_0f7a4 54 = .ok (.getfield 22, 3) := by decide +kernel
theorem dJ5_newCapacity_0f7a4_57 : decode cJ5_newCapacity_0f7a4 57 = .ok (.ishr, 1) := by decide +kernel
theorem dJ5_newCapacity_0f7a4_58 : decode cJ5_newCapacity_0f7a4 58 = .ok (.ireturn, 1) := by decide +kernel
theorem dJ5_append_cf1ce_0 : decode cJ5_append_cf1ce 0 = .ok (.aload_n 1, 1) := by decide +kernel
theorem dJ5_append_cf1ce_1 : decode cJ5_append_cf1ce 1 = .ok (.ifnonnull 8, 3) := by decide +kernel
theorem dJ5_append_cf1ce_9 : decode cJ5_append_cf1ce 9 = .ok (.aload_n 1, 1) := by decide +kernel
theorem dJ5_append_cf1ce_10 : decode cJ5_append_cf1ce 10 = .ok (.invokevirtual 32, 3) := by decide +kernel
theorem dJ5_append_cf1ce_13 : decode cJ5_append_cf1ce 13 = .ok (.istore_n 2, 1) := by decide +kernel
theorem dJ5_append_cf1ce_14 : decode cJ5_append_cf1ce 14 = .ok (.aload_n 0, 1) := by decide +kernel
theorem dJ5_append_cf1ce_15 : decode cJ5_append_cf1ce 15 = .ok (.aload_n 0, 1) := by decide +kernel
theorem dJ5_append_cf1ce_16 : decode cJ5_append_cf1ce 16 = .ok (.getfield 79, 3) := by decide +kernel
theorem dJ5_append_cf1ce_19 : decode cJ5_append_cf1ce 19 = .ok (.iload_n 2, 1) := by decide +kernel
theorem dJ5_append_cf1ce_20 : decode cJ5_append_cf1ce 20 = .ok (.iadd, 1) := by decide +kernel
theorem dJ5_append_cf1ce_21 : decode cJ5_append_cf1ce 21 = .ok (.invokevirtual 100, 3) := by decide +kernel
theorem dJ5_append_cf1ce_24 : decode cJ5_append_cf1ce 24 = .ok (.aload_n 0, 1) := by decide +kernel
theorem dJ5_append_cf1ce_25 : decode cJ5_append_cf1ce 25 = .ok (.aload_n 0, 1) := by decide +kernel
theorem dJ5_append_cf1ce_26 : decode cJ5_append_cf1ce 26 = .ok (.getfield 79, 3) := by decide +kernel
theorem dJ5_append_cf1ce_29 : decode cJ5_append_cf1ce 29 = .ok (.aload_n 1, 1) := by decide +kernel
theorem dJ5_append_cf1ce_30 : decode cJ5_append_cf1ce 30 = .ok (.invokevirtual 208, 3) := by decide +kernel
theorem dJ5_append_cf1ce_33 : decode cJ5_append_cf1ce 33 = .ok (.aload_n 0, 1) := by decide +kernel
theorem dJ5_append_cf1ce_34 : decode cJ5_append_cf1ce 34 = .ok (.dup, 1) := by decide +kernel
theorem dJ5_append_cf1ce_35 : decode cJ5_append_cf1ce 35 = .ok (.getfield 79, 3) := by decide +kernel
theorem dJ5_append_cf1ce_38 : decode cJ5_append_cf1ce 38 = .ok (.iload_n 2, 1) := by decide +kernel
theorem dJ5_append_cf1ce_39 : decode cJ5_append_cf1ce 39 = .ok (.iadd, 1) := by decide +kernel
theorem dJ5_append_cf1ce_40 : decode cJ5_append_cf1ce 40 = .ok (.putfield 79, 3) := by decide +kernel
theorem dJ5_append_cf1ce_43 : decode cJ5_append_cf1ce 43 = .ok (.aload_n 0, 1) := by decide +kernel
theorem dJ5_append_cf1ce_44 : decode cJ5_append_cf1ce 44 = .ok (.areturn, 1) := by decide +kernel
theorem dJ5_append_3fe6f_0 : decode cJ5_append_3fe6f 0 = .ok (.aload_n 0, 1) := by decide +kernel
theorem dJ5_append_3fe6f_1 : decode cJ5_append_3fe6f 1 = .ok (.aload_n 0, 1) := by decide +kernel
theorem dJ5_append_3fe6f_2 : decode cJ5_append_3fe6f 2 = .ok (.getfield 79, 3) := by decide +kernel
theorem dJ5_append_3fe6f_5 : decode cJ5_append_3fe6f 5 = .ok (.iconst 1, 1) := by decide +kernel
theorem dJ5_append_3fe6f_6 : decode cJ5_append_3fe6f 6 = .ok (.iadd, 1) := by decide +kernel
theorem dJ5_append_3fe6f_7 : decode cJ5_append_3fe6f 7 = .ok (.invokevirtual 100, 3) := by decide +kernel
theorem dJ5_append_3fe6f_10 : decode cJ5_append_3fe6f 10 = .ok (.aload_n 0, 1) := by decide +kernel
theorem dJ5_append_3fe6f_11 : decode cJ5_append_3fe6f 11 = .ok (.invokevirtual 83, 3) := by decide +kernel
theorem dJ5_append_3fe6f_14 : decode cJ5_append_3fe6f 14 = .ok (.ifCond .eq 31, 3) := by decide +kernel
theorem dJ5_append_3fe6f_17 : decode cJ5_append_3fe6f 17 = .ok (.iload_n 1, 1) := by decide +kernel
theorem dJ5_append_3fe6f_18 : decode cJ5_append_3fe6f 18 = .ok (.invokestatic 191, 3) := by decide +kernel
theorem dJ5_append_3fe6f_21 : decode cJ5_append_3fe6f 21 = .ok (.ifCond .eq 24, 3) := by decide +kernel
theorem dJ5_append_3fe6f_24 : decode cJ5_append_3fe6f 24 = .ok (.aload_n 0, 1) := by decide +kernel
theorem dJ5_append_3fe6f_25 : decode cJ5_append_3fe6f 25 = .ok (.getfield 15, 3) := by decide +kernel
theorem dJ5_append_3fe6f_28 : decode cJ5_append_3fe6f 28 = .ok (.aload_n 0, 1) := by decide +kernel
theorem dJ5_append_3fe6f_29 : decode cJ5_append_3fe6f 29 = .ok (.dup, 1) := by decide +kernel
theorem dJ5_append_3fe6f_30 : decode cJ5_append_3fe6f 30 = .ok (.getfield 79, 3) := by decide +kernel
theorem dJ5_append_3fe6f_33 : decode cJ5_append_3fe6f 33 = .ok (.dup_x1, 1) := by decide +kernel
theorem dJ5_append_3fe6f_34 : decode cJ5_append_3fe6f 34 = .ok (.iconst 1, 1) := by decide +kernel
theorem dJ5_append_3fe6f_35 : decode cJ5_append_3fe6f 35 = .ok (.iadd, 1) := by decide +kernel
theorem dJ5_append_3fe6f_36 : decode cJ5_append_3fe6f 36 = .ok (.putfield 79, 3) := by decide +kernel
theorem dJ5_append_3fe6f_39 : decode cJ5_append_3fe6f 39 = .ok (.iload_n 1, 1) := by decide +kernel
theorem dJ5_append_3fe6f_40 : decode cJ5_append_3fe6f 40 = .ok (.i2b, 1) := by decide +kernel
theorem dJ5_append_3fe6f_41 : decode cJ5_append_3fe6f 41 = .ok (.bastore, 1) := by decide +kernel
theorem dJ5_append_3fe6f_42 : decode cJ5_append_3fe6f 42 = .ok (.goto 33, 3) := by decide +kernel
theorem dJ5_append_3fe6f_75 : decode cJ5_append_3fe6f 75 = .ok (.aload_n 0, 1) := by decide +kernel
theorem dJ5_append_3fe6f_76 : decode cJ5_append_3fe6f 76 = .ok (.areturn, 1) := by decide +kernel
theorem dJ5_append_c97b9_0 : decode cJ5_append_c97b9 0 = .ok (.aload_n 0, 1) := by decide +kernel
theorem dJ5_append_c97b9_1 : decode cJ5_append_c97b9 1 = .ok (.getfield 79, 3) := by decide +kernel
theorem dJ5_append_c97b9_4 : decode cJ5_append_c97b9 4 = .ok (.istore_n 2, 1) := by decide +kernel
theorem dJ5_append_c97b9_5 : decode cJ5_append_c97b9 5 = .ok (.iload_n 2, 1) := by decide +kernel
theorem dJ5_append_c97b9_6 : decode cJ5_append_c97b9 6 = .ok (.iload_n 1, 1) := by decide +kernel
theorem dJ5_append_c97b9_7 : decode cJ5_append_c97b9 7 = .ok (.invokestatic 245, 3) := by decide +kernel
theorem dJ5_append_c97b9_10 : decode cJ5_append_c97b9 10 = .ok (.iadd, 1) := by decide +kernel
theorem dJ5_append_c97b9_11 : decode cJ5_append_c97b9 11 = .ok (.istore_n 3, 1) := by decide +kernel
theorem dJ5_append_c97b9_12 : decode cJ5_append_c97b9 12 = .ok (.aload_n 0, 1) := by decide +kernel
theorem dJ5_append_c97b9_13 : decode cJ5_append_c97b9 13 = .ok (.iload_n 3, 1) := by decide +kernel
theorem dJ5_append_c97b9_14 : decode cJ5_append_c97b9 14 = .ok (.invokevirtual 100, 3) := by decide +kernel
theorem dJ5_append_c97b9_17 : decode cJ5_append_c97b9 17 = .ok (.aload_n 0, 1) := by decide +kernel
theorem dJ5_append_c97b9_18 : decode cJ5_append_c97b9 18 = .ok (.invokevirtual 83, 3) := by decide +kernel
theorem dJ5_append_c97b9_21 : decode cJ5_append_c97b9 21 = .ok (.ifCond .eq 16, 3) := by decide +kernel
theorem dJ5_append_c97b9_24 : decode cJ5_append_c97b9 24 = .ok (.iload_n 1, 1) := by decide +kernel
theorem dJ5_append_c97b9_25 : decode cJ5_append_c97b9 25 = .ok (.iload_n 3, 1) := by decide +kernel
theorem dJ5_append_c97b9_26 : decode cJ5_append_c97b9 26 = .ok (.aload_n 0, 1) := by decide +kernel
theorem dJ5_append_c97b9_27 : decode cJ5_append_c97b9 27 = .ok (.getfield 15, 3) := by decide +kernel
theorem dJ5_append_c97b9_30 : decode cJ5_append_c97b9 30 = .ok (.invokestatic 248, 3) := by decide +kernel
theorem dJ5_append_c97b9_33 : decode cJ5_append_c97b9 33 = .ok (.pop, 1) := by decide +kernel
theorem dJ5_append_c97b9_34 : decode cJ5_append_c97b9 34 = .ok (.goto 14, 3) := by decide +kernel
theorem dJ5_append_c97b9_48 : decode cJ5_append_c97b9 48 = .ok (.aload_n 0, 1) := by decide +kernel
theorem dJ5_append_c97b9_49 : decode cJ5_append_c97b9 49 = .ok (.iload_n 3, 1) := by decide +kernel
theorem dJ5_append_c97b9_50 : decode cJ5_append_c97b9 50 = .ok (.putfield 79, 3) := by decide +kernel
theorem dJ5_append_c97b9_53 : decode cJ5_append_c97b9 53 = .ok (.aload_n 0, 1) := by decide +kernel
theorem dJ5_append_c97b9_54 : decode cJ5_append_c97b9 54 = .ok (.areturn, 1) := by decide +kernel
theorem dJ5_getValue_6d5f1_0 : decode cJ5_getValue_6d5f1 0 = .ok (.aload_n 0, 1) := by decide +kernel
theorem dJ5_getValue_6d5f1_1 : decode cJ5_getValue_6d5f1 1 = .ok (.getfield 15, 3) := by decide +kernel
theorem dJ5_getValue_6d5f1_4 : decode cJ5_getValue_6d5f1 4 = .ok (.areturn, 1) := by decide +kernel
theorem dJ5_isLatin1_aae02_0 : decode cJ5_isLatin1_aae02 0 = .ok (.getstatic 18, 3) := by decide +kernel
theorem dJ5_isLatin1_aae02_3 : decode cJ5_isLatin1_aae02 3 = .ok (.ifCond .eq 14, 3) := by decide +kernel
theorem dJ5_isLatin1_aae02_6 : decode cJ5_isLatin1_aae02 6 = .ok (.aload_n 0, 1) := by decide +kernel
theorem dJ5_isLatin1_aae02_7 : decode cJ5_isLatin1_aae02 7 = .ok (.getfield 22, 3) := by decide +kernel
theorem dJ5_isLatin1_aae02_10 : decode cJ5_isLatin1_aae02 10 = .ok (.ifCond .ne 7, 3) := by decide +kernel
theorem dJ5_isLatin1_aae02_13 : decode cJ5_isLatin1_aae02 13 = .ok (.iconst 1, 1) := by decide +kernel
theorem dJ5_isLatin1_aae02_14 : decode cJ5_isLatin1_aae02 14 = .ok (.goto 4, 3) := by decide +kernel
theorem dJ5_isLatin1_aae02_18 : decode cJ5_isLatin1_aae02 18 = .ok (.ireturn, 1) := by decide +kernel
theorem dJ5_inflateIfNeededFor_a7421_0 : decode cJ5_inflateIfNeededFor_a7421 0 = .ok (.getstatic 18, 3) := by decide +kernel
theorem dJ5_inflateIfNeededFor_a7421_3 : decode cJ5_inflateIfNeededFor_a7421 3 = .ok (.ifCond .eq 18, 3) := by decide +kernel
theorem dJ5_inflateIfNeededFor_a7421_6 : decode cJ5_inflateIfNeededFor_a7421 6 = .ok (.aload_n 0, 1) := by decide +kernel
theorem dJ5_inflateIfNeededFor_a7421_7 : decode cJ5_inflateIfNeededFor_a7421 7 = .ok (.getfield 22, 3) := by decide +kernel
theorem dJ5_inflateIfNeededFor_a7421_10 : decode cJ5_inflateIfNeededFor_a7421 10 = .ok (.aload_n 1, 1) := by decide +kernel
theorem dJ5_inflateIfNeededFor_a7421_11 : decode cJ5_inflateIfNeededFor_a7421 11 = .ok (.invokevirtual 40, 3) := by decide +kernel
theorem dJ5_inflateIfNeededFor_a7421_14 : decode cJ5_inflateIfNeededFor_a7421 14 = .ok (.if_icmp .eq 7, 3) := by decide +kernel
theorem dJ5_inflateIfNeededFor_a7421_21 : decode cJ5_inflateIfNeededFor_a7421 21 = .ok (.return_, 1) := by decide +kernel
theorem dJ5_putStringAt_47b60_0 : decode cJ5_putStringAt_47b60 0 = .ok (.aload_n 0, 1) := by decide +kernel
theorem dJ5_putStringAt_47b60_1 : decode cJ5_putStringAt_47b60 1 = .ok (.aload_n 2, 1) := by decide +kernel
theorem dJ5_putStringAt_47b60_2 : decode cJ5_putStringAt_47b60 2 = .ok (.invokevirtual 397, 3) := by decide +kernel
theorem dJ5_putStringAt_47b60_5 : decode cJ5_putStringAt_47b60 5 = .ok (.aload_n 2, 1) := by decide +kernel
theorem dJ5_putStringAt_47b60_6 : decode cJ5_putStringAt_47b60 6 = .ok (.aload_n 0, 1) := by decide +kernel
theorem dJ5_putStringAt_47b60_7 : decode cJ5_putStringAt_47b60 7 = .ok (.getfield 15, 3) := by decide +kernel
theorem dJ5_putStringAt_47b60_10 : decode cJ5_putStringAt_47b60 10 = .ok (.iload_n 1, 1) := by decide +kernel
theorem dJ5_putStringAt_47b60_11 : decode cJ5_putStringAt_47b60 11 = .ok (.aload_n 0, 1) := by decide +kernel
theorem dJ5_putStringAt_47b60_12 : decode cJ5_putStringAt_47b60 12 = .ok (.getfield 22, 3) := by decide +kernel
theorem dJ5_putStringAt_47b60_15 : decode cJ5_putStringAt_47b60 15 = .ok (.invokevirtual 399, 3) := by decide +kernel
theorem dJ5_putStringAt_47b60_18 : decode cJ5_putStringAt_47b60 18 = .ok (.return_, 1) := by decide +kernel
theorem dJ6_getChars_ba4f3_0 : decode cJ6_getChars_ba4f3 0 = .ok (.iload_n 1, 1) := by decide +kernel
theorem dJ6_getChars_ba4f3_1 : decode cJ6_getChars_ba4f3 1 = .ok (.istore 5, 2) := by decide +kernel
theorem dJ6_getChars_ba4f3_3 : decode cJ6_getChars_ba4f3 3 = .ok (.iload_n 0, 1) := by decide +kernel
theorem dJ6_getChars_ba4f3_4 : decode cJ6_getChars_ba4f3 4 = .ok (.ifCond .ge 7, 3) := by decide +kernel
theorem dJ6_getChars_ba4f3_7 : decode cJ6_getChars_ba4f3 7 = .ok (.iconst 1, 1) := by decide +kernel
theorem dJ6_getChars_ba4f3_8 : decode cJ6_getChars_ba4f3 8 = .ok (.goto 4, 3) := by decide +kernel
theorem dJ6_getChars_ba4f3_11 : decode cJ6_getChars_ba4f3 11 = .ok (.iconst 0, 1) := by decide +kernel
theorem dJ6_getChars_ba4f3_12 : decode cJ6_getChars_ba4f3 12 = .ok (.istore 6, 2) := by decide +kernel
theorem dJ6_getChars_ba4f3_14 : decode cJ6_getChars_ba4f3 14 = .ok (.iload 6, 2) := by decide +kernel
theorem dJ6_getChars_ba4f3_16 : decode cJ6_getChars_ba4f3 16 = .ok (.ifCond .ne 6, 3) := by decide +kernel
theorem dJ6_getChars_ba4f3_19 : decode cJ6_getChars_ba4f3 19 = .ok (.iload_n 0, 1) := by decide +kernel
theorem dJ6_getChars_ba4f3_20 : decode cJ6_getChars_ba4f3 20 = .ok (.ineg, 1) := by decide +kernel
theorem dJ6_getChars_ba4f3_21 : decode cJ6_getChars_ba4f3 21 = .ok (.istore_n 0, 1) := by decide +kernel
theorem dJ6_getChars_ba4f3_22 : decode cJ6_getChars_ba4f3 22 = .ok (.iload_n 0, 1) := by decide +kernel
theorem dJ6_getChars_ba4f3_23 : decode cJ6_getChars_ba4f3 23 = .ok (.bipush (-100), 2) := by decide +kernel
theorem dJ6_getChars_ba4f3_25 : decode cJ6_getChars_ba4f3 25 = .ok (.if_icmp .gt 47, 3) := by decide +kernel
theorem dJ6_getChars_ba4f3_28 : decode cJ6_getChars_ba4f3 28 = .ok (.iload_n 0, 1) := by decide +kernel
theorem dJ6_getChars_ba4f3_29 : decode cJ6_getChars_ba4f3 29 = .ok (.bipush 100, 2) := by decide +kernel
theorem dJ6_getChars_ba4f3_31 : decode cJ6_getChars_ba4f3 31 = .ok (.idiv, 1) := by decide +kernel
theorem dJ6_getChars_ba4f3_32 : decode cJ6_getChars_ba4f3 32 = .ok (.istore_n 3, 1) := by decide +kernel
theorem dJ6_getChars_ba4f3_33 : decode cJ6_getChars_ba4f3 33 = .ok (.iload_n 3, 1) := by decide +kernel
theorem dJ6_getChars_ba4f3_34 : decode cJ6_getChars_ba4f3 34 = .ok (.bipush 100, 2) := by decide +kernel
theorem dJ6_getChars_ba4f3_36 : decode cJ6_getChars_ba4f3 36 = .ok (.imul, 1) := by decide +kernel
theorem dJ6_getChars_ba4f3_37 : decode cJ6_getChars_ba4f3 37 = .ok (.iload_n 0, 1) := by decide +kernel
theorem dJ6_getChars_ba4f3_38 : decode cJ6_getChars_ba4f3 38 = .ok (.isub, 1) := by decide +kernel
theorem dJ6_getChars_ba4f3_39 : decode cJ6_getChars_ba4f3 39 = .ok (.istore 4, 2) := by decide +kernel
theorem dJ6_getChars_ba4f3_41 : decode cJ6_getChars_ba4f3 41 = .ok (.iload_n 3, 1) := by decide +kernel
theorem dJ6_getChars_ba4f3_42 : decode cJ6_getChars_ba4f3 42 = .ok (.istore_n 0, 1) := by decide +kernel
theorem dJ6_getChars_ba4f3_43 : decode cJ6_getChars_ba4f3 43 = .ok (.aload_n 2, 1) := by decide +kernel
theorem dJ6_getChars_ba4f3_44 : decode cJ6_getChars_ba4f3 44 = .ok (.iinc 5 (-1), 3) := by decide +kernel
theorem dJ6_getChars_ba4f3_47 : decode cJ6_getChars_ba4f3 47 = .ok (.iload 5, 2) := by decide +kernel
theorem dJ6_getChars_ba4f3_49 : decode cJ6_getChars_ba4f3 49 = .ok (.getstatic 83, 3) := by decide +kernel
theorem dJ6_getChars_ba4f3_52 : decode cJ6_getChars_ba4f3 52 = .ok (.iload 4, 2) := by decide +kernel
theorem dJ6_getChars_ba4f3_54 : decode cJ6_getChars_ba4f3 54 = .ok (.baload, 1) := by decide +kernel
theorem dJ6_getChars_ba4f3_55 : decode cJ6_getChars_ba4f3 55 = .ok (.bastore, 1) := by decide +kernel
theorem dJ6_getChars_ba4f3_56 : decode cJ6_getChars_ba4f3 56 = .ok (.aload_n 2, 1) := by decide +kernel
theorem dJ6_getChars_ba4f3_57 : decode cJ6_getChars_ba4f3 57 = .ok (.iinc 5 (-1), 3) := by decide +kernel
theorem dJ6_getChars_ba4f3_60 : decode cJ6_getChars_ba4f3 60 = .ok (.iload 5, 2) := by decide +kernel
theorem dJ6_getChars_ba4f3_62 : decode cJ6_getChars_ba4f3 62 = .ok (.getstatic 87, 3) := by decide +kernel
theorem dJ6_getChars_ba4f3_65 : decode cJ6_getChars_ba4f3 65 = .ok (.iload 4, 2) := by decide +kernel
theorem dJ6_getChars_ba4f3_67 : decode cJ6_getChars_ba4f3 67 = .ok (.baload, 1) := by decide +kernel
theorem dJ6_getChars_ba4f3_68 : decode cJ6_getChars_ba4f3 68 = .ok (.bastore, 1) := by decide +kernel
theorem dJ6_getChars_ba4f3_69 : decode cJ6_getChars_ba4f3 69 = .ok (.goto (-47), 3) := by decide +kernel
theorem dJ6_getChars_ba4f3_72 : decode cJ6_getChars_ba4f3 72 = .ok (.aload_n 2, 1) := by decide +kernel
theorem dJ6_getChars_ba4f3_73 : decode cJ6_getChars_ba4f3 73 = .ok (.iinc 5 (-1), 3) := by decide +kernel
theorem dJ6_getChars_ba4f3_76 : decode cJ6_getChars_ba4f3 76 = .ok (.iload 5, 2) := by decide +kernel
theorem dJ6_getChars_ba4f3_78 : decode cJ6_getChars_ba4f3 78 = .ok (.getstatic 83, 3) := by decide +kernel
theorem dJ6_getChars_ba4f3_81 : decode cJ6_getChars_ba4f3 81 = .ok (.iload_n 0, 1) := by decide +kernel
theorem dJ6_getChars_ba4f3_82 : decode cJ6_getChars_ba4f3 82 = .ok (.ineg, 1) := by decide +kernel
theorem dJ6_getChars_ba4f3_83 : decode cJ6_getChars_ba4f3 83 = .ok (.baload, 1) := by decide +kernel
theorem dJ6_getChars_ba4f3_84 : decode cJ6_getChars_ba4f3 84 = .ok (.bastore, 1) := by decide +kernel
theorem dJ6_getChars_ba4f3_85 : decode cJ6_getChars_ba4f3 85 = .ok (.iload_n 0, 1) := by decide +kernel
theorem dJ6_getChars_ba4f3_86 : decode cJ6_getChars_ba4f3 86 = .ok (.bipush (-9), 2) := by decide +kernel
theorem dJ6_getChars_ba4f3_88 : decode cJ6_getChars_ba4f3 88 = .ok (.if_icmp .ge 16, 3) := by decide +kernel
theorem dJ6_getChars_ba4f3_91 : decode cJ6_getChars_ba4f3 91 = .ok (.aload_n 2, 1) := by decide +kernel
theorem dJ6_getChars_ba4f3_92 : decode cJ6_getChars_ba4f3 92 = .ok (.iinc 5 (-1), 3) := by decide +kernel
theorem dJ6_getChars_ba4f3_95 : decode cJ6_getChars_ba4f3 95 = .ok (.iload 5, 2) := by decide +kernel
theorem dJ6_getChars_ba4f3_97 : decode cJ6_getChars_ba4f3 97 = .ok (.getstatic 87, 3) := by decide +kernel
theorem dJ6_getChars_ba4f3_100 : decode cJ6_getChars_ba4f3 100 = .ok (.iload_n 0, 1) := by decide +kernel
theorem dJ6_getChars_ba4f3_101 : decode cJ6_getChars_ba4f3 101 = .ok (.ineg, 1) := by decide +kernel
theorem dJ6_getChars_ba4f3_102 : decode cJ6_getChars_ba4f3 102 = .ok (.baload, 1) := by decide +kernel
theorem dJ6_getChars_ba4f3_103 : decode cJ6_getChars_ba4f3 103 = .ok (.bastore, 1) := by decide +kernel
theorem dJ6_getChars_ba4f3_104 : decode cJ6_getChars_ba4f3 104 = .ok (.iload 6, 2) := by decide +kernel
theorem dJ6_getChars_ba4f3_106 : decode cJ6_getChars_ba4f3 106 = .ok (.ifCond .eq 12, 3) := by decide +kernel
theorem dJ6_getChars_ba4f3_109 : decode cJ6_getChars_ba4f3 109 = .ok (.aload_n 2, 1) := by decide +kernel
theorem dJ6_getChars_ba4f3_110 : decode cJ6_getChars_ba4f3 110 = .ok (.iinc 5 (-1), 3) := by decide +kernel
theorem dJ6_getChars_ba4f3_113 : decode cJ6_getChars_ba4f3 113 = .ok (.iload 5, 2) := by decide +kernel
theorem dJ6_getChars_ba4f3_115 : decode cJ6_getChars_ba4f3 115 = .ok (.bipush 45, 2) := by decide +kernel
theorem dJ6_getChars_ba4f3_117 : decode cJ6_getChars_ba4f3 117 = .ok (.bastore, 1) := by decide +kernel
theorem dJ6_getChars_ba4f3_118 : decode cJ6_getChars_ba4f3 118 = .ok (.iload 5, 2) := by decide +kernel
theorem dJ6_getChars_ba4f3_120 : decode cJ6_getChars_ba4f3 120 = .ok (.ireturn, 1) := by decide +kernel
theorem dJ6_stringSize_0f7a4_0 : decode cJ6_stringSize_0f7a4 0 = .ok (.iconst 1, 1) := by decide +kernel
theorem dJ6_stringSize_0f7a4_1 : decode cJ6_stringSize_0f7a4 1 = .ok (.istore_n 1, 1) := by decide +kernel
theorem dJ6_stringSize_0f7a4_2 : decode cJ6_stringSize_0f7a4 2 = .ok (.iload_n 0, 1) := by decide +kernel
theorem dJ6_stringSize_0f7a4_3 : decode cJ6_stringSize_0f7a4 3 = .ok (.ifCond .lt 8, 3) := by decide +kernel
theorem dJ6_stringSize_0f7a4_6 : decode cJ6_stringSize_0f7a4 6 = .ok (.iconst 0, 1) := by decide +kernel
theorem dJ6_stringSize_0f7a4_7 : decode cJ6_stringSize_0f7a4 7 = .ok (.istore_n 1, 1) := by decide +kernel
theorem dJ6_stringSize_0f7a4_8 : decode cJ6_stringSize_0f7a4 8 = .ok (.iload_n 0, 1) := by decide +kernel
theorem dJ6_stringSize_0f7a4_9 : decode cJ6_stringSize_0f7a4 9 = .ok (.ineg, 1) := by decide +kernel
theorem dJ6_stringSize_0f7a4_10 : decode cJ6_stringSize_0f7a4 10 = .ok (.istore_n 0, 1) := by decide +kernel
theorem dJ6_stringSize_0f7a4_11 : decode cJ6_stringSize_0f7a4 11 = .ok (.bipush (-10), 2) := by decide +kernel
theorem dJ6_stringSize_0f7a4_13 : decode cJ6_stringSize_0f7a4 13 = .ok (.istore_n 2, 1) := by decide +kernel
theorem dJ6_stringSize_0f7a4_14 : decode cJ6_stringSize_0f7a4 14 = .ok (.iconst 1, 1) := by decide +kernel
theorem dJ6_stringSize_0f7a4_15 : decode cJ6_stringSize_0f7a4 15 = .ok (.istore_n 3, 1) := by decide +kernel
theorem dJ6_stringSize_0f7a4_16 : decode cJ6_stringSize_0f7a4 16 = .ok (.iload_n 3, 1) := by decide +kernel
theorem dJ6_stringSize_0f7a4_17 : decode cJ6_stringSize_0f7a4 17 = .ok (.bipush 10, 2) := by decide +kernel
theorem dJ6_stringSize_0f7a4_19 : decode cJ6_stringSize_0f7a4 19 = .ok (.if_icmp .ge 23, 3) := by decide +kernel
theorem dJ6_stringSize_0f7a4_22 : decode cJ6_stringSize_0f7a4 22 = .ok (.iload_n 0, 1) := by decide +kernel
theorem dJ6_stringSize_0f7a4_23 : decode cJ6_stringSize_0f7a4 23 = .ok (.iload_n 2, 1) := by decide +kernel
theorem dJ6_stringSize_0f7a4_24 : decode cJ6_stringSize_0f7a4 24 = .ok (.if_icmp .le 7, 3) := by decide +kernel
theorem dJ6_stringSize_0f7a4_27 : decode cJ6_stringSize_0f7a4 27 = .ok (.iload_n 3, 1) := by decide +kernel
theorem dJ6_stringSize_0f7a4_28 : decode cJ6_stringSize_0f7a4 28 = .ok (.iload_n 1, 1) := by decide +kernel
theorem dJ6_stringSize_0f7a4_29 : decode cJ6_stringSize_0f7a4 29 = .ok (.iadd, 1) := by decide +kernel
theorem dJ6_stringSize_0f7a4_30 : decode cJ6_stringSize_0f7a4 30 = .ok (.ireturn, 1) := by decide +kernel
theorem dJ6_stringSize_0f7a4_31 : decode cJ6_stringSize_0f7a4 31 = .ok (.bipush 10, 2) := by decide +kernel
theorem dJ6_stringSize_0f7a4_33 : decode cJ6_stringSize_0f7a4 33 = .ok (.iload_n 2, 1) := by decide +kernel
theorem dJ6_stringSize_0f7a4_34 : decode cJ6_stringSize_0f7a4 34 = .ok (.imul, 1) := by decide +kernel
theorem dJ6_stringSize_0f7a4_35 : decode cJ6_stringSize_0f7a4 35 = .ok (.istore_n 2, 1) := by decide +kernel
theorem dJ6_stringSize_0f7a4_36 : decode cJ6_stringSize_0f7a4 36 = .ok (.iinc 3 1, 3) := by decide +kernel
theorem dJ6_stringSize_0f7a4_39 : decode cJ6_stringSize_0f7a4 39 = .ok (.goto (-23), 3) := by decide +kernel
theorem dJ6_stringSize_0f7a4_42 : decode cJ6_stringSize_0f7a4 42 = .ok (.bipush 10, 2) := by decide +kernel
theorem dJ6_stringSize_0f7a4_44 : decode cJ6_stringSize_0f7a4 44 = .ok (.iload_n 1, 1) := by decide +kernel
theorem dJ6_stringSize_0f7a4_45 : decode cJ6_stringSize_0f7a4 45 = .ok (.iadd, 1) := by decide +kernel
theorem dJ6_stringSize_0f7a4_46 : decode cJ6_stringSize_0f7a4 46 = .ok (.ireturn, 1) := by decide +kernel
theorem dJ6_valueOf_2dffe_0 : decode cJ6_valueOf_2dffe 0 = .ok (.iload_n 0, 1) := by decide +kernel
theorem dJ6_valueOf_2dffe_1 : decode cJ6_valueOf_2dffe 1 = .ok (.bipush (-128), 2) := by decide +kernel
theorem dJ6_valueOf_2dffe_3 : decode cJ6_valueOf_2dffe 3 = .ok (.if_icmp .lt 20, 3) := by decide +kernel
theorem dJ6_valueOf_2dffe_6 : decode cJ6_valueOf_2dffe 6 = .ok (.iload_n 0, 1) := by decide +kernel
theorem dJ6_valueOf_2dffe_7 : decode cJ6_valueOf_2dffe 7 = .ok (.getstatic 191, 3) := by decide +kernel
theorem dJ6_valueOf_2dffe_10 : decode cJ6_valueOf_2dffe 10 = .ok (.if_icmp .gt 13, 3) := by decide +kernel
theorem dJ6_valueOf_2dffe_13 : decode cJ6_valueOf_2dffe 13 = .ok (.getstatic 195, 3) := by decide +kernel
theorem dJ6_valueOf_2dffe_16 : decode cJ6_valueOf_2dffe 16 = .ok (.iload_n 0, 1) := by decide +kernel
theorem dJ6_valueOf_2dffe_17 : decode cJ6_valueOf_2dffe 17 = .ok (.sipush 128, 3) := by decide +kernel
theorem dJ6_valueOf_2dffe_20 : decode cJ6_valueOf_2dffe 20 = .ok (.iadd, 1) := by decide +kernel
theorem dJ6_valueOf_2dffe_21 : decode cJ6_valueOf_2dffe 21 = .ok (.aaload, 1) := by decide +kernel
theorem dJ6_valueOf_2dffe_22 : decode cJ6_valueOf_2dffe 22 = .ok (.areturn, 1) := by decide +kernel
theorem dJ6_valueOf_2dffe_23 : decode cJ6_valueOf_2dffe 23 = .ok (.new 1, 3) := by decide +kernel
theorem dJ6_valueOf_2dffe_26 : decode cJ6_valueOf_2dffe 26 = .ok (.dup, 1) := by decide +kernel
theorem dJ6_valueOf_2dffe_27 : decode cJ6_valueOf_2dffe 27 = .ok (.iload_n 0, 1) := by decide +kernel
theorem dJ6_valueOf_2dffe_28 : decode cJ6_valueOf_2dffe 28 = .ok (.invokespecial 199, 3) := by decide +kernel
theorem dJ6_valueOf_2dffe_31 : decode cJ6_valueOf_2dffe 31 = .ok (.areturn, 1) := by decide +kernel
theorem dJ6_init_d00df_0 : decode cJ6_init_d00df 0 = .ok (.aload_n 0, 1) := by decide +kernel
theorem dJ6_init_d00df_1 : decode cJ6_init_d00df 1 = .ok (.invokespecial 202, 3) := by decide +kernel
theorem dJ6_init_d00df_4 : decode cJ6_init_d00df 4 = .ok (.aload_n 0, 1) := by decide +kernel
theorem dJ6_init_d00df_5 : decode cJ6_init_d00df 5 = .ok (.iload_n 1, 1) := by decide +kernel
theorem dJ6_init_d00df_6 : decode cJ6_init_d00df 6 = .ok (.putfield 205, 3) := by decide +kernel
theorem dJ6_init_d00df_9 : decode cJ6_init_d00df 9 = .ok (.return_, 1) := by decide +kernel
theorem dJ6_intValue_8abf5_0 : decode cJ6_intValue_8abf5 0 = .ok (.aload_n 0, 1) := by decide +kernel
theorem dJ6_intValue_8abf5_1 : decode cJ6_intValue_8abf5 1 = .ok (.getfield 205, 3) := by decide +kernel
theorem dJ6_intValue_8abf5_4 : decode cJ6_intValue_8abf5 4 = .ok (.ireturn, 1) := by decide +kernel
theorem dJxd2413_init_da8c8_0 : decode cJxd2413_init_da8c8 0 = .ok (.aload_n 0, 1) := by decide +kernel
theorem dJxd2413_init_da8c8_1 : decode cJxd2413_init_da8c8 1 = .ok (.invokespecial 1, 3) := by decide +kernel
theorem dJxd2413_init_da8c8_4 : decode cJxd2413_init_da8c8 4 = .ok (.return_, 1) := by decide +kernel
theorem dJ0_init_81219_0 : decode cJ0_init_81219 0 = .ok (.aload_n 0, 1) := by decide +kernel
theorem dJ0_init_81219_1 : decode cJ0_init_81219 1 = .ok (.aload_n 1, 1) := by decide +kernel
theorem dJ0_init_81219_2 : decode cJ0_init_81219 2 = .ok (.aconst_null, 1) := by decide +kernel
theorem dJ0_init_81219_3 : decode cJ0_init_81219 3 = .ok (.invokespecial 489, 3) := by decide +kernel
theorem dJ0_init_81219_6 : decode cJ0_init_81219 6 = .ok (.return_, 1) := by decide +kernel
theorem dJ0_length_8abf5_0 : decode cJ0_length_8abf5 0 = .ok (.aload_n 0, 1) := by decide +kernel
theorem dJ0_length_8abf5_1 : decode cJ0_length_8abf5 1 = .ok (.getfield 9, 3) := by decide +kernel
theorem dJ0_length_8abf5_4 : decode cJ0_length_8abf5 4 = .ok (.arraylength, 1) := by decide +kernel
theorem dJ0_length_8abf5_5 : decode cJ0_length_8abf5 5 = .ok (.aload_n 0, 1) := by decide +kernel
theorem dJ0_length_8abf5_6 : decode cJ0_length_8abf5 6 = .ok (.invokevirtual 335, 3) := by decide +kernel
theorem dJ0_length_8abf5_9 : decode cJ0_length_8abf5 9 = .ok (.ishr, 1) := by decide +kernel
theorem dJ0_length_8abf5_10 : decode cJ0_length_8abf5 10 = .ok (.ireturn, 1) := by decide +kernel
theorem dJ0_getBytes_840e7_0 : decode cJ0_getBytes_840e7 0 = .ok (.aload_n 0, 1) := by decide +kernel
theorem dJ0_getBytes_840e7_1 : decode cJ0_getBytes_840e7 1 = .ok (.invokevirtual 335, 3) := by decide +kernel
theorem dJ0_getBytes_840e7_4 : decode cJ0_getBytes_840e7 4 = .ok (.iload_n 3, 1) := by decide +kernel
theorem dJ0_getBytes_840e7_5 : decode cJ0_getBytes_840e7 5 = .ok (.if_icmp .ne 23, 3) := by decide +kernel
theorem dJ0_getBytes_840e7_8 : decode cJ0_getBytes_840e7 8 = .ok (.aload_n 0, 1) := by decide +kernel
theorem dJ0_getBytes_840e7_9 : decode cJ0_getBytes_840e7 9 = .ok (.getfield 9, 3) := by decide +kernel
theorem dJ0_getBytes_840e7_12 : decode cJ0_getBytes_840e7 12 = .ok (.iconst 0, 1) := by decide +kernel
theorem dJ0_getBytes_840e7_13 : decode cJ0_getBytes_840e7 13 = .ok (.aload_n 1, 1) := by decide +kernel
theorem dJ0_getBytes_840e7_14 : decode cJ0_getBytes_840e7 14 = .ok (.iload_n 2, 1) := by decide +kernel
theorem dJ0_getBytes_840e7_15 : decode cJ0_getBytes_840e7 15 = .ok (.iload_n 3, 1) := by decide +kernel
theorem dJ0_getBytes_840e7_16 : decode cJ0_getBytes_840e7 16 = .ok (.ishl, 1) := by decide +kernel
theorem dJ0_getBytes_840e7_17 : decode cJ0_getBytes_840e7 17 = .ok (.aload_n 0, 1) := by decide +kernel
theorem dJ0_getBytes_840e7_18 : decode cJ0_getBytes_840e7 18 = .ok (.getfield 9, 3) := by decide +kernel
theorem dJ0_getBytes_840e7_21 : decode cJ0_getBytes_840e7 21 = .ok (.arraylength, 1) := by decide +kernel
theorem dJ0_getBytes_840e7_22 : decode cJ0_getBytes_840e7 22 = .ok (.invokestatic 212, 3) := by decide +kernel
theorem dJ0_getBytes_840e7_25 : decode cJ0_getBytes_840e7 25 = .ok (.goto 18, 3) := by decide +kernel
theorem dJ0_getBytes_840e7_43 : decode cJ0_getBytes_840e7 43 = .ok (.return_, 1) := by decide +kernel
theorem dJ0_init_db425_0 : decode cJ0_init_db425 0 = .ok (.aload_n 0, 1) := by decide +kernel
theorem dJ0_init_db425_1 : decode cJ0_init_db425 1 = .ok (.invokespecial 1, 3) := by decide +kernel
theorem dJ0_init_db425_4 : decode cJ0_init_db425 4 = .ok (.aload_n 1, 1) := by decide +kernel
theorem dJ0_init_db425_5 : decode cJ0_init_db425 5 = .ok (.invokevirtual 552, 3) := by decide +kernel
theorem dJ0_init_db425_8 : decode cJ0_init_db425 8 = .ok (.astore_n 3, 1) := by decide +kernel
theorem dJ0_init_db425_9 : decode cJ0_init_db425 9 = .ok (.aload_n 1, 1) := by decide +kernel
theorem dJ0_init_db425_10 : decode cJ0_init_db425 10 = .ok (.invokevirtual 549, 3) := by decide +kernel
theorem dJ0_init_db425_13 : decode cJ0_init_db425 13 = .ok (.istore 4, 2) := by decide +kernel
theorem dJ0_init_db425_15 : decode cJ0_init_db425 15 = .ok (.aload_n 1, 1) := by decide +kernel
theorem dJ0_init_db425_16 : decode cJ0_init_db425 16 = .ok (.invokevirtual 1047, 3) := by decide +kernel
theorem dJ0_init_db425_19 : decode cJ0_init_db425 19 = .ok (.ifCond .eq 22, 3) := by decide +kernel
theorem dJ0_init_db425_22 : decode cJ0_init_db425 22 = .ok (.aload_n 0, 1) := by decide +kernel
theorem dJ0_init_db425_23 : decode cJ0_init_db425 23 = .ok (.iconst 0, 1) := by decide +kernel
theorem dJ0_init_db425_24 : decode cJ0_init_db425 24 = .ok (.putfield 15, 3) := by decide +kernel
theorem dJ0_init_db425_27 : decode cJ0_init_db425 27 = .ok (.aload_n 0, 1) := by decide +kernel
theorem dJ0_init_db425_28 : decode cJ0_init_db425 28 = .ok (.aload_n 3, 1) := by decide +kernel
theorem dJ0_init_db425_29 : decode cJ0_init_db425 29 = .ok (.iconst 0, 1) := by decide +kernel
theorem dJ0_init_db425_30 : decode cJ0_init_db425 30 = .ok (.iload 4, 2) := by decide +kernel
theorem dJ0_init_db425_32 : decode cJ0_init_db425 32 = .ok (.invokestatic 54, 3) := by decide +kernel
theorem dJ0_init_db425_35 : decode cJ0_init_db425 35 = .ok (.putfield 9, 3) := by decide +kernel
theorem dJ0_init_db425_38 : decode cJ0_init_db425 38 = .ok (.goto 59, 3) := by decide +kernel
theorem dJ0_init_db425_97 : decode cJ0_init_db425 97 = .ok (.return_, 1) := by decide +kernel
theorem dJ0_coder_7d493_0 : decode cJ0_coder_7d493 0 = .ok (.getstatic 38, 3) := by decide +kernel
theorem dJ0_coder_7d493_3 : decode cJ0_coder_7d493 3 = .ok (.ifCond .eq 10, 3) := by decide +kernel
theorem dJ0_coder_7d493_6 : decode cJ0_coder_7d493 6 = .ok (.aload_n 0, 1) := by decide +kernel
theorem dJ0_coder_7d493_7 : decode cJ0_coder_7d493 7 = .ok (.getfield 15, 3) := by decide +kernel
theorem dJ0_coder_7d493_10 : decode cJ0_coder_7d493 10 = .ok (.goto 4, 3) := by decide +kernel
theorem dJ0_coder_7d493_14 : decode cJ0_coder_7d493 14 = .ok (.ireturn, 1) := by decide +kernel
theorem dJ4_init_da8c8_0 : decode cJ4_init_da8c8 0 = .ok (.aload_n 0, 1) := by decide +kernel
theorem dJ4_init_da8c8_1 : decode cJ4_init_da8c8 1 = .ok (.bipush 16, 2) := by decide +kernel
theorem dJ4_init_da8c8_3 : decode cJ4_init_da8c8 3 = .ok (.invokespecial 1, 3) := by decide +kernel
theorem dJ4_init_da8c8_6 : decode cJ4_init_da8c8 6 = .ok (.return_, 1) := by decide +kernel
theorem dJ4_append_15ec4_0 : decode cJ4_append_15ec4 0 = .ok (.aload_n 0, 1) := by decide +kernel
theorem dJ4_append_15ec4_1 : decode cJ4_append_15ec4 1 = .ok (.aload_n 1, 1) := by decide +kernel
theorem dJ4_append_15ec4_2 : decode cJ4_append_15ec4 2 = .ok (.invokespecial 29, 3) := by decide +kernel
theorem dJ4_append_15ec4_5 : decode cJ4_append_15ec4 5 = .ok (.pop, 1) := by decide +kernel
theorem dJ4_append_15ec4_6 : decode cJ4_append_15ec4 6 = .ok (.aload_n 0, 1) := by decide +kernel
theorem dJ4_append_15ec4_7 : decode cJ4_append_15ec4 7 = .ok (.areturn, 1) := by decide +kernel
theorem dJ4_append_cf468_0 : decode cJ4_append_cf468 0 = .ok (.aload_n 0, 1) := by decide +kernel
theorem dJ4_append_cf468_1 : decode cJ4_append_cf468 1 = .ok (.iload_n 1, 1) := by decide +kernel
theorem dJ4_append_cf468_2 : decode cJ4_append_cf468 2 = .ok (.invokespecial 50, 3) := by decide +kernel
theorem dJ4_append_cf468_5 : decode cJ4_append_cf468 5 = .ok (.pop, 1) := by decide +kernel
theorem dJ4_append_cf468_6 : decode cJ4_append_cf468 6 = .ok (.aload_n 0, 1) := by decide +kernel
theorem dJ4_append_cf468_7 : decode cJ4_append_cf468 7 = .ok (.areturn, 1) := by decide +kernel
theorem dJ4_append_bf812_0 : decode cJ4_append_bf812 0 = .ok (.aload_n 0, 1) := by decide +kernel
theorem dJ4_append_bf812_1 : decode cJ4_append_bf812 1 = .ok (.iload_n 1, 1) := by decide +kernel
theorem dJ4_append_bf812_2 : decode cJ4_append_bf812 2 = .ok (.invokespecial 53, 3) := by decide +kernel
theorem dJ4_append_bf812_5 : decode cJ4_append_bf812 5 = .ok (.pop, 1) := by decide +kernel
theorem dJ4_append_bf812_6 : decode cJ4_append_bf812 6 = .ok (.aload_n 0, 1) := by decide +kernel
theorem dJ4_append_bf812_7 : decode cJ4_append_bf812 7 = .ok (.areturn, 1) := by decide +kernel
theorem dJ4_toString_0e30d_0 : decode cJ4_toString_0e30d 0 = .ok (.new 18, 3) := by decide +kernel
theorem dJ4_toString_0e30d_3 : decode cJ4_toString_0e30d 3 = .ok (.dup, 1) := by decide +kernel
theorem dJ4_toString_0e30d_4 : decode cJ4_toString_0e30d 4 = .ok (.aload_n 0, 1) := by decide +kernel
theorem dJ4_toString_0e30d_5 : decode cJ4_toString_0e30d 5 = .ok (.invokespecial 137, 3) := by decide +kernel
theorem dJ4_toString_0e30d_8 : decode cJ4_toString_0e30d 8 = .ok (.areturn, 1) := by decide +kernel
theorem dJ4_length_8abf5_0 : decode cJ4_length_8abf5 0 = .ok (.aload_n 0, 1) := by decide +kernel
theorem dJ4_length_8abf5_1 : decode cJ4_length_8abf5 1 = .ok (.invokespecial 343, 3) := by decide +kernel
theorem dJ4_length_8abf5_4 : decode cJ4_length_8abf5 4 = .ok (.ireturn, 1) := by decide +kernel
theorem dJ1_canEncode_fc78d_0 : decode cJ1_canEncode_fc78d 0 = .ok (.iload_n 0, 1) := by decide +kernel
theorem dJ1_canEncode_fc78d_1 : decode cJ1_canEncode_fc78d 1 = .ok (.sipush 255, 3) := by decide +kernel
theorem dJ1_canEncode_fc78d_4 : decode cJ1_canEncode_fc78d 4 = .ok (.if_icmp .gt 7, 3) := by decide +kernel
theorem dJ1_canEncode_fc78d_7 : decode cJ1_canEncode_fc78d 7 = .ok (.iconst 1, 1) := by decide +kernel
theorem dJ1_canEncode_fc78d_8 : decode cJ1_canEncode_fc78d 8 = .ok (.goto 4, 3) := by decide +kernel
theorem dJ1_canEncode_fc78d_12 : decode cJ1_canEncode_fc78d 12 = .ok (.ireturn, 1) := by decide +kernel
theorem dJxa1e45_init_da8c8_0 : decode cJxa1e45_init_da8c8 0 = .ok (.aload_n 0, 1) := by decide +kernel
theorem dJxa1e45_init_da8c8_1 : decode cJxa1e45_init_da8c8 1 = .ok (.invokespecial 1, 3) := by decide +kernel
theorem dJxa1e45_init_da8c8_4 : decode cJxa1e45_init_da8c8 4 = .ok (.return_, 1) := by decide +kernel
theorem dJxc12de_init_da8c8_0 : decode cJxc12de_init_da8c8 0 = .ok (.aload_n 0, 1) := by decide +kernel
theorem dJxc12de_init_da8c8_1 : decode cJxc12de_init_da8c8 1 = .ok (.invokespecial 1, 3) := by decide +kernel
theorem dJxc12de_init_da8c8_4 : decode cJxc12de_init_da8c8 4 = .ok (.aload_n 0, 1) := by decide +kernel
theorem dJxc12de_init_da8c8_5 : decode cJxc12de_init_da8c8 5 = .ok (.iconst 0, 1) := by decide +kernel
theorem dJxc12de_init_da8c8_6 : decode cJxc12de_init_da8c8 6 = .ok (.putfield 7, 3) := by decide +kernel
theorem dJxc12de_init_da8c8_9 : decode cJxc12de_init_da8c8 9 = .ok (.return_, 1) := by decide +kernel
theorem dJx35411_init_45d68_0 : decode cJx35411_init_45d68 0 = .ok (.aload_n 0, 1) := by decide +kernel
theorem dJx35411_init_45d68_1 : decode cJx35411_init_45d68 1 = .ok (.aload_n 1, 1) := by decide +kernel
theorem dJx35411_init_45d68_2 : decode cJx35411_init_45d68 2 = .ok (.putfield 1, 3) := by decide +kernel
theorem dJx35411_init_45d68_5 : decode cJx35411_init_45d68 5 = .ok (.aload_n 0, 1) := by decide +kernel
theorem dJx35411_init_45d68_6 : decode cJx35411_init_45d68 6 = .ok (.invokespecial 7, 3) := by decide +kernel
theorem dJx35411_init_45d68_9 : decode cJx35411_init_45d68 9 = .ok (.aload_n 0, 1) := by decide +kernel
theorem dJx35411_init_45d68_10 : decode cJx35411_init_45d68 10 = .ok (.iconst (-1), 1) := by decide +kernel
theorem dJx35411_init_45d68_11 : decode cJx35411_init_45d68 11 = .ok (.putfield 13, 3) := by decide +kernel
theorem dJx35411_init_45d68_14 : decode cJx35411_init_45d68 14 = .ok (.aload_n 0, 1) := by decide +kernel
theorem dJx35411_init_45d68_15 : decode cJx35411_init_45d68 15 = .ok (.aload_n 0, 1) := by decide +kernel
theorem dJx35411_init_45d68_16 : decode cJx35411_init_45d68 16 = .ok (.getfield 1, 3) := by decide +kernel
theorem dJx35411_init_45d68_19 : decode cJx35411_init_45d68 19 = .ok (.getfield 17, 3) := by decide +kernel
theorem dJx35411_init_45d68_22 : decode cJx35411_init_45d68 22 = .ok (.putfield 22, 3) := by decide +kernel
theorem dJx35411_init_45d68_25 : decode cJx35411_init_45d68 25 = .ok (.return_, 1) := by decide +kernel
theorem dJx35411_hasNext_aae02_0 : decode cJx35411_hasNext_aae02 0 = .ok (.aload_n 0, 1) := by decide +kernel
theorem dJx35411_hasNext_aae02_1 : decode cJx35411_hasNext_aae02 1 = .ok (.getfield 25, 3) := by decide +kernel
theorem dJx35411_hasNext_aae02_4 : decode cJx35411_hasNext_aae02 4 = .ok (.aload_n 0, 1) := by decide +kernel
theorem dJx35411_hasNext_aae02_5 : decode cJx35411_hasNext_aae02 5 = .ok (.getfield 1, 3) := by decide +kernel
theorem dJx35411_hasNext_aae02_8 : decode cJx35411_hasNext_aae02 8 = .ok (.getfield 28, 3) := by decide +kernel
theorem dJx35411_hasNext_aae02_11 : decode cJx35411_hasNext_aae02 11 = .ok (.if_icmp .eq 7, 3) := by decide +kernel
theorem dJx35411_hasNext_aae02_14 : decode cJx35411_hasNext_aae02 14 = .ok (.iconst 1, 1) := by decide +kernel
theorem dJx35411_hasNext_aae02_15 : decode cJx35411_hasNext_aae02 15 = .ok (.goto 4, 3) := by decide +kernel
theorem dJx35411_hasNext_aae02_18 : decode cJx35411_hasNext_aae02 18 = .ok (.iconst 0, 1) := by decide +kernel
theorem dJx35411_hasNext_aae02_19 : decode cJx35411_hasNext_aae02 19 = .ok (.ireturn, 1) := by decide +kernel
theorem dJx35411_next_0502b_0 : decode cJx35411_next_0502b 0 = .ok (.aload_n 0, 1) := by decide +kernel
theorem dJx35411_next_0502b_1 : decode cJx35411_next_0502b 1 = .ok (.invokevirtual 31, 3) := by decide +kernel
theorem dJx35411_next_0502b_4 : decode cJx35411_next_0502b 4 = .ok (.aload_n 0, 1) := by decide +kernel
theorem dJx35411_next_0502b_5 : decode cJx35411_next_0502b 5 = .ok (.getfield 25, 3) := by decide +kernel
theorem dJx35411_next_0502b_8 : decode cJx35411_next_0502b 8 = .ok (.istore_n 1, 1) := by decide +kernel
theorem dJx35411_next_0502b_9 : decode cJx35411_next_0502b 9 = .ok (.iload_n 1, 1) := by decide +kernel
theorem dJx35411_next_0502b_10 : decode cJx35411_next_0502b 10 = .ok (.aload_n 0, 1) := by decide +kernel
theorem dJx35411_next_0502b_11 : decode cJx35411_next_0502b 11 = .ok (.getfield 1, 3) := by decide +kernel
theorem dJx35411_next_0502b_14 : decode cJx35411_next_0502b 14 = .ok (.getfield 28, 3) := by decide +kernel
theorem dJx35411_next_0502b_17 : decode cJx35411_next_0502b 17 = .ok (.if_icmp .lt 11, 3) := by decide +kernel
theorem dJx35411_next_0502b_28 : decode cJx35411_next_0502b 28 = .ok (.aload_n 0, 1) := by decide +kernel
theorem dJx35411_next_0502b_29 : decode cJx35411_next_0502b 29 = .ok (.getfield 1, 3) := by decide +kernel
theorem dJx35411_next_0502b_32 : decode cJx35411_next_0502b 32 = .ok (.getfield 37, 3) := by decide +kernel
theorem dJx35411_next_0502b_35 : decode cJx35411_next_0502b 35 = .ok (.astore_n 2, 1) := by decide +kernel
theorem dJx35411_next_0502b_36 : decode cJx35411_next_0502b 36 = .ok (.iload_n 1, 1) := by decide +kernel
theorem dJx35411_next_0502b_37 : decode cJx35411_next_0502b 37 = .ok (.aload_n 2, 1) := by decide +kernel
theorem dJx35411_next_0502b_38 : decode cJx35411_next_0502b 38 = .ok (.arraylength, 1) := by decide +kernel
theorem dJx35411_next_0502b_39 : decode cJx35411_next_0502b 39 = .ok (.if_icmp .lt 11, 3) := by decide +kernel
theorem dJx35411_next_0502b_50 : decode cJx35411_next_0502b 50 = .ok (.aload_n 0, 1) := by decide +kernel
theorem dJx35411_next_0502b_51 : decode cJx35411_next_0502b 51 = .ok (.iload_n 1, 1) := by decide +kernel
theorem dJx35411_next_0502b_52 : decode cJx35411_next_0502b 52 = .ok (.iconst 1, 1) := by decide +kernel
theorem dJx35411_next_0502b_53 : decode cJx35411_next_0502b 53 = .ok (.iadd, 1) := by decide +kernel
theorem dJx35411_next_0502b_54 : decode cJx35411_next_0502b 54 = .ok (.putfield 25, 3) := by decide +kernel
theorem dJx35411_next_0502b_57 : decode cJx35411_next_0502b 57 = .ok (.aload_n 2, 1) := by decide +kernel
theorem dJx35411_next_0502b_58 : decode cJx35411_next_0502b 58 = .ok (.aload_n 0, 1) := by decide +kernel
theorem dJx35411_next_0502b_59 : decode cJx35411_next_0502b 59 = .ok (.iload_n 1, 1) := by decide +kernel
theorem dJx35411_next_0502b_60 : decode cJx35411_next_0502b 60 = .ok (.dup_x1, 1) := by decide +kernel
theorem dJx35411_next_0502b_61 : decode cJx35411_next_0502b 61 = .ok (.putfield 13, 3) := by decide +kernel
theorem dJx35411_next_0502b_64 : decode cJx35411_next_0502b 64 = .ok (.aaload, 1) := by decide +kernel
theorem dJx35411_next_0502b_65 : decode cJx35411_next_0502b 65 = .ok (.areturn, 1) := by decide +kernel
theorem dJx35411_checkForComodification_da8c8_0 : decode cJx35411_checkForComodification_da8c8 0 = .ok (.aload_n 0, 1) := by decide +kernel
theorem dJx35411_checkForComodification_da8c8_1 : decode cJx35411_checkForComodification_da8c8 1 = .ok (.getfield 1, 3) := by decide +kernel
theorem dJx35411_checkForComodification_da8c8_4 : decode cJx35411_checkForComodification_da8c8 4 = .ok (.getfield 17, 3) := by decide +kernel
theorem dJx35411_checkForComodification_da8c8_7 : decode cJx35411_checkForComodification_da8c8 7 = .ok (.aload_n 0, 1) := by decide +kernel
theorem dJx35411_checkForComodification_da8c8_8 : decode cJx35411_checkForComodification_da8c8 8 = .ok (.getfield 22, 3) := by decide +kernel
theorem dJx35411_checkForComodification_da8c8_11 : decode cJx35411_checkForComodification_da8c8 11 = .ok (.if_icmp .eq 11, 3) := by decide +kernel
theorem dJx35411_checkForComodification_da8c8_22 : decode cJx35411_checkForComodification_da8c8 22 = .ok (.return_, 1) := by decide +kernel
theorem dJx4a65c_init_da8c8_0 : decode cJx4a65c_init_da8c8 0 = .ok (.aload_n 0, 1) := by decide +kernel
theorem dJx4a65c_init_da8c8_1 : decode cJx4a65c_init_da8c8 1 = .ok (.invokespecial 1, 3) := by decide +kernel
theorem dJx4a65c_init_da8c8_4 : decode cJx4a65c_init_da8c8 4 = .ok (.aload_n 0, 1) := by decide +kernel
theorem dJx4a65c_init_da8c8_5 : decode cJx4a65c_init_da8c8 5 = .ok (.getstatic 39, 3) := by decide +kernel
theorem dJx4a65c_init_da8c8_8 : decode cJx4a65c_init_da8c8 8 = .ok (.putfield 9, 3) := by decide +kernel
theorem dJx4a65c_init_da8c8_11 : decode cJx4a65c_init_da8c8 11 = .ok (.return_, 1) := by decide +kernel
theorem dJx4a65c_init_4bcb3_0 : decode cJx4a65c_init_4bcb3 0 = .ok (.aload_n 0, 1) := by decide +kernel
theorem dJx4a65c_init_4bcb3_1 : decode cJx4a65c_init_4bcb3 1 = .ok (.invokespecial 1, 3) := by decide +kernel
theorem dJx4a65c_init_4bcb3_4 : decode cJx4a65c_init_4bcb3 4 = .ok (.aload_n 1, 1) := by decide +kernel
theorem dJx4a65c_init_4bcb3_5 : decode cJx4a65c_init_4bcb3 5 = .ok (.invokeinterface 42 1, 5) := by decide +kernel
theorem dJx4a65c_init_4bcb3_10 : decode cJx4a65c_init_4bcb3 10 = .ok (.astore_n 2, 1) := by decide +kernel
theorem dJx4a65c_init_4bcb3_11 : decode cJx4a65c_init_4bcb3 11 = .ok (.aload_n 0, 1) := by decide +kernel
theorem dJx4a65c_init_4bcb3_12 : decode cJx4a65c_init_4bcb3 12 = .ok (.aload_n 2, 1) := by decide +kernel
theorem dJx4a65c_init_4bcb3_13 : decode cJx4a65c_init_4bcb3 13 = .ok (.arraylength, 1) := by decide +kernel
theorem dJx4a65c_init_4bcb3_14 : decode cJx4a65c_init_4bcb3 14 = .ok (.dup_x1, 1) := by decide +kernel
theorem dJx4a65c_init_4bcb3_15 : decode cJx4a65c_init_4bcb3 15 = .ok (.putfield 48, 3) := by decide +kernel
theorem dJx4a65c_init_4bcb3_18 : decode cJx4a65c_init_4bcb3 18 = .ok (.ifCond .eq 39, 3) := by decide +kernel
theorem dJx4a65c_init_4bcb3_21 : decode cJx4a65c_init_4bcb3 21 = .ok (.aload_n 1, 1) := by decide +kernel
theorem dJx4a65c_init_4bcb3_22 : decode cJx4a65c_init_4bcb3 22 = .ok (.invokeinterface 52 1, 5) := by decide +kernel
theorem dJx4a65c_init_4bcb3_27 : decode cJx4a65c_init_4bcb3 27 = .ok (.ldc 10, 2) := by decide +kernel
theorem dJx4a65c_init_4bcb3_29 : decode cJx4a65c_init_4bcb3 29 = .ok (.if_acmp .ne 11, 3) := by decide +kernel
theorem dJx4a65c_init_4bcb3_32 : decode cJx4a65c_init_4bcb3 32 = .ok (.aload_n 0, 1) := by decide +kernel
theorem dJx4a65c_init_4bcb3_33 : decode cJx4a65c_init_4bcb3 33 = .ok (.aload_n 2, 1) := by decide +kernel
theorem dJx4a65c_init_4bcb3_34 : decode cJx4a65c_init_4bcb3 34 = .ok (.putfield 9, 3) := by decide +kernel
theorem dJx4a65c_init_4bcb3_37 : decode cJx4a65c_init_4bcb3 37 = .ok (.goto 27, 3) := by decide +kernel
theorem dJx4a65c_init_4bcb3_57 : decode cJx4a65c_init_4bcb3 57 = .ok (.aload_n 0, 1) := by decide +kernel
theorem dJx4a65c_init_4bcb3_58 : decode cJx4a65c_init_4bcb3 58 = .ok (.getstatic 15, 3) := by decide +kernel
theorem dJx4a65c_init_4bcb3_61 : decode cJx4a65c_init_4bcb3 61 = .ok (.putfield 9, 3) := by decide +kernel
theorem dJx4a65c_init_4bcb3_64 : decode cJx4a65c_init_4bcb3 64 = .ok (.return_, 1) := by decide +kernel
theorem dJx4a65c_grow_92f84_0 : decode cJx4a65c_grow_92f84 0 = .ok (.aload_n 0, 1) := by decide +kernel
theorem dJx4a65c_grow_92f84_1 : decode cJx4a65c_grow_92f84 1 = .ok (.getfield 9, 3) := by decide +kernel
theorem dJx4a65c_grow_92f84_4 : decode cJx4a65c_grow_92f84 4 = .ok (.arraylength, 1) := by decide +kernel
theorem dJx4a65c_grow_92f84_5 : decode cJx4a65c_grow_92f84 5 = .ok (.istore_n 2, 1) := by decide +kernel
theorem dJx4a65c_grow_92f84_6 : decode cJx4a65c_grow_92f84 6 = .ok (.iload_n 2, 1) := by decide +kernel
theorem dJx4a65c_grow_92f84_7 : decode cJx4a65c_grow_92f84 7 = .ok (.ifCond .gt 13, 3) := by decide +kernel
theorem dJx4a65c_grow_92f84_10 : decode cJx4a65c_grow_92f84 10 = .ok (.aload_n 0, 1) := by decide +kernel
theorem dJx4a65c_grow_92f84_11 : decode cJx4a65c_grow_92f84 11 = .ok (.getfield 9, 3) := by decide +kernel
theorem dJx4a65c_grow_92f84_14 : decode cJx4a65c_grow_92f84 14 = .ok (.getstatic 39, 3) := by decide +kernel
theorem dJx4a65c_grow_92f84_17 : decode cJx4a65c_grow_92f84 17 = .ok (.if_acmp .eq 28, 3) := by decide +kernel
theorem dJx4a65c_grow_92f84_20 : decode cJx4a65c_grow_92f84 20 = .ok (.iload_n 2, 1) := by decide +kernel
theorem dJx4a65c_grow_92f84_21 : decode cJx4a65c_grow_92f84 21 = .ok (.iload_n 1, 1) := by decide +kernel
theorem dJx4a65c_grow_92f84_22 : decode cJx4a65c_grow_92f84 22 = .ok (.iload_n 2, 1) := by decide +kernel
theorem dJx4a65c_grow_92f84_23 : decode cJx4a65c_grow_92f84 23 = .ok (.isub, 1) := by decide +kernel
theorem dJx4a65c_grow_92f84_24 : decode cJx4a65c_grow_92f84 24 = .ok (.iload_n 2, 1) := by decide +kernel
theorem dJx4a65c_grow_92f84_25 : decode cJx4a65c_grow_92f84 25 = .ok (.iconst 1, 1) := by decide +kernel
theorem dJx4a65c_grow_92f84_26 : decode cJx4a65c_grow_92f84 26 = .ok (.ishr, 1) := by decide +kernel
theorem dJx4a65c_grow_92f84_27 : decode cJx4a65c_grow_92f84 27 = .ok (.invokestatic 73, 3) := by decide +kernel
theorem dJx4a65c_grow_92f84_30 : decode cJx4a65c_grow_92f84 30 = .ok (.istore_n 3, 1) := by decide +kernel
theorem dJx4a65c_grow_92f84_31 : decode cJx4a65c_grow_92f84 31 = .ok (.aload_n 0, 1) := by decide +kernel
theorem dJx4a65c_grow_92f84_32 : decode cJx4a65c_grow_92f84 32 = .ok (.aload_n 0, 1) := by decide +kernel
theorem dJx4a65c_grow_92f84_33 : decode cJx4a65c_grow_92f84 33 = .ok (.getfield 9, 3) := by decide +kernel
theorem dJx4a65c_grow_92f84_36 : decode cJx4a65c_grow_92f84 36 = .ok (.iload_n 3, 1) := by decide +kernel
theorem dJx4a65c_grow_92f84_37 : decode cJx4a65c_grow_92f84 37 = .ok (.invokestatic 66, 3) := by decide +kernel
theorem dJx4a65c_grow_92f84_40 : decode cJx4a65c_grow_92f84 40 = .ok (.dup_x1, 1) := by decide +kernel
theorem dJx4a65c_grow_92f84_41 : decode cJx4a65c_grow_92f84 41 = .ok (.putfield 9, 3) := by decide +kernel
theorem dJx4a65c_grow_92f84_44 : decode cJx4a65c_grow_92f84 44 = .ok (.areturn, 1) := by decide +kernel
theorem dJx4a65c_grow_92f84_45 : decode cJx4a65c_grow_92f84 45 = .ok (.aload_n 0, 1) := by decide +kernel
theorem dJx4a65c_grow_92f84_46 : decode cJx4a65c_grow_92f84 46 = .ok (.bipush 10, 2) := by decide +kernel
theorem dJx4a65c_grow_92f84_48 : decode cJx4a65c_grow_92f84 48 = .ok (.iload_n 1, 1) := by decide +kernel
theorem dJx4a65c_grow_92f84_49 : decode cJx4a65c_grow_92f84 49 = .ok (.invokestatic 79, 3) := by decide +kernel
theorem dJx4a65c_grow_92f84_52 : decode cJx4a65c_grow_92f84 52 = .ok (.anewarray 7, 3) := by decide +kernel
theorem dJx4a65c_grow_92f84_55 : decode cJx4a65c_grow_92f84 55 = .ok (.dup_x1, 1) := by decide +kernel
theorem dJx4a65c_grow_92f84_56 : decode cJx4a65c_grow_92f84 56 = .ok (.putfield 9, 3) := by decide +kernel
theorem dJx4a65c_grow_92f84_59 : decode cJx4a65c_grow_92f84 59 = .ok (.areturn, 1) := by decide +kernel
theorem dJx4a65c_grow_d5877_0 : decode cJx4a65c_grow_d5877 0 = .ok (.aload_n 0, 1) := by decide +kernel
theorem dJx4a65c_grow_d5877_1 : decode cJx4a65c_grow_d5877 1 = .ok (.aload_n 0, 1) := by decide +kernel
theorem dJx4a65c_grow_d5877_2 : decode cJx4a65c_grow_d5877 2 = .ok (.getfield 48, 3) := by decide +kernel
theorem dJx4a65c_grow_d5877_5 : decode cJx4a65c_grow_d5877 5 = .ok (.iconst 1, 1) := by decide +kernel
theorem dJx4a65c_grow_d5877_6 : decode cJx4a65c_grow_d5877 6 = .ok (.iadd, 1) := by decide +kernel
theorem dJx4a65c_grow_d5877_7 : decode cJx4a65c_grow_d5877 7 = .ok (.invokevirtual 69, 3) := by decide +kernel
theorem dJx4a65c_grow_d5877_10 : decode cJx4a65c_grow_d5877 10 = .ok (.areturn, 1) := by decide +kernel
theorem dJx4a65c_size_8abf5_0 : decode cJx4a65c_size_8abf5 0 = .ok (.aload_n 0, 1) := by decide +kernel
theorem dJx4a65c_size_8abf5_1 : decode cJx4a65c_size_8abf5 1 = .ok (.getfield 48, 3) := by decide +kernel
theorem dJx4a65c_size_8abf5_4 : decode cJx4a65c_size_8abf5 4 = .ok (.ireturn, 1) := by decide +kernel
theorem dJx4a65c_toArray_d5877_0 : decode cJx4a65c_toArray_d5877 0 = .ok (.aload_n 0, 1) := by decide +kernel
theorem dJx4a65c_toArray_d5877_1 : decode cJx4a65c_toArray_d5877 1 = .ok (.getfield 9, 3) := by decide +kernel
theorem dJx4a65c_toArray_d5877_4 : decode cJx4a65c_toArray_d5877 4 = .ok (.aload_n 0, 1) := by decide +kernel
theorem dJx4a65c_toArray_d5877_5 : decode cJx4a65c_toArray_d5877 5 = .ok (.getfield 48, 3) := by decide +kernel
theorem dJx4a65c_toArray_d5877_8 : decode cJx4a65c_toArray_d5877 8 = .ok (.invokestatic 66, 3) := by decide +kernel
theorem dJx4a65c_toArray_d5877_11 : decode cJx4a65c_toArray_d5877 11 = .ok (.areturn, 1) := by decide +kernel
theorem dJx4a65c_elementData_915e3_0 : decode cJx4a65c_elementData_915e3 0 = .ok (.aload_n 0, 1) := by decide +kernel
theorem dJx4a65c_elementData_915e3_1 : decode cJx4a65c_elementData_915e3 1 = .ok (.getfield 9, 3) := by decide +kernel
theorem dJx4a65c_elementData_915e3_4 : decode cJx4a65c_elementData_915e3 4 = .ok (.iload_n 1, 1) := by decide +kernel
theorem dJx4a65c_elementData_915e3_5 : decode cJx4a65c_elementData_915e3 5 = .ok (.aaload, 1) := by decide +kernel
theorem dJx4a65c_elementData_915e3_6 : decode cJx4a65c_elementData_915e3 6 = .ok (.areturn, 1) := by decide +kernel
theorem dJx4a65c_get_915e3_0 : decode cJx4a65c_get_915e3 0 = .ok (.iload_n 1, 1) := by decide +kernel
theorem dJx4a65c_get_915e3_1 : decode cJx4a65c_get_915e3 1 = .ok (.aload_n 0, 1) := by decide +kernel
theorem dJx4a65c_get_915e3_2 : decode cJx4a65c_get_915e3 2 = .ok (.getfield 48, 3) := by decide +kernel
theorem dJx4a65c_get_915e3_5 : decode cJx4a65c_get_915e3 5 = .ok (.invokestatic 118, 3) := by decide +kernel
theorem dJx4a65c_get_915e3_8 : decode cJx4a65c_get_915e3 8 = .ok (.pop, 1) := by decide +kernel
theorem dJx4a65c_get_915e3_9 : decode cJx4a65c_get_915e3 9 = .ok (.aload_n 0, 1) := by decide +kernel
theorem dJx4a65c_get_915e3_10 : decode cJx4a65c_get_915e3 10 = .ok (.iload_n 1, 1) := by decide +kernel
theorem dJx4a65c_get_915e3_11 : decode cJx4a65c_get_915e3 11 = .ok (.invokevirtual 123, 3) := by decide +kernel
theorem dJx4a65c_get_915e3_14 : decode cJx4a65c_get_915e3 14 = .ok (.areturn, 1) := by decide +kernel
theorem dJx4a65c_set_bcc79_0 : decode cJx4a65c_set_bcc79 0 = .ok (.iload_n 1, 1) := by decide +kernel
theorem dJx4a65c_set_bcc79_1 : decode cJx4a65c_set_bcc79 1 = .ok (.aload_n 0, 1) := by decide +kernel
theorem dJx4a65c_set_bcc79_2 : decode cJx4a65c_set_bcc79 2 = .ok (.getfield 48, 3) := by decide +kernel
theorem dJx4a65c_set_bcc79_5 : decode cJx4a65c_set_bcc79 5 = .ok (.invokestatic 118, 3) := by decide +kernel
theorem dJx4a65c_set_bcc79_8 : decode cJx4a65c_set_bcc79 8 = .ok (.pop, 1) := by decide +kernel
theorem dJx4a65c_set_bcc79_9 : decode cJx4a65c_set_bcc79 9 = .ok (.aload_n 0, 1) := by decide +kernel
theorem dJx4a65c_set_bcc79_10 : decode cJx4a65c_set_bcc79 10 = .ok (.iload_n 1, 1) := by decide +kernel
theorem dJx4a65c_set_bcc79_11 : decode cJx4a65c_set_bcc79 11 = .ok (.invokevirtual 123, 3) := by decide +kernel
theorem dJx4a65c_set_bcc79_14 : decode cJx4a65c_set_bcc79 14 = .ok (.astore_n 3, 1) := by decide +kernel
theorem dJx4a65c_set_bcc79_15 : decode cJx4a65c_set_bcc79 15 = .ok (.aload_n 0, 1) := by decide +kernel
theorem dJx4a65c_set_bcc79_16 : decode cJx4a65c_set_bcc79 16 = .ok (.getfield 9, 3) := by decide +kernel
theorem dJx4a65c_set_bcc79_19 : decode cJx4a65c_set_bcc79 19 = .ok (.iload_n 1, 1) := by decide +kernel
theorem dJx4a65c_set_bcc79_20 : decode cJx4a65c_set_bcc79 20 = .ok (.aload_n 2, 1) := by decide +kernel
theorem dJx4a65c_set_bcc79_21 : decode cJx4a65c_set_bcc79 21 = .ok (.aastore, 1) := by decide +kernel
theorem dJx4a65c_set_bcc79_22 : decode cJx4a65c_set_bcc79 22 = .ok (.aload_n 3, 1) := by decide +kernel
theorem dJx4a65c_set_bcc79_23 : decode cJx4a65c_set_bcc79 23 = .ok (.areturn, 1) := by decide +kernel
theorem dJx4a65c_add_72be8_0 : decode cJx4a65c_add_72be8 0 = .ok (.iload_n 3, 1) := by decide +kernel
theorem dJx4a65c_add_72be8_1 : decode cJx4a65c_add_72be8 1 = .ok (.aload_n 2, 1) := by decide +kernel
theorem dJx4a65c_add_72be8_2 : decode cJx4a65c_add_72be8 2 = .ok (.arraylength, 1) := by decide +kernel
theorem dJx4a65c_add_72be8_3 : decode cJx4a65c_add_72be8 3 = .ok (.if_icmp .ne 8, 3) := by decide +kernel
theorem dJx4a65c_add_72be8_6 : decode cJx4a65c_add_72be8 6 = .ok (.aload_n 0, 1) := by decide +kernel
theorem dJx4a65c_add_72be8_7 : decode cJx4a65c_add_72be8 7 = .ok (.invokevirtual 129, 3) := by decide +kernel
theorem dJx4a65c_add_72be8_10 : decode cJx4a65c_add_72be8 10 = .ok (.astore_n 2, 1) := by decide +kernel
theorem dJx4a65c_add_72be8_11 : decode cJx4a65c_add_72be8 11 = .ok (.aload_n 2, 1) := by decide +kernel
theorem dJx4a65c_add_72be8_12 : decode cJx4a65c_add_72be8 12 = .ok (.iload_n 3, 1) := by decide +kernel
theorem dJx4a65c_add_72be8_13 : decode cJx4a65c_add_72be8 13 = .ok (.aload_n 1, 1) := by decide +kernel
theorem dJx4a65c_add_72be8_14 : decode cJx4a65c_add_72be8 14 = .ok (.aastore, 1) := by decide +kernel
theorem dJx4a65c_add_72be8_15 : decode cJx4a65c_add_72be8 15 = .ok (.aload_n 0, 1) := by decide +kernel
theorem dJx4a65c_add_72be8_16 : decode cJx4a65c_add_72be8 16 = .ok (.iload_n 3, 1) := by decide +kernel
theorem dJx4a65c_add_72be8_17 : decode cJx4a65c_add_72be8 17 = .ok (.iconst 1, 1) := by decide +kernel
theorem dJx4a65c_add_72be8_18 : decode cJx4a65c_add_72be8 18 = .ok (.iadd, 1) := by decide +kernel
theorem dJx4a65c_add_72be8_19 : decode cJx4a65c_add_72be8 19 = .ok (.putfield 48, 3) := by decide +kernel
theorem dJx4a65c_add_72be8_22 : decode cJx4a65c_add_72be8 22 = .ok (.return_, 1) := by decide +kernel
theorem dJx4a65c_add_9ea2d_0 : decode cJx4a65c_add_9ea2d 0 = .ok (.aload_n 0, 1) := by decide +kernel
theorem dJx4a65c_add_9ea2d_1 : decode cJx4a65c_add_9ea2d 1 = .ok (.dup, 1) := by decide +kernel
theorem dJx4a65c_add_9ea2d_2 : decode cJx4a65c_add_9ea2d 2 = .ok (.getfield 63, 3) := by decide +kernel
theorem dJx4a65c_add_9ea2d_5 : decode cJx4a65c_add_9ea2d 5 = .ok (.iconst 1, 1) := by decide +kernel
theorem dJx4a65c_add_9ea2d_6 : decode cJx4a65c_add_9ea2d 6 = .ok (.iadd, 1) := by decide +kernel
theorem dJx4a65c_add_9ea2d_7 : decode cJx4a65c_add_9ea2d 7 = .ok (.putfield 63, 3) := by decide +kernel
theorem dJx4a65c_add_9ea2d_10 : decode cJx4a65c_add_9ea2d 10 = .ok (.aload_n 0, 1) := by decide +kernel
theorem dJx4a65c_add_9ea2d_11 : decode cJx4a65c_add_9ea2d 11 = .ok (.aload_n 1, 1) := by decide +kernel
theorem dJx4a65c_add_9ea2d_12 : decode cJx4a65c_add_9ea2d 12 = .ok (.aload_n 0, 1) := by decide +kernel
theorem dJx4a65c_add_9ea2d_13 : decode cJx4a65c_add_9ea2d 13 = .ok (.getfield 9, 3) := by decide +kernel
theorem dJx4a65c_add_9ea2d_16 : decode cJx4a65c_add_9ea2d 16 = .ok (.aload_n 0, 1) := by decide +kernel
theorem dJx4a65c_add_9ea2d_17 : decode cJx4a65c_add_9ea2d 17 = .ok (.getfield 48, 3) := by decide +kernel
theorem dJx4a65c_add_9ea2d_20 : decode cJx4a65c_add_9ea2d 20 = .ok (.invokevirtual 131, 3) := by decide +kernel
theorem dJx4a65c_add_9ea2d_23 : decode cJx4a65c_add_9ea2d 23 = .ok (.iconst 1, 1) := by decide +kernel
theorem dJx4a65c_add_9ea2d_24 : decode cJx4a65c_add_9ea2d 24 = .ok (.ireturn, 1) := by decide +kernel
theorem dJx4a65c_add_7a177_0 : decode cJx4a65c_add_7a177 0 = .ok (.aload_n 0, 1) := by decide +kernel
theorem dJx4a65c_add_7a177_1 : decode cJx4a65c_add_7a177 1 = .ok (.iload_n 1, 1) := by decide +kernel
theorem dJx4a65c_add_7a177_2 : decode cJx4a65c_add_7a177 2 = .ok (.invokevirtual 135, 3) := by decide +kernel
theorem dJx4a65c_add_7a177_5 : decode cJx4a65c_add_7a177 5 = .ok (.aload_n 0, 1) := by decide +kernel
theorem dJx4a65c_add_7a177_6 : decode cJx4a65c_add_7a177 6 = .ok (.dup, 1) := by decide +kernel
theorem dJx4a65c_add_7a177_7 : decode cJx4a65c_add_7a177 7 = .ok (.getfield 63, 3) := by decide +kernel
theorem dJx4a65c_add_7a177_10 : decode cJx4a65c_add_7a177 10 = .ok (.iconst 1, 1) := by decide +kernel
theorem dJx4a65c_add_7a177_11 : decode cJx4a65c_add_7a177 11 = .ok (.iadd, 1) := by decide +kernel
theorem dJx4a65c_add_7a177_12 : decode cJx4a65c_add_7a177 12 = .ok (.putfield 63, 3) := by decide +kernel
theorem dJx4a65c_add_7a177_15 : decode cJx4a65c_add_7a177 15 = .ok (.aload_n 0, 1) := by decide +kernel
theorem dJx4a65c_add_7a177_16 : decode cJx4a65c_add_7a177 16 = .ok (.getfield 48, 3) := by decide +kernel
theorem dJx4a65c_add_7a177_19 : decode cJx4a65c_add_7a177 19 = .ok (.dup, 1) := by decide +kernel
theorem dJx4a65c_add_7a177_20 : decode cJx4a65c_add_7a177 20 = .ok (.istore_n 3, 1) := by decide +kernel
theorem dJx4a65c_add_7a177_21 : decode cJx4a65c_add_7a177 21 = .ok (.aload_n 0, 1) := by decide +kernel
theorem dJx4a65c_add_7a177_22 : decode cJx4a65c_add_7a177 22 = .ok (.getfield 9, 3) := by decide +kernel
theorem dJx4a65c_add_7a177_25 : decode cJx4a65c_add_7a177 25 = .ok (.dup, 1) := by decide +kernel
theorem dJx4a65c_add_7a177_26 : decode cJx4a65c_add_7a177 26 = .ok (.astore 4, 2) := by decide +kernel
theorem dJx4a65c_add_7a177_28 : decode cJx4a65c_add_7a177 28 = .ok (.arraylength, 1) := by decide +kernel
theorem dJx4a65c_add_7a177_29 : decode cJx4a65c_add_7a177 29 = .ok (.if_icmp .ne 9, 3) := by decide +kernel
theorem dJx4a65c_add_7a177_32 : decode cJx4a65c_add_7a177 32 = .ok (.aload_n 0, 1) := by decide +kernel
theorem dJx4a65c_add_7a177_33 : decode cJx4a65c_add_7a177 33 = .ok (.invokevirtual 129, 3) := by decide +kernel
theorem dJx4a65c_add_7a177_36 : decode cJx4a65c_add_7a177 36 = .ok (.astore 4, 2) := by decide +kernel
theorem dJx4a65c_add_7a177_38 : decode cJx4a65c_add_7a177 38 = .ok (.aload 4, 2) := by decide +kernel
theorem dJx4a65c_add_7a177_40 : decode cJx4a65c_add_7a177 40 = .ok (.iload_n 1, 1) := by decide +kernel
theorem dJx4a65c_add_7a177_41 : decode cJx4a65c_add_7a177 41 = .ok (.aload 4, 2) := by decide +kernel
theorem dJx4a65c_add_7a177_43 : decode cJx4a65c_add_7a177 43 = .ok (.iload_n 1, 1) := by decide +kernel
theorem dJx4a65c_add_7a177_44 : decode cJx4a65c_add_7a177 44 = .ok (.iconst 1, 1) := by decide +kernel
theorem dJx4a65c_add_7a177_45 : decode cJx4a65c_add_7a177 45 = .ok (.iadd, 1) := by decide +kernel
theorem dJx4a65c_add_7a177_46 : decode cJx4a65c_add_7a177 46 = .ok (.iload_n 3, 1) := by decide +kernel
theorem dJx4a65c_add_7a177_47 : decode cJx4a65c_add_7a177 47 = .ok (.iload_n 1, 1) := by decide +kernel
theorem dJx4a65c_add_7a177_48 : decode cJx4a65c_add_7a177 48 = .ok (.isub, 1) := by decide +kernel
theorem dJx4a65c_add_7a177_49 : decode cJx4a65c_add_7a177 49 = .ok (.invokestatic 112, 3) := by decide +kernel
theorem dJx4a65c_add_7a177_52 : decode cJx4a65c_add_7a177 52 = .ok (.aload 4, 2) := by decide +kernel
theorem dJx4a65c_add_7a177_54 : decode cJx4a65c_add_7a177 54 = .ok (.iload_n 1, 1) := by decide +kernel
theorem dJx4a65c_add_7a177_55 : decode cJx4a65c_add_7a177 55 = .ok (.aload_n 2, 1) := by decide +kernel
theorem dJx4a65c_add_7a177_56 : decode cJx4a65c_add_7a177 56 = .ok (.aastore, 1) := by decide +kernel
theorem dJx4a65c_add_7a177_57 : decode cJx4a65c_add_7a177 57 = .ok (.aload_n 0, 1) := by decide +kernel
theorem dJx4a65c_add_7a177_58 : decode cJx4a65c_add_7a177 58 = .ok (.iload_n 3, 1) := by decide +kernel
theorem dJx4a65c_add_7a177_59 : decode cJx4a65c_add_7a177 59 = .ok (.iconst 1, 1) := by decide +kernel
theorem dJx4a65c_add_7a177_60 : decode cJx4a65c_add_7a177 60 = .ok (.iadd, 1) := by decide +kernel
theorem dJx4a65c_add_7a177_61 : decode cJx4a65c_add_7a177 61 = .ok (.putfield 48, 3) := by decide +kernel
theorem dJx4a65c_add_7a177_64 : decode cJx4a65c_add_7a177 64 = .ok (.return_, 1) := by decide +kernel
theorem dJx4a65c_remove_915e3_0 : decode cJx4a65c_remove_915e3 0 = .ok (.iload_n 1, 1) := by decide +kernel
theorem dJx4a65c_remove_915e3_1 : decode cJx4a65c_remove_915e3 1 = .ok (.aload_n 0, 1) := by decide +kernel
theorem dJx4a65c_remove_915e3_2 : decode cJx4a65c_remove_915e3 2 = .ok (.getfield 48, 3) := by decide +kernel
theorem dJx4a65c_remove_915e3_5 : decode cJx4a65c_remove_915e3 5 = .ok (.invokestatic 118, 3) := by decide +kernel
theorem dJx4a65c_remove_915e3_8 : decode cJx4a65c_remove_915e3 8 = .ok (.pop, 1) := by decide +kernel
theorem dJx4a65c_remove_915e3_9 : decode cJx4a65c_remove_915e3 9 = .ok (.aload_n 0, 1) := by decide +kernel
theorem dJx4a65c_remove_915e3_10 : decode cJx4a65c_remove_915e3 10 = .ok (.getfield 9, 3) := by decide +kernel
theorem dJx4a65c_remove_915e3_13 : decode cJx4a65c_remove_915e3 13 = .ok (.astore_n 2, 1) := by decide +kernel
theorem dJx4a65c_remove_915e3_14 : decode cJx4a65c_remove_915e3 14 = .ok (.aload_n 2, 1) := by decide +kernel
theorem dJx4a65c_remove_915e3_15 : decode cJx4a65c_remove_915e3 15 = .ok (.iload_n 1, 1) := by decide +kernel
theorem dJx4a65c_remove_915e3_16 : decode cJx4a65c_remove_915e3 16 = .ok (.aaload, 1) := by decide +kernel
theorem dJx4a65c_remove_915e3_17 : decode cJx4a65c_remove_915e3 17 = .ok (.astore_n 3, 1) := by decide +kernel
theorem dJx4a65c_remove_915e3_18 : decode cJx4a65c_remove_915e3 18 = .ok (.aload_n 0, 1) := by decide +kernel
theorem dJx4a65c_remove_915e3_19 : decode cJx4a65c_remove_915e3 19 = .ok (.aload_n 2, 1) := by decide +kernel
theorem dJx4a65c_remove_915e3_20 : decode cJx4a65c_remove_915e3 20 = .ok (.iload_n 1, 1) := by decide +kernel
theorem dJx4a65c_remove_915e3_21 : decode cJx4a65c_remove_915e3 21 = .ok (.invokevirtual 144, 3) := by decide +kernel
theorem dJx4a65c_remove_915e3_24 : decode cJx4a65c_remove_915e3 24 = .ok (.aload_n 3, 1) := by decide +kernel
theorem dJx4a65c_remove_915e3_25 : decode cJx4a65c_remove_915e3 25 = .ok (.areturn, 1) := by decide +kernel
theorem dJx4a65c_fastRemove_b59b0_0 : decode cJx4a65c_fastRemove_b59b0 0 = .ok (.aload_n 0, 1) := by decide +kernel
theorem dJx4a65c_fastRemove_b59b0_1 : decode cJx4a65c_fastRemove_b59b0 1 = .ok (.dup, 1) := by decide +kernel
theorem dJx4a65c_fastRemove_b59b0_2 : decode cJx4a65c_fastRemove_b59b0 2 = .ok (.getfield 63, 3) := by decide +kernel
theorem dJx4a65c_fastRemove_b59b0_5 : decode cJx4a65c_fastRemove_b59b0 5 = .ok (.iconst 1, 1) := by decide +kernel
theorem dJx4a65c_fastRemove_b59b0_6 : decode cJx4a65c_fastRemove_b59b0 6 = .ok (.iadd, 1) := by decide +kernel
theorem dJx4a65c_fastRemove_b59b0_7 : decode cJx4a65c_fastRemove_b59b0 7 = .ok (.putfield 63, 3) := by decide +kernel
theorem dJx4a65c_fastRemove_b59b0_10 : decode cJx4a65c_fastRemove_b59b0 10 = .ok (.aload_n 0, 1) := by decide +kernel
theorem dJx4a65c_fastRemove_b59b0_11 : decode cJx4a65c_fastRemove_b59b0 11 = .ok (.getfield 48, 3) := by decide +kernel
theorem dJx4a65c_fastRemove_b59b0_14 : decode cJx4a65c_fastRemove_b59b0 14 = .ok (.iconst 1, 1) := by decide +kernel
theorem dJx4a65c_fastRemove_b59b0_15 : decode cJx4a65c_fastRemove_b59b0 15 = .ok (.isub, 1) := by decide +kernel
theorem dJx4a65c_fastRemove_b59b0_16 : decode cJx4a65c_fastRemove_b59b0 16 = .ok (.dup, 1) := by decide +kernel
theorem dJx4a65c_fastRemove_b59b0_17 : decode cJx4a65c_fastRemove_b59b0 17 = .ok (.istore_n 3, 1) := by decide +kernel
theorem dJx4a65c_fastRemove_b59b0_18 : decode cJx4a65c_fastRemove_b59b0 18 = .ok (.iload_n 2, 1) := by decide +kernel
theorem dJx4a65c_fastRemove_b59b0_19 : decode cJx4a65c_fastRemove_b59b0 19 = .ok (.if_icmp .le 15, 3) := by decide +kernel
theorem dJx4a65c_fastRemove_b59b0_22 : decode cJx4a65c_fastRemove_b59b0 22 = .ok (.aload_n 1, 1) := by decide +kernel
theorem dJx4a65c_fastRemove_b59b0_23 : decode cJx4a65c_fastRemove_b59b0 23 = .ok (.iload_n 2, 1) := by decide +kernel
theorem dJx4a65c_fastRemove_b59b0_24 : decode cJx4a65c_fastRemove_b59b0 24 = .ok (.iconst 1, 1) := by decide +kernel
theorem dJx4a65c_fastRemove_b59b0_25 : decode cJx4a65c_fastRemove_b59b0 25 = .ok (.iadd, 1) := by decide +kernel
theorem dJx4a65c_fastRemove_b59b0_26 : decode cJx4a65c_fastRemove_b59b0 26 = .ok (.aload_n 1, 1) := by decide +kernel
theorem dJx4a65c_fastRemove_b59b0_27 : decode cJx4a65c_fastRemove_b59b0 27 = .ok (.iload_n 2, 1) := by decide +kernel
theorem dJx4a65c_fastRemove_b59b0_28 : decode cJx4a65c_fastRemove_b59b0 28 = .ok (.iload_n 3, 1) := by decide +kernel
theorem dJx4a65c_fastRemove_b59b0_29 : decode cJx4a65c_fastRemove_b59b0 29 = .ok (.iload_n 2, 1) := by decide +kernel
theorem dJx4a65c_fastRemove_b59b0_30 : decode cJx4a65c_fastRemove_b59b0 30 = .ok (.isub, 1) := by decide +kernel
theorem dJx4a65c_fastRemove_b59b0_31 : decode cJx4a65c_fastRemove_b59b0 31 = .ok (.invokestatic 112, 3) := by decide +kernel
theorem dJx4a65c_fastRemove_b59b0_34 : decode cJx4a65c_fastRemove_b59b0 34 = .ok (.aload_n 1, 1) := by decide +kernel
theorem dJx4a65c_fastRemove_b59b0_35 : decode cJx4a65c_fastRemove_b59b0 35 = .ok (.aload_n 0, 1) := by decide +kernel
theorem dJx4a65c_fastRemove_b59b0_36 : decode cJx4a65c_fastRemove_b59b0 36 = .ok (.iload_n 3, 1) := by decide +kernel
theorem dJx4a65c_fastRemove_b59b0_37 : decode cJx4a65c_fastRemove_b59b0 37 = .ok (.dup_x1, 1) := by decide +kernel
theorem dJx4a65c_fastRemove_b59b0_38 : decode cJx4a65c_fastRemove_b59b0 38 = .ok (.putfield 48, 3) := by decide +kernel
theorem dJx4a65c_fastRemove_b59b0_41 : decode cJx4a65c_fastRemove_b59b0 41 = .ok (.aconst_null, 1) := by decide +kernel
theorem dJx4a65c_fastRemove_b59b0_42 : decode cJx4a65c_fastRemove_b59b0 42 = .ok (.aastore, 1) := by decide +kernel
theorem dJx4a65c_fastRemove_b59b0_43 : decode cJx4a65c_fastRemove_b59b0 43 = .ok (.return_, 1) := by decide +kernel
theorem dJx4a65c_clear_da8c8_0 : decode cJx4a65c_clear_da8c8 0 = .ok (.aload_n 0, 1) := by decide +kernel
theorem dJx4a65c_clear_da8c8_1 : decode cJx4a65c_clear_da8c8 1 = .ok (.dup, 1) := by decide +kernel
theorem dJx4a65c_clear_da8c8_2 : decode cJx4a65c_clear_da8c8 2 = .ok (.getfield 63, 3) := by decide +kernel
theorem dJx4a65c_clear_da8c8_5 : decode cJx4a65c_clear_da8c8 5 = .ok (.iconst 1, 1) := by decide +kernel
theorem dJx4a65c_clear_da8c8_6 : decode cJx4a65c_clear_da8c8 6 = .ok (.iadd, 1) := by decide +kernel
theorem dJx4a65c_clear_da8c8_7 : decode cJx4a65c_clear_da8c8 7 = .ok (.putfield 63, 3) := by decide +kernel
theorem dJx4a65c_clear_da8c8_10 : decode cJx4a65c_clear_da8c8 10 = .ok (.aload_n 0, 1) := by decide +kernel
theorem dJx4a65c_clear_da8c8_11 : decode cJx4a65c_clear_da8c8 11 = .ok (.getfield 9, 3) := by decide +kernel
theorem dJx4a65c_clear_da8c8_14 : decode cJx4a65c_clear_da8c8 14 = .ok (.astore_n 1, 1) := by decide +kernel
theorem dJx4a65c_clear_da8c8_15 : decode cJx4a65c_clear_da8c8 15 = .ok (.aload_n 0, 1) := by decide +kernel
theorem dJx4a65c_clear_da8c8_16 : decode cJx4a65c_clear_da8c8 16 = .ok (.getfield 48, 3) := by decide +kernel
theorem dJx4a65c_clear_da8c8_19 : decode cJx4a65c_clear_da8c8 19 = .ok (.istore_n 2, 1) := by decide +kernel
theorem dJx4a65c_clear_da8c8_20 : decode cJx4a65c_clear_da8c8 20 = .ok (.aload_n 0, 1) := by decide +kernel
theorem dJx4a65c_clear_da8c8_21 : decode cJx4a65c_clear_da8c8 21 = .ok (.iconst 0, 1) := by decide +kernel
theorem dJx4a65c_clear_da8c8_22 : decode cJx4a65c_clear_da8c8 22 = .ok (.dup_x1, 1) := by decide +kernel
theorem dJx4a65c_clear_da8c8_23 : decode cJx4a65c_clear_da8c8 23 = .ok (.putfield 48, 3) := by decide +kernel
theorem dJx4a65c_clear_da8c8_26 : decode cJx4a65c_clear_da8c8 26 = .ok (.istore_n 3, 1) := by decide +kernel
theorem dJx4a65c_clear_da8c8_27 : decode cJx4a65c_clear_da8c8 27 = .ok (.iload_n 3, 1) := by decide +kernel
theorem dJx4a65c_clear_da8c8_28 : decode cJx4a65c_clear_da8c8 28 = .ok (.iload_n 2, 1) := by decide +kernel
theorem dJx4a65c_clear_da8c8_29 : decode cJx4a65c_clear_da8c8 29 = .ok (.if_icmp .ge 13, 3) := by decide +kernel
theorem dJx4a65c_clear_da8c8_32 : decode cJx4a65c_clear_da8c8 32 = .ok (.aload_n 1, 1) := by decide +kernel
theorem dJx4a65c_clear_da8c8_33 : decode cJx4a65c_clear_da8c8 33 = .ok (.iload_n 3, 1) := by decide +kernel
theorem dJx4a65c_clear_da8c8_34 : decode cJx4a65c_clear_da8c8 34 = .ok (.aconst_null, 1) := by decide +kernel
theorem dJx4a65c_clear_da8c8_35 : decode cJx4a65c_clear_da8c8 35 = .ok (.aastore, 1) := by decide +kernel
theorem dJx4a65c_clear_da8c8_36 : decode cJx4a65c_clear_da8c8 36 = .ok (.iinc 3 1, 3) := by decide +kernel
theorem dJx4a65c_clear_da8c8_39 : decode cJx4a65c_clear_da8c8 39 = .ok (.goto (-12), 3) := by decide +kernel
theorem dJx4a65c_clear_da8c8_42 : decode cJx4a65c_clear_da8c8 42 = .ok (.return_, 1) := by decide +kernel
theorem dJx4a65c_rangeCheckForAdd_d00df_0 : decode cJx4a65c_rangeCheckForAdd_d00df 0 = .ok (.iload_n 1, 1) := by decide +kernel
theorem dJx4a65c_rangeCheckForAdd_d00df_1 : decode cJx4a65c_rangeCheckForAdd_d00df 1 = .ok (.aload_n 0, 1) := by decide +kernel
theorem dJx4a65c_rangeCheckForAdd_d00df_2 : decode cJx4a65c_rangeCheckForAdd_d00df 2 = .ok (.getfield 48, 3) := by decide +kernel
theorem dJx4a65c_rangeCheckForAdd_d00df_5 : decode cJx4a65c_rangeCheckForAdd_d00df 5 = .ok (.if_icmp .gt 7, 3) := by decide +kernel
theorem dJx4a65c_rangeCheckForAdd_d00df_8 : decode cJx4a65c_rangeCheckForAdd_d00df 8 = .ok (.iload_n 1, 1) := by decide +kernel
theorem dJx4a65c_rangeCheckForAdd_d00df_9 : decode cJx4a65c_rangeCheckForAdd_d00df 9 = .ok (.ifCond .ge 16, 3) := by decide +kernel
theorem dJx4a65c_rangeCheckForAdd_d00df_25 : decode cJx4a65c_rangeCheckForAdd_d00df 25 = .ok (.return_, 1) := by decide +kernel
theorem dJx4a65c_iterator_32c93_0 : decode cJx4a65c_iterator_32c93 0 = .ok (.new 267, 3) := by decide +kernel
theorem dJx4a65c_iterator_32c93_3 : decode cJx4a65c_iterator_32c93 3 = .ok (.dup, 1) := by decide +kernel
theorem dJx4a65c_iterator_32c93_4 : decode cJx4a65c_iterator_32c93 4 = .ok (.aload_n 0, 1) := by decide +kernel
theorem dJx4a65c_iterator_32c93_5 : decode cJx4a65c_iterator_32c93 5 = .ok (.invokespecial 269, 3) := by decide +kernel
theorem dJx4a65c_iterator_32c93_8 : decode cJx4a65c_iterator_32c93 8 = .ok (.areturn, 1) := by decide +kernel
theorem dJ7_copyOf_1904c_0 : decode cJ7_copyOf_1904c 0 = .ok (.aload_n 0, 1) := by decide +kernel
theorem dJ7_copyOf_1904c_1 : decode cJ7_copyOf_1904c 1 = .ok (.iload_n 1, 1) := by decide +kernel
theorem dJ7_copyOf_1904c_2 : decode cJ7_copyOf_1904c 2 = .ok (.aload_n 0, 1) := by decide +kernel
theorem dJ7_copyOf_1904c_3 : decode cJ7_copyOf_1904c 3 = .ok (.invokevirtual 86, 3) := by decide +kernel
theorem dJ7_copyOf_1904c_6 : decode cJ7_copyOf_1904c 6 = .ok (.invokestatic 300, 3) := by decide +kernel
theorem dJ7_copyOf_1904c_9 : decode cJ7_copyOf_1904c 9 = .ok (.areturn, 1) := by decide +kernel
theorem dJ7_copyOf_6403c_0 : decode cJ7_copyOf_6403c 0 = .ok (.aload_n 2, 1) := by decide +kernel
theorem dJ7_copyOf_6403c_1 : decode cJ7_copyOf_6403c 1 = .ok (.ldc 110, 2) := by decide +kernel
theorem dJ7_copyOf_6403c_3 : decode cJ7_copyOf_6403c 3 = .ok (.if_acmp .ne 10, 3) := by decide +kernel
theorem dJ7_copyOf_6403c_6 : decode cJ7_copyOf_6403c 6 = .ok (.iload_n 1, 1) := by decide +kernel
theorem dJ7_copyOf_6403c_7 : decode cJ7_copyOf_6403c 7 = .ok (.anewarray 2, 3) := by decide +kernel
theorem dJ7_copyOf_6403c_10 : decode cJ7_copyOf_6403c 10 = .ok (.goto 14, 3) := by decide +kernel
theorem dJ7_copyOf_6403c_24 : decode cJ7_copyOf_6403c 24 = .ok (.astore_n 3, 1) := by decide +kernel
theorem dJ7_copyOf_6403c_25 : decode cJ7_copyOf_6403c 25 = .ok (.aload_n 0, 1) := by decide +kernel
theorem dJ7_copyOf_6403c_26 : decode cJ7_copyOf_6403c 26 = .ok (.iconst 0, 1) := by decide +kernel
theorem dJ7_copyOf_6403c_27 : decode cJ7_copyOf_6403c 27 = .ok (.aload_n 3, 1) := by decide +kernel
theorem dJ7_copyOf_6403c_28 : decode cJ7_copyOf_6403c 28 = .ok (.iconst 0, 1) := by decide +kernel
theorem dJ7_copyOf_6403c_29 : decode cJ7_copyOf_6403c 29 = .ok (.aload_n 0, 1) := by decide +kernel
theorem dJ7_copyOf_6403c_30 : decode cJ7_copyOf_6403c 30 = .ok (.arraylength, 1) := by decide +kernel
theorem dJ7_copyOf_6403c_31 : decode cJ7_copyOf_6403c 31 = .ok (.iload_n 1, 1) := by decide +kernel
theorem dJ7_copyOf_6403c_32 : decode cJ7_copyOf_6403c 32 = .ok (.invokestatic 304, 3) := by decide +kernel
theorem dJ7_copyOf_6403c_35 : decode cJ7_copyOf_6403c 35 = .ok (.invokestatic 150, 3) := by decide +kernel
theorem dJ7_copyOf_6403c_38 : decode cJ7_copyOf_6403c 38 = .ok (.aload_n 3, 1) := by decide +kernel
theorem dJ7_copyOf_6403c_39 : decode cJ7_copyOf_6403c 39 = .ok (.areturn, 1) := by decide +kernel
theorem dJ7_copyOf_9075b_0 : decode cJ7_copyOf_9075b 0 = .ok (.iload_n 1, 1) := by decide +kernel
theorem dJ7_copyOf_9075b_1 : decode cJ7_copyOf_9075b 1 = .ok (.aload_n 0, 1) := by decide +kernel
theorem dJ7_copyOf_9075b_2 : decode cJ7_copyOf_9075b 2 = .ok (.arraylength, 1) := by decide +kernel
theorem dJ7_copyOf_9075b_3 : decode cJ7_copyOf_9075b 3 = .ok (.if_icmp .ne 11, 3) := by decide +kernel
theorem dJ7_copyOf_9075b_14 : decode cJ7_copyOf_9075b 14 = .ok (.iload_n 1, 1) := by decide +kernel
theorem dJ7_copyOf_9075b_15 : decode cJ7_copyOf_9075b 15 = .ok (.newarray .byte, 2) := by decide +kernel
theorem dJ7_copyOf_9075b_17 : decode cJ7_copyOf_9075b 17 = .ok (.astore_n 2, 1) := by decide +kernel
theorem dJ7_copyOf_9075b_18 : decode cJ7_copyOf_9075b 18 = .ok (.aload_n 0, 1) := by decide +kernel
theorem dJ7_copyOf_9075b_19 : decode cJ7_copyOf_9075b 19 = .ok (.iconst 0, 1) := by decide +kernel
theorem dJ7_copyOf_9075b_20 : decode cJ7_copyOf_9075b 20 = .ok (.aload_n 2, 1) := by decide +kernel
theorem dJ7_copyOf_9075b_21 : decode cJ7_copyOf_9075b 21 = .ok (.iconst 0, 1) := by decide +kernel
theorem dJ7_copyOf_9075b_22 : decode cJ7_copyOf_9075b 22 = .ok (.aload_n 0, 1) := by decide +kernel
theorem dJ7_copyOf_9075b_23 : decode cJ7_copyOf_9075b 23 = .ok (.arraylength, 1) := by decide +kernel
theorem dJ7_copyOf_9075b_24 : decode cJ7_copyOf_9075b 24 = .ok (.iload_n 1, 1) := by decide +kernel
theorem dJ7_copyOf_9075b_25 : decode cJ7_copyOf_9075b 25 = .ok (.invokestatic 304, 3) := by decide +kernel
theorem dJ7_copyOf_9075b_28 : decode cJ7_copyOf_9075b 28 = .ok (.invokestatic 150, 3) := by decide +kernel
theorem dJ7_copyOf_9075b_31 : decode cJ7_copyOf_9075b 31 = .ok (.aload_n 2, 1) := by decide +kernel
theorem dJ7_copyOf_9075b_32 : decode cJ7_copyOf_9075b 32 = .ok (.areturn, 1) := by decide +kernel
theorem dJ7_checkLength_df160_0 : decode cJ7_checkLength_df160 0 = .ok (.iload_n 1, 1) := by decide +kernel
theorem dJ7_checkLength_df160_1 : decode cJ7_checkLength_df160 1 = .ok (.iload_n 0, 1) := by decide +kernel
theorem dJ7_checkLength_df160_2 : decode cJ7_checkLength_df160 2 = .ok (.if_icmp .ge 35, 3) := by decide +kernel
theorem dJ7_checkLength_df160_37 : decode cJ7_checkLength_df160 37 = .ok (.return_, 1) := by decide +kernel
theorem dJ7_copyOfRange_39247_0 : decode cJ7_copyOfRange_39247 0 = .ok (.iload_n 1, 1) := by decide +kernel
theorem dJ7_copyOfRange_39247_1 : decode cJ7_copyOfRange_39247 1 = .ok (.ifCond .ne 9, 3) := by decide +kernel
theorem dJ7_copyOfRange_39247_4 : decode cJ7_copyOfRange_39247 4 = .ok (.iload_n 2, 1) := by decide +kernel
theorem dJ7_copyOfRange_39247_5 : decode cJ7_copyOfRange_39247 5 = .ok (.aload_n 0, 1) := by decide +kernel
theorem dJ7_copyOfRange_39247_6 : decode cJ7_copyOfRange_39247 6 = .ok (.arraylength, 1) := by decide +kernel
theorem dJ7_copyOfRange_39247_7 : decode cJ7_copyOfRange_39247 7 = .ok (.if_icmp .eq 10, 3) := by decide +kernel
theorem dJ7_copyOfRange_39247_10 : decode cJ7_copyOfRange_39247 10 = .ok (.aload_n 0, 1) := by decide +kernel
theorem dJ7_copyOfRange_39247_11 : decode cJ7_copyOfRange_39247 11 = .ok (.iload_n 1, 1) := by decide +kernel
theorem dJ7_copyOfRange_39247_12 : decode cJ7_copyOfRange_39247 12 = .ok (.iload_n 2, 1) := by decide +kernel
theorem dJ7_copyOfRange_39247_13 : decode cJ7_copyOfRange_39247 13 = .ok (.invokestatic 339, 3) := by decide +kernel
theorem dJ7_copyOfRange_39247_16 : decode cJ7_copyOfRange_39247 16 = .ok (.areturn, 1) := by decide +kernel
theorem dJ7_copyOfRange_39247_17 : decode cJ7_copyOfRange_39247 17 = .ok (.aload_n 0, 1) := by decide +kernel
theorem dJ7_copyOfRange_39247_18 : decode cJ7_copyOfRange_39247 18 = .ok (.invokevirtual 310, 3) := by decide +kernel
theorem dJ7_copyOfRange_39247_21 : decode cJ7_copyOfRange_39247 21 = .ok (.checkcast 311, 3) := by decide +kernel
theorem dJ7_copyOfRange_39247_24 : decode cJ7_copyOfRange_39247 24 = .ok (.areturn, 1) := by decide +kernel
theorem dJ7_copyOfRangeByte_39247_0 : decode cJ7_copyOfRangeByte_39247 0 = .ok (.iload_n 1, 1) := by decide +kernel
theorem dJ7_copyOfRangeByte_39247_1 : decode cJ7_copyOfRangeByte_39247 1 = .ok (.iload_n 2, 1) := by decide +kernel
theorem dJ7_copyOfRangeByte_39247_2 : decode cJ7_copyOfRangeByte_39247 2 = .ok (.invokestatic 343, 3) := by decide +kernel
theorem dJ7_copyOfRangeByte_39247_5 : decode cJ7_copyOfRangeByte_39247 5 = .ok (.iload_n 2, 1) := by decide +kernel
theorem dJ7_copyOfRangeByte_39247_6 : decode cJ7_copyOfRangeByte_39247 6 = .ok (.iload_n 1, 1) := by decide +kernel
theorem dJ7_copyOfRangeByte_39247_7 : decode cJ7_copyOfRangeByte_39247 7 = .ok (.isub, 1) := by decide +kernel
theorem dJ7_copyOfRangeByte_39247_8 : decode cJ7_copyOfRangeByte_39247 8 = .ok (.istore_n 3, 1) := by decide +kernel
theorem dJ7_copyOfRangeByte_39247_9 : decode cJ7_copyOfRangeByte_39247 9 = .ok (.iload_n 3, 1) := by decide +kernel
theorem dJ7_copyOfRangeByte_39247_10 : decode cJ7_copyOfRangeByte_39247 10 = .ok (.newarray .byte, 2) := by decide +kernel
theorem dJ7_copyOfRangeByte_39247_12 : decode cJ7_copyOfRangeByte_39247 12 = .ok (.astore 4, 2) := by decide +kernel
theorem dJ7_copyOfRangeByte_39247_14 : decode cJ7_copyOfRangeByte_39247 14 = .ok (.aload_n 0, 1) := by decide +kernel
theorem dJ7_copyOfRangeByte_39247_15 : decode cJ7_copyOfRangeByte_39247 15 = .ok (.iload_n 1, 1) := by decide +kernel
theorem dJ7_copyOfRangeByte_39247_16 : decode cJ7_copyOfRangeByte_39247 16 = .ok (.aload 4, 2) := by decide +kernel
theorem dJ7_copyOfRangeByte_39247_18 : decode cJ7_copyOfRangeByte_39247 18 = .ok (.iconst 0, 1) := by decide +kernel
theorem dJ7_copyOfRangeByte_39247_19 : decode cJ7_copyOfRangeByte_39247 19 = .ok (.aload_n 0, 1) := by decide +kernel
theorem dJ7_copyOfRangeByte_39247_20 : decode cJ7_copyOfRangeByte_39247 20 = .ok (.arraylength, 1) := by decide +kernel
theorem dJ7_copyOfRangeByte_39247_21 : decode cJ7_copyOfRangeByte_39247 21 = .ok (.iload_n 1, 1) := by decide +kernel
theorem dJ7_copyOfRangeByte_39247_22 : decode cJ7_copyOfRangeByte_39247 22 = .ok (.isub, 1) := by decide +kernel
theorem dJ7_copyOfRangeByte_39247_23 : decode cJ7_copyOfRangeByte_39247 23 = .ok (.iload_n 3, 1) := by decide +kernel
theorem dJ7_copyOfRangeByte_39247_24 : decode cJ7_copyOfRangeByte_39247 24 = .ok (.invokestatic 304, 3) := by decide +kernel
theorem dJ7_copyOfRangeByte_39247_27 : decode cJ7_copyOfRangeByte_39247 27 = .ok (.invokestatic 150, 3) := by decide +kernel
theorem dJ7_copyOfRangeByte_39247_30 : decode cJ7_copyOfRangeByte_39247 30 = .ok (.aload 4, 2) := by decide +kernel
theorem dJ7_copyOfRangeByte_39247_32 : decode cJ7_copyOfRangeByte_39247 32 = .ok (.areturn, 1) := by decide +kernel
theorem dJ15_checkIndex_7cf53_0 : decode cJ15_checkIndex_7cf53 0 = .ok (.iload_n 0, 1) := by decide +kernel
theorem dJ15_checkIndex_7cf53_1 : decode cJ15_checkIndex_7cf53 1 = .ok (.iload_n 1, 1) := by decide +kernel
theorem dJ15_checkIndex_7cf53_2 : decode cJ15_checkIndex_7cf53 2 = .ok (.aconst_null, 1) := by decide +kernel
theorem dJ15_checkIndex_7cf53_3 : decode cJ15_checkIndex_7cf53 3 = .ok (.invokestatic 105, 3) := by decide +kernel
theorem dJ15_checkIndex_7cf53_6 : decode cJ15_checkIndex_7cf53 6 = .ok (.ireturn, 1) := by decide +kernel
theorem dJ8_newLength_cabcc_0 : decode cJ8_newLength_cabcc 0 = .ok (.iload_n 0, 1) := by decide +kernel
theorem dJ8_newLength_cabcc_1 : decode cJ8_newLength_cabcc 1 = .ok (.iload_n 1, 1) := by decide +kernel
theorem dJ8_newLength_cabcc_2 : decode cJ8_newLength_cabcc 2 = .ok (.iload_n 2, 1) := by decide +kernel
theorem dJ8_newLength_cabcc_3 : decode cJ8_newLength_cabcc 3 = .ok (.invokestatic 194, 3) := by decide +kernel
theorem dJ8_newLength_cabcc_6 : decode cJ8_newLength_cabcc 6 = .ok (.iadd, 1) := by decide +kernel
theorem dJ8_newLength_cabcc_7 : decode cJ8_newLength_cabcc 7 = .ok (.istore_n 3, 1) := by decide +kernel
theorem dJ8_newLength_cabcc_8 : decode cJ8_newLength_cabcc 8 = .ok (.iconst 0, 1) := by decide +kernel
theorem dJ8_newLength_cabcc_9 : decode cJ8_newLength_cabcc 9 = .ok (.iload_n 3, 1) := by decide +kernel
theorem dJ8_newLength_cabcc_10 : decode cJ8_newLength_cabcc 10 = .ok (.if_icmp .ge 11, 3) := by decide +kernel
theorem dJ8_newLength_cabcc_13 : decode cJ8_newLength_cabcc 13 = .ok (.iload_n 3, 1) := by decide +kernel
theorem dJ8_newLength_cabcc_14 : decode cJ8_newLength_cabcc 14 = .ok (.ldc 200, 2) := by decide +kernel
theorem dJ8_newLength_cabcc_16 : decode cJ8_newLength_cabcc 16 = .ok (.if_icmp .gt 5, 3) := by decide +kernel
theorem dJ8_newLength_cabcc_19 : decode cJ8_newLength_cabcc 19 = .ok (.iload_n 3, 1) := by decide +kernel
theorem dJ8_newLength_cabcc_20 : decode cJ8_newLength_cabcc 20 = .ok (.ireturn, 1) := by decide +kernel
theorem dJ3_checkIndex_8e157_0 : decode cJ3_checkIndex_8e157 0 = .ok (.iload_n 0, 1) := by decide +kernel
theorem dJ3_checkIndex_8e157_1 : decode cJ3_checkIndex_8e157 1 = .ok (.ifCond .lt 8, 3) := by decide +kernel
theorem dJ3_checkIndex_8e157_4 : decode cJ3_checkIndex_8e157 4 = .ok (.iload_n 0, 1) := by decide +kernel
theorem dJ3_checkIndex_8e157_5 : decode cJ3_checkIndex_8e157 5 = .ok (.iload_n 1, 1) := by decide +kernel
theorem dJ3_checkIndex_8e157_6 : decode cJ3_checkIndex_8e157 6 = .ok (.if_icmp .lt 10, 3) := by decide +kernel
theorem dJ3_checkIndex_8e157_16 : decode cJ3_checkIndex_8e157 16 = .ok (.iload_n 0, 1) := by decide +kernel
theorem dJ3_checkIndex_8e157_17 : decode cJ3_checkIndex_8e157 17 = .ok (.ireturn, 1) := by decide +kernel
end ZM0
section ZM1
section ZDk
abbrev dk_R (α : Type) : Type := Jvm.ClassFile.Decoder α
abbrev dk_r1 : dk_R Nat := Jvm.ClassFile.Reader.u1
abbrev dk_r2 : dk_R Nat := Jvm.ClassFile.Reader.u2
abbrev dk_t1 : dk_R Int := Jvm.ClassFile.Reader.s1
abbrev dk_t2 : dk_R Int := Jvm.ClassFile.Reader.s2
theorem dk_u1 {c : ByteArray} {p : Nat} {b : UInt8} (h : c.data.toList[p]? = some b) : dk_r1 c p = .ok (b.toNat, p + 1) := by
  have h0 := List.getElem?_eq_some_iff.mp h
  have hp : p < c.size := h0.1
  have e : c[p] = b := h0.2
  unfold dk_r1 Jvm.ClassFile.Reader.u1
  show (if h : p < c.size then ((do set (p + 1); Pure.pure c[p].toNat) : dk_R Nat) else throw _) c p = _
  rw [dif_pos hp, e]
  rfl
theorem dk_u2 {c : ByteArray} {p a b : Nat} (h : dk_r1 c p = .ok (a, p + 1)) (h2 : dk_r1 c (p + 1) = .ok (b, p + 2)) : dk_r2 c p = .ok (a * 256 + b, p + 2) := by
  show Except.bind (dk_r1 c p) (fun q => Except.bind (dk_r1 c q.2) (fun r => .ok (q.1 * 256 + r.1, r.2))) = _
  rw [h]
  show Except.bind (dk_r1 c (p + 1)) _ = _
  rw [h2]
  rfl
theorem dk_s1 {c : ByteArray} {p a : Nat} {v : Int} (h : dk_r1 c p = .ok (a, p + 1)) (hv : Jvm.ClassFile.Reader.signed 8 a = v) : dk_t1 c p = .ok (v, p + 1) := by
  subst hv
  show Except.bind (dk_r1 c p) (fun q => .ok (Jvm.ClassFile.Reader.signed 8 q.1, q.2)) = _
  rw [h]
  rfl
theorem dk_s2 {c : ByteArray} {p a : Nat} {v : Int} (h : dk_r2 c p = .ok (a, p + 2)) (hv : Jvm.ClassFile.Reader.signed 16 a = v) : dk_t2 c p = .ok (v, p + 2) := by
  subst hv
  show Except.bind (dk_r2 c p) (fun q => .ok (Jvm.ClassFile.Reader.signed 16 q.1, q.2)) = _
  rw [h]
  rfl
theorem dk_op0 {c : ByteArray} {p b : Nat} {K : Nat → dk_R Jvm.ClassFile.Instr} {r : Jvm.ClassFile.Instr} (hK : Jvm.ClassFile.Decoder.instr p = dk_r1 >>= K) (h : dk_r1 c p = .ok (b, p + 1)) (hr : K b = Pure.pure r) : decode c p = .ok (r, 1) := by
  have e : Jvm.ClassFile.Decoder.instr p c p = .ok (r, p + 1) := by
    rw [hK]
    show Except.bind (dk_r1 c p) (fun q => K q.1 c q.2) = _
    rw [h]
    show K b c (p + 1) = _
    rw [hr]
    rfl
  show Except.bind (Jvm.ClassFile.Decoder.instr p c p) (fun q => .ok (q.1, q.2 - p)) = _
  rw [e]
  show Except.ok (r, p + 1 - p) = _
  rw [Nat.add_sub_cancel_left]
theorem dk_op1 {α : Type} {c : ByteArray} {p b n : Nat} {K : Nat → dk_R Jvm.ClassFile.Instr} {rd : dk_R α} {f : α → Jvm.ClassFile.Instr} {x : α} (hK : Jvm.ClassFile.Decoder.instr p = dk_r1 >>= K) (h : dk_r1 c p = .ok (b, p + 1)) (hr : K b = rd >>= fun x => Pure.pure (f x)) (hx : rd c (p + 1) = .ok (x, p + 1 + n)) : decode c p = .ok (f x, n + 1) := by
  have e : Jvm.ClassFile.Decoder.instr p c p = .ok (f x, p + 1 + n) := by
    rw [hK]
    show Except.bind (dk_r1 c p) (fun q => K q.1 c q.2) = _
    rw [h]
    show K b c (p + 1) = _
    rw [hr]
    show Except.bind (rd c (p + 1)) (fun q => .ok (f q.1, q.2)) = _
    rw [hx]
    rfl
  show Except.bind (Jvm.ClassFile.Decoder.instr p c p) (fun q => .ok (q.1, q.2 - p)) = _
  rw [e]
  show Except.ok (f x, p + 1 + n - p) = _
  rw [show p + 1 + n - p = n + 1 by omega]
theorem dk_o0 {c : ByteArray} {p : Nat} {x : Nat} (h : dk_r1 c p = .ok (187, p + 1)) (hx : dk_r2 c (p + 1) = .ok (x, p + 1 + 2)) : decode c p = .ok (.new x, 3) := dk_op1 rfl h rfl hx
theorem dk_o1 {c : ByteArray} {p : Nat} (h : dk_r1 c p = .ok (89, p + 1)) : decode c p = .ok (.dup, 1) := dk_op0 rfl h rfl
theorem dk_o2 {c : ByteArray} {p : Nat} {x : Nat} (h : dk_r1 c p = .ok (183, p + 1)) (hx : dk_r2 c (p + 1) = .ok (x, p + 1 + 2)) : decode c p = .ok (.invokespecial x, 3) := dk_op1 rfl h rfl hx
theorem dk_o3 {c : ByteArray} {p : Nat} (h : dk_r1 c p = .ok (76, p + 1)) : decode c p = .ok (.astore_n 1, 1) := dk_op0 rfl h rfl
theorem dk_o4 {c : ByteArray} {p : Nat} (h : dk_r1 c p = .ok (77, p + 1)) : decode c p = .ok (.astore_n 2, 1) := dk_op0 rfl h rfl
theorem dk_o5 {c : ByteArray} {p : Nat} (h : dk_r1 c p = .ok (78, p + 1)) : decode c p = .ok (.astore_n 3, 1) := dk_op0 rfl h rfl
theorem dk_o6 {c : ByteArray} {p : Nat} (h : dk_r1 c p = .ok (3, p + 1)) : decode c p = .ok (.iconst 0, 1) := dk_op0 rfl h rfl
theorem dk_o7 {c : ByteArray} {p : Nat} {x : Nat} (h : dk_r1 c p = .ok (54, p + 1)) (hx : dk_r1 c (p + 1) = .ok (x, p + 1 + 1)) : decode c p = .ok (.istore x, 2) := dk_op1 rfl h rfl hx
theorem dk_o8 {c : ByteArray} {p : Nat} {x : Nat} (h : dk_r1 c p = .ok (21, p + 1)) (hx : dk_r1 c (p + 1) = .ok (x, p + 1 + 1)) : decode c p = .ok (.iload x, 2) := dk_op1 rfl h rfl hx
theorem dk_o9 {c : ByteArray} {p : Nat} (h : dk_r1 c p = .ok (42, p + 1)) : decode c p = .ok (.aload_n 0, 1) := dk_op0 rfl h rfl
theorem dk_o10 {c : ByteArray} {p : Nat} (h : dk_r1 c p = .ok (190, p + 1)) : decode c p = .ok (.arraylength, 1) := dk_op0 rfl h rfl
theorem dk_o11 {c : ByteArray} {p : Nat} {x : Int} (h : dk_r1 c p = .ok (16, p + 1)) (hx : dk_t1 c (p + 1) = .ok (x, p + 1 + 1)) : decode c p = .ok (.bipush x, 2) := dk_op1 rfl h rfl hx
theorem dk_o12 {c : ByteArray} {p : Nat} (h : dk_r1 c p = .ok (100, p + 1)) : decode c p = .ok (.isub, 1) := dk_op0 rfl h rfl
theorem dk_o13 {c : ByteArray} {p : Nat} {x : Int} (h : dk_r1 c p = .ok (163, p + 1)) (hx : dk_t2 c (p + 1) = .ok (x, p + 1 + 2)) : decode c p = .ok (.if_icmp .gt x, 3) := dk_op1 rfl h rfl hx
theorem dk_o14 {c : ByteArray} {p : Nat} (h : dk_r1 c p = .ok (46, p + 1)) : decode c p = .ok (.iaload, 1) := dk_op0 rfl h rfl
theorem dk_o15 {c : ByteArray} {p : Nat} (h : dk_r1 c p = .ok (126, p + 1)) : decode c p = .ok (.iand, 1) := dk_op0 rfl h rfl
theorem dk_o16 {c : ByteArray} {p : Nat} (h : dk_r1 c p = .ok (43, p + 1)) : decode c p = .ok (.aload_n 1, 1) := dk_op0 rfl h rfl
theorem dk_o17 {c : ByteArray} {p : Nat} (h : dk_r1 c p = .ok (4, p + 1)) : decode c p = .ok (.iconst 1, 1) := dk_op0 rfl h rfl
theorem dk_o18 {c : ByteArray} {p : Nat} (h : dk_r1 c p = .ok (96, p + 1)) : decode c p = .ok (.iadd, 1) := dk_op0 rfl h rfl
theorem dk_o19 {c : ByteArray} {p : Nat} (h : dk_r1 c p = .ok (5, p + 1)) : decode c p = .ok (.iconst 2, 1) := dk_op0 rfl h rfl
theorem dk_o20 {c : ByteArray} {p : Nat} (h : dk_r1 c p = .ok (45, p + 1)) : decode c p = .ok (.aload_n 3, 1) := dk_op0 rfl h rfl
theorem dk_o21 {c : ByteArray} {p : Nat} {x : Nat} (h : dk_r1 c p = .ok (184, p + 1)) (hx : dk_r2 c (p + 1) = .ok (x, p + 1 + 2)) : decode c p = .ok (.invokestatic x, 3) := dk_op1 rfl h rfl hx
theorem dk_o22 {c : ByteArray} {p : Nat} (h : dk_r1 c p = .ok (44, p + 1)) : decode c p = .ok (.aload_n 2, 1) := dk_op0 rfl h rfl
theorem dk_o23 {c : ByteArray} {p : Nat} {x : Nat} (h : dk_r1 c p = .ok (182, p + 1)) (hx : dk_r2 c (p + 1) = .ok (x, p + 1 + 2)) : decode c p = .ok (.invokevirtual x, 3) := dk_op1 rfl h rfl hx
theorem dk_o24 {c : ByteArray} {p : Nat} {x : Int} (h : dk_r1 c p = .ok (167, p + 1)) (hx : dk_t2 c (p + 1) = .ok (x, p + 1 + 2)) : decode c p = .ok (.goto x, 3) := dk_op1 rfl h rfl hx
theorem dk_o25 {c : ByteArray} {p : Nat} {x : Int} (h : dk_r1 c p = .ok (153, p + 1)) (hx : dk_t2 c (p + 1) = .ok (x, p + 1 + 2)) : decode c p = .ok (.ifCond .eq x, 3) := dk_op1 rfl h rfl hx
theorem dk_o26 {c : ByteArray} {p : Nat} {x : Int} (h : dk_r1 c p = .ok (159, p + 1)) (hx : dk_t2 c (p + 1) = .ok (x, p + 1 + 2)) : decode c p = .ok (.if_icmp .eq x, 3) := dk_op1 rfl h rfl hx
theorem dk_o27 {c : ByteArray} {p : Nat} (h : dk_r1 c p = .ok (172, p + 1)) : decode c p = .ok (.ireturn, 1) := dk_op0 rfl h rfl
theorem dk_o28 {c : ByteArray} {p : Nat} {x : Int} (h : dk_r1 c p = .ok (154, p + 1)) (hx : dk_t2 c (p + 1) = .ok (x, p + 1 + 2)) : decode c p = .ok (.ifCond .ne x, 3) := dk_op1 rfl h rfl hx
theorem dk_o29 {c : ByteArray} {p : Nat} {x : Nat} (h : dk_r1 c p = .ok (180, p + 1)) (hx : dk_r2 c (p + 1) = .ok (x, p + 1 + 2)) : decode c p = .ok (.getfield x, 3) := dk_op1 rfl h rfl hx
theorem dk_o30 {c : ByteArray} {p : Nat} (h : dk_r1 c p = .ok (133, p + 1)) : decode c p = .ok (.i2l, 1) := dk_op0 rfl h rfl
theorem dk_o31 {c : ByteArray} {p : Nat} (h : dk_r1 c p = .ok (148, p + 1)) : decode c p = .ok (.lcmp, 1) := dk_op0 rfl h rfl
theorem dk_o32 {c : ByteArray} {p : Nat} (h : dk_r1 c p = .ok (6, p + 1)) : decode c p = .ok (.iconst 3, 1) := dk_op0 rfl h rfl
theorem dk_o33 {c : ByteArray} {p : Nat} (h : dk_r1 c p = .ok (7, p + 1)) : decode c p = .ok (.iconst 4, 1) := dk_op0 rfl h rfl
theorem dk_o34 {c : ByteArray} {p : Nat} (h : dk_r1 c p = .ok (8, p + 1)) : decode c p = .ok (.iconst 5, 1) := dk_op0 rfl h rfl
theorem dk_o35 {c : ByteArray} {p : Nat} {x : Nat} (h : dk_r1 c p = .ok (58, p + 1)) (hx : dk_r1 c (p + 1) = .ok (x, p + 1 + 1)) : decode c p = .ok (.astore x, 2) := dk_op1 rfl h rfl hx
theorem dk_o36 {c : ByteArray} {p : Nat} (h : dk_r1 c p = .ok (87, p + 1)) : decode c p = .ok (.pop, 1) := dk_op0 rfl h rfl
theorem dk_o37 {c : ByteArray} {p : Nat} (h : dk_r1 c p = .ok (88, p + 1)) : decode c p = .ok (.pop2, 1) := dk_op0 rfl h rfl
end ZDk
end ZM1
section ZM2
def dkl_35 : List UInt8 := [87, 167, 0, 16, 43, 182, 1, 68, 88, 44, 182, 1, 72, 88, 167, 0, 3, 132, 4, 6, 167, 247, 71, 4, 172]
def dkl_34 : List UInt8 := 42 :: 21 :: 4 :: 6 :: 96 :: 46 :: 182 :: 1 :: 55 :: 54 :: 6 :: 167 :: 0 :: 70 :: 43 :: 182 :: 1 :: 56 :: 87 :: 44 :: 182 :: 1 :: 59 :: 87 :: 167 :: 0 :: 57 :: 43 :: 42 :: 21 :: 4 :: 4 :: 96 :: 46 :: 45 :: 184 :: 1 :: 60 :: 54 :: 5 :: 44 :: 42 :: 21 :: 4 :: 4 :: 96 :: 46 :: 182 :: 1 :: 62 :: 54 :: 6 :: 167 :: 0 :: 29 :: 43 :: 182 :: 1 :: 63 :: 87 :: 44 :: 182 :: 1 :: 67 :: dkl_35
def dkl_33 : List UInt8 := 42 :: 21 :: 4 :: 5 :: 96 :: 46 :: 42 :: 21 :: 4 :: 6 :: 96 :: 46 :: 42 :: 21 :: 4 :: 7 :: 96 :: 46 :: 182 :: 1 :: 52 :: 54 :: 6 :: 167 :: 0 :: 122 :: 43 :: 42 :: 21 :: 4 :: 4 :: 96 :: 46 :: 42 :: 21 :: 4 :: 5 :: 96 :: 46 :: 42 :: 21 :: 4 :: 6 :: 96 :: 46 :: 45 :: 184 :: 1 :: 53 :: 54 :: 5 :: 44 :: 42 :: 21 :: 4 :: 4 :: 96 :: 46 :: 42 :: 21 :: 4 :: 5 :: 96 :: 46 :: dkl_34
def dkl_32 : List UInt8 := 184 :: 1 :: 47 :: 54 :: 5 :: 44 :: 42 :: 21 :: 4 :: 4 :: 96 :: 46 :: 42 :: 21 :: 4 :: 5 :: 96 :: 46 :: 182 :: 1 :: 49 :: 54 :: 6 :: 167 :: 0 :: 186 :: 43 :: 42 :: 21 :: 4 :: 4 :: 96 :: 46 :: 42 :: 21 :: 4 :: 5 :: 96 :: 46 :: 42 :: 21 :: 4 :: 6 :: 96 :: 46 :: 42 :: 21 :: 4 :: 7 :: 96 :: 46 :: 45 :: 184 :: 1 :: 50 :: 54 :: 5 :: 44 :: 42 :: 21 :: 4 :: 4 :: 96 :: 46 :: dkl_33
def dkl_31 : List UInt8 := 46 :: 45 :: 184 :: 1 :: 41 :: 54 :: 5 :: 44 :: 42 :: 21 :: 4 :: 4 :: 96 :: 46 :: 182 :: 1 :: 43 :: 54 :: 6 :: 167 :: 0 :: 254 :: 43 :: 42 :: 21 :: 4 :: 4 :: 96 :: 46 :: 45 :: 184 :: 1 :: 44 :: 54 :: 5 :: 44 :: 42 :: 21 :: 4 :: 4 :: 96 :: 46 :: 182 :: 1 :: 46 :: 58 :: 6 :: 167 :: 0 :: 226 :: 43 :: 42 :: 21 :: 4 :: 4 :: 96 :: 46 :: 42 :: 21 :: 4 :: 5 :: 96 :: 46 :: 45 :: dkl_32
def dkl_30 : List UInt8 := 4 :: 5 :: 96 :: 46 :: 42 :: 21 :: 4 :: 6 :: 96 :: 46 :: 182 :: 1 :: 37 :: 54 :: 6 :: 167 :: 1 :: 66 :: 43 :: 42 :: 21 :: 4 :: 4 :: 96 :: 46 :: 42 :: 21 :: 4 :: 5 :: 96 :: 46 :: 45 :: 184 :: 1 :: 38 :: 54 :: 5 :: 44 :: 42 :: 21 :: 4 :: 4 :: 96 :: 46 :: 42 :: 21 :: 4 :: 5 :: 96 :: 46 :: 182 :: 1 :: 40 :: 54 :: 6 :: 167 :: 1 :: 26 :: 43 :: 42 :: 21 :: 4 :: 4 :: 96 :: dkl_31
def dkl_29 : List UInt8 := 5 :: 96 :: 46 :: 45 :: 184 :: 1 :: 32 :: 54 :: 5 :: 44 :: 42 :: 21 :: 4 :: 4 :: 96 :: 46 :: 42 :: 21 :: 4 :: 5 :: 96 :: 46 :: 182 :: 1 :: 34 :: 54 :: 6 :: 167 :: 1 :: 118 :: 43 :: 42 :: 21 :: 4 :: 4 :: 96 :: 46 :: 42 :: 21 :: 4 :: 5 :: 96 :: 46 :: 42 :: 21 :: 4 :: 6 :: 96 :: 46 :: 45 :: 184 :: 1 :: 35 :: 54 :: 5 :: 44 :: 42 :: 21 :: 4 :: 4 :: 96 :: 46 :: 42 :: 21 :: dkl_30
def dkl_28 : List UInt8 := 21 :: 4 :: 5 :: 96 :: 46 :: 182 :: 1 :: 24 :: 54 :: 6 :: 167 :: 1 :: 199 :: 43 :: 42 :: 21 :: 4 :: 4 :: 96 :: 46 :: 45 :: 184 :: 1 :: 25 :: 54 :: 5 :: 44 :: 42 :: 21 :: 4 :: 4 :: 96 :: 46 :: 182 :: 1 :: 27 :: 54 :: 6 :: 167 :: 1 :: 171 :: 43 :: 182 :: 1 :: 28 :: 87 :: 44 :: 182 :: 1 :: 31 :: 87 :: 167 :: 1 :: 158 :: 43 :: 42 :: 21 :: 4 :: 4 :: 96 :: 46 :: 42 :: 21 :: 4 :: dkl_29
def dkl_27 : List UInt8 := 46 :: 182 :: 1 :: 18 :: 58 :: 6 :: 167 :: 2 :: 11 :: 43 :: 42 :: 21 :: 4 :: 4 :: 96 :: 46 :: 45 :: 184 :: 1 :: 19 :: 54 :: 5 :: 44 :: 42 :: 21 :: 4 :: 4 :: 96 :: 46 :: 182 :: 1 :: 21 :: 54 :: 6 :: 167 :: 1 :: 239 :: 43 :: 42 :: 21 :: 4 :: 4 :: 96 :: 46 :: 42 :: 21 :: 4 :: 5 :: 96 :: 46 :: 45 :: 184 :: 1 :: 22 :: 54 :: 5 :: 44 :: 42 :: 21 :: 4 :: 4 :: 96 :: 46 :: 42 :: dkl_28
def dkl_26 : List UInt8 := 54 :: 6 :: 167 :: 2 :: 79 :: 43 :: 42 :: 21 :: 4 :: 4 :: 96 :: 46 :: 42 :: 21 :: 4 :: 5 :: 96 :: 46 :: 45 :: 184 :: 1 :: 13 :: 54 :: 5 :: 44 :: 42 :: 21 :: 4 :: 4 :: 96 :: 46 :: 42 :: 21 :: 4 :: 5 :: 96 :: 46 :: 182 :: 1 :: 15 :: 54 :: 6 :: 167 :: 2 :: 39 :: 43 :: 42 :: 21 :: 4 :: 4 :: 96 :: 46 :: 45 :: 184 :: 1 :: 16 :: 54 :: 5 :: 44 :: 42 :: 21 :: 4 :: 4 :: 96 :: dkl_27
def dkl_25 : List UInt8 := 21 :: 4 :: 5 :: 96 :: 46 :: 182 :: 1 :: 6 :: 54 :: 6 :: 167 :: 2 :: 135 :: 43 :: 42 :: 21 :: 4 :: 4 :: 96 :: 46 :: 45 :: 184 :: 1 :: 7 :: 54 :: 5 :: 44 :: 42 :: 21 :: 4 :: 4 :: 96 :: 46 :: 182 :: 1 :: 9 :: 58 :: 6 :: 167 :: 2 :: 107 :: 43 :: 42 :: 21 :: 4 :: 4 :: 96 :: 46 :: 45 :: 184 :: 1 :: 10 :: 54 :: 5 :: 44 :: 42 :: 21 :: 4 :: 4 :: 96 :: 46 :: 182 :: 1 :: 12 :: dkl_26
def dkl_24 : List UInt8 := 46 :: 182 :: 1 :: 0 :: 54 :: 6 :: 167 :: 2 :: 203 :: 43 :: 42 :: 21 :: 4 :: 4 :: 96 :: 46 :: 45 :: 184 :: 1 :: 1 :: 54 :: 5 :: 44 :: 42 :: 21 :: 4 :: 4 :: 96 :: 46 :: 182 :: 1 :: 3 :: 54 :: 6 :: 167 :: 2 :: 175 :: 43 :: 42 :: 21 :: 4 :: 4 :: 96 :: 46 :: 42 :: 21 :: 4 :: 5 :: 96 :: 46 :: 45 :: 184 :: 1 :: 4 :: 54 :: 5 :: 44 :: 42 :: 21 :: 4 :: 4 :: 96 :: 46 :: 42 :: dkl_25
def dkl_23 : List UInt8 := 42 :: 21 :: 4 :: 5 :: 96 :: 46 :: 45 :: 184 :: 0 :: 251 :: 54 :: 5 :: 44 :: 42 :: 21 :: 4 :: 4 :: 96 :: 46 :: 42 :: 21 :: 4 :: 5 :: 96 :: 46 :: 182 :: 0 :: 253 :: 54 :: 6 :: 167 :: 2 :: 243 :: 43 :: 42 :: 21 :: 4 :: 4 :: 96 :: 46 :: 42 :: 21 :: 4 :: 5 :: 96 :: 46 :: 45 :: 184 :: 0 :: 254 :: 54 :: 5 :: 44 :: 42 :: 21 :: 4 :: 4 :: 96 :: 46 :: 42 :: 21 :: 4 :: 5 :: 96 :: dkl_24
def dkl_22 : List UInt8 := 42 :: 21 :: 4 :: 7 :: 96 :: 46 :: 42 :: 21 :: 4 :: 8 :: 96 :: 46 :: 45 :: 184 :: 0 :: 247 :: 54 :: 5 :: 44 :: 42 :: 21 :: 4 :: 4 :: 96 :: 46 :: 42 :: 21 :: 4 :: 5 :: 96 :: 46 :: 42 :: 21 :: 4 :: 6 :: 96 :: 46 :: 42 :: 21 :: 4 :: 7 :: 96 :: 46 :: 42 :: 21 :: 4 :: 8 :: 96 :: 46 :: 182 :: 0 :: 250 :: 54 :: 6 :: 167 :: 3 :: 27 :: 43 :: 42 :: 21 :: 4 :: 4 :: 96 :: 46 :: dkl_23
def dkl_21 : List UInt8 := 42 :: 21 :: 4 :: 7 :: 96 :: 46 :: 45 :: 184 :: 0 :: 244 :: 54 :: 5 :: 44 :: 42 :: 21 :: 4 :: 4 :: 96 :: 46 :: 42 :: 21 :: 4 :: 5 :: 96 :: 46 :: 42 :: 21 :: 4 :: 6 :: 96 :: 46 :: 42 :: 21 :: 4 :: 7 :: 96 :: 46 :: 182 :: 0 :: 246 :: 54 :: 6 :: 167 :: 3 :: 103 :: 43 :: 42 :: 21 :: 4 :: 4 :: 96 :: 46 :: 42 :: 21 :: 4 :: 5 :: 96 :: 46 :: 42 :: 21 :: 4 :: 6 :: 96 :: 46 :: dkl_22
def dkl_20 : List UInt8 := 5 :: 96 :: 46 :: 42 :: 21 :: 4 :: 6 :: 96 :: 46 :: 182 :: 0 :: 240 :: 54 :: 6 :: 167 :: 3 :: 195 :: 43 :: 42 :: 21 :: 4 :: 4 :: 96 :: 46 :: 45 :: 184 :: 0 :: 241 :: 54 :: 5 :: 44 :: 42 :: 21 :: 4 :: 4 :: 96 :: 46 :: 182 :: 0 :: 243 :: 54 :: 6 :: 167 :: 3 :: 167 :: 43 :: 42 :: 21 :: 4 :: 4 :: 96 :: 46 :: 42 :: 21 :: 4 :: 5 :: 96 :: 46 :: 42 :: 21 :: 4 :: 6 :: 96 :: 46 :: dkl_21
def dkl_19 : List UInt8 := 96 :: 46 :: 45 :: 184 :: 0 :: 235 :: 54 :: 5 :: 44 :: 42 :: 21 :: 4 :: 4 :: 96 :: 46 :: 42 :: 21 :: 4 :: 5 :: 96 :: 46 :: 182 :: 0 :: 237 :: 54 :: 6 :: 167 :: 3 :: 247 :: 43 :: 42 :: 21 :: 4 :: 4 :: 96 :: 46 :: 42 :: 21 :: 4 :: 5 :: 96 :: 46 :: 42 :: 21 :: 4 :: 6 :: 96 :: 46 :: 45 :: 184 :: 0 :: 238 :: 54 :: 5 :: 44 :: 42 :: 21 :: 4 :: 4 :: 96 :: 46 :: 42 :: 21 :: 4 :: dkl_20
def dkl_18 : List UInt8 := 96 :: 46 :: 42 :: 21 :: 4 :: 6 :: 96 :: 46 :: 42 :: 21 :: 4 :: 7 :: 96 :: 46 :: 45 :: 184 :: 0 :: 232 :: 54 :: 5 :: 44 :: 42 :: 21 :: 4 :: 4 :: 96 :: 46 :: 42 :: 21 :: 4 :: 5 :: 96 :: 46 :: 42 :: 21 :: 4 :: 6 :: 96 :: 46 :: 42 :: 21 :: 4 :: 7 :: 96 :: 46 :: 182 :: 0 :: 234 :: 54 :: 6 :: 167 :: 4 :: 31 :: 43 :: 42 :: 21 :: 4 :: 4 :: 96 :: 46 :: 42 :: 21 :: 4 :: 5 :: dkl_19
def dkl_17 : List UInt8 := 96 :: 46 :: 42 :: 21 :: 4 :: 6 :: 96 :: 46 :: 42 :: 21 :: 4 :: 7 :: 96 :: 46 :: 45 :: 184 :: 0 :: 229 :: 54 :: 5 :: 44 :: 42 :: 21 :: 4 :: 4 :: 96 :: 46 :: 42 :: 21 :: 4 :: 5 :: 96 :: 46 :: 42 :: 21 :: 4 :: 6 :: 96 :: 46 :: 42 :: 21 :: 4 :: 7 :: 96 :: 46 :: 182 :: 0 :: 231 :: 54 :: 6 :: 167 :: 4 :: 95 :: 43 :: 42 :: 21 :: 4 :: 4 :: 96 :: 46 :: 42 :: 21 :: 4 :: 5 :: dkl_18
def dkl_16 : List UInt8 := 96 :: 46 :: 42 :: 21 :: 4 :: 6 :: 96 :: 46 :: 42 :: 21 :: 4 :: 7 :: 96 :: 46 :: 45 :: 184 :: 0 :: 226 :: 54 :: 5 :: 44 :: 42 :: 21 :: 4 :: 4 :: 96 :: 46 :: 42 :: 21 :: 4 :: 5 :: 96 :: 46 :: 42 :: 21 :: 4 :: 6 :: 96 :: 46 :: 42 :: 21 :: 4 :: 7 :: 96 :: 46 :: 182 :: 0 :: 228 :: 54 :: 6 :: 167 :: 4 :: 159 :: 43 :: 42 :: 21 :: 4 :: 4 :: 96 :: 46 :: 42 :: 21 :: 4 :: 5 :: dkl_17
def dkl_15 : List UInt8 := 96 :: 46 :: 42 :: 21 :: 4 :: 6 :: 96 :: 46 :: 42 :: 21 :: 4 :: 7 :: 96 :: 46 :: 45 :: 184 :: 0 :: 223 :: 54 :: 5 :: 44 :: 42 :: 21 :: 4 :: 4 :: 96 :: 46 :: 42 :: 21 :: 4 :: 5 :: 96 :: 46 :: 42 :: 21 :: 4 :: 6 :: 96 :: 46 :: 42 :: 21 :: 4 :: 7 :: 96 :: 46 :: 182 :: 0 :: 225 :: 54 :: 6 :: 167 :: 4 :: 223 :: 43 :: 42 :: 21 :: 4 :: 4 :: 96 :: 46 :: 42 :: 21 :: 4 :: 5 :: dkl_16
def dkl_14 : List UInt8 := 83 :: 43 :: 42 :: 21 :: 4 :: 4 :: 96 :: 46 :: 42 :: 21 :: 4 :: 5 :: 96 :: 46 :: 42 :: 21 :: 4 :: 6 :: 96 :: 46 :: 45 :: 184 :: 0 :: 220 :: 54 :: 5 :: 44 :: 42 :: 21 :: 4 :: 4 :: 96 :: 46 :: 42 :: 21 :: 4 :: 5 :: 96 :: 46 :: 42 :: 21 :: 4 :: 6 :: 96 :: 46 :: 182 :: 0 :: 222 :: 54 :: 6 :: 167 :: 5 :: 31 :: 43 :: 42 :: 21 :: 4 :: 4 :: 96 :: 46 :: 42 :: 21 :: 4 :: 5 :: dkl_15
def dkl_13 : List UInt8 := 147 :: 43 :: 42 :: 21 :: 4 :: 4 :: 96 :: 46 :: 42 :: 21 :: 4 :: 5 :: 96 :: 46 :: 42 :: 21 :: 4 :: 6 :: 96 :: 46 :: 42 :: 21 :: 4 :: 7 :: 96 :: 46 :: 45 :: 184 :: 0 :: 216 :: 54 :: 5 :: 44 :: 42 :: 21 :: 4 :: 4 :: 96 :: 46 :: 42 :: 21 :: 4 :: 5 :: 96 :: 46 :: 42 :: 21 :: 4 :: 6 :: 96 :: 46 :: 42 :: 21 :: 4 :: 7 :: 96 :: 46 :: 182 :: 0 :: 219 :: 54 :: 6 :: 167 :: 5 :: dkl_14
def dkl_12 : List UInt8 := 21 :: 4 :: 6 :: 96 :: 46 :: 182 :: 0 :: 212 :: 54 :: 6 :: 167 :: 5 :: 199 :: 43 :: 42 :: 21 :: 4 :: 4 :: 96 :: 46 :: 42 :: 21 :: 4 :: 5 :: 96 :: 46 :: 42 :: 21 :: 4 :: 6 :: 96 :: 46 :: 45 :: 184 :: 0 :: 213 :: 54 :: 5 :: 44 :: 42 :: 21 :: 4 :: 4 :: 96 :: 46 :: 42 :: 21 :: 4 :: 5 :: 96 :: 46 :: 42 :: 21 :: 4 :: 6 :: 96 :: 46 :: 182 :: 0 :: 215 :: 54 :: 6 :: 167 :: 5 :: dkl_13
def dkl_11 : List UInt8 := 0 :: 207 :: 54 :: 5 :: 44 :: 42 :: 21 :: 4 :: 4 :: 96 :: 46 :: 42 :: 21 :: 4 :: 5 :: 96 :: 46 :: 182 :: 0 :: 209 :: 54 :: 6 :: 167 :: 5 :: 251 :: 43 :: 42 :: 21 :: 4 :: 4 :: 96 :: 46 :: 42 :: 21 :: 4 :: 5 :: 96 :: 46 :: 42 :: 21 :: 4 :: 6 :: 96 :: 46 :: 45 :: 184 :: 0 :: 210 :: 54 :: 5 :: 44 :: 42 :: 21 :: 4 :: 4 :: 96 :: 46 :: 42 :: 21 :: 4 :: 5 :: 96 :: 46 :: 42 :: dkl_12
def dkl_10 : List UInt8 := 4 :: 4 :: 96 :: 46 :: 42 :: 21 :: 4 :: 5 :: 96 :: 46 :: 42 :: 21 :: 4 :: 6 :: 96 :: 46 :: 45 :: 184 :: 0 :: 204 :: 54 :: 5 :: 44 :: 42 :: 21 :: 4 :: 4 :: 96 :: 46 :: 42 :: 21 :: 4 :: 5 :: 96 :: 46 :: 42 :: 21 :: 4 :: 6 :: 96 :: 46 :: 182 :: 0 :: 206 :: 54 :: 6 :: 167 :: 6 :: 35 :: 43 :: 42 :: 21 :: 4 :: 4 :: 96 :: 46 :: 42 :: 21 :: 4 :: 5 :: 96 :: 46 :: 45 :: 184 :: dkl_11
def dkl_9 : List UInt8 := 45 :: 184 :: 0 :: 197 :: 54 :: 5 :: 44 :: 42 :: 21 :: 4 :: 4 :: 96 :: 46 :: 42 :: 21 :: 4 :: 5 :: 96 :: 46 :: 42 :: 21 :: 4 :: 6 :: 96 :: 46 :: 182 :: 0 :: 199 :: 54 :: 6 :: 167 :: 6 :: 115 :: 43 :: 42 :: 21 :: 4 :: 4 :: 96 :: 46 :: 45 :: 184 :: 0 :: 200 :: 54 :: 5 :: 44 :: 42 :: 21 :: 4 :: 4 :: 96 :: 46 :: 182 :: 0 :: 203 :: 54 :: 6 :: 167 :: 6 :: 87 :: 43 :: 42 :: 21 :: dkl_10
def dkl_8 : List UInt8 := 42 :: 21 :: 4 :: 5 :: 96 :: 46 :: 42 :: 21 :: 4 :: 6 :: 96 :: 46 :: 45 :: 184 :: 0 :: 194 :: 54 :: 5 :: 44 :: 42 :: 21 :: 4 :: 4 :: 96 :: 46 :: 42 :: 21 :: 4 :: 5 :: 96 :: 46 :: 42 :: 21 :: 4 :: 6 :: 96 :: 46 :: 182 :: 0 :: 196 :: 54 :: 6 :: 167 :: 6 :: 167 :: 43 :: 42 :: 21 :: 4 :: 4 :: 96 :: 46 :: 42 :: 21 :: 4 :: 5 :: 96 :: 46 :: 42 :: 21 :: 4 :: 6 :: 96 :: 46 :: dkl_9
def dkl_7 : List UInt8 := 3 :: 172 :: 167 :: 7 :: 15 :: 43 :: 42 :: 21 :: 4 :: 4 :: 96 :: 46 :: 42 :: 21 :: 4 :: 5 :: 96 :: 46 :: 42 :: 21 :: 4 :: 6 :: 96 :: 46 :: 45 :: 184 :: 0 :: 190 :: 54 :: 5 :: 44 :: 42 :: 21 :: 4 :: 4 :: 96 :: 46 :: 42 :: 21 :: 4 :: 5 :: 96 :: 46 :: 42 :: 21 :: 4 :: 6 :: 96 :: 46 :: 182 :: 0 :: 193 :: 54 :: 6 :: 167 :: 6 :: 219 :: 43 :: 42 :: 21 :: 4 :: 4 :: 96 :: 46 :: dkl_8
def dkl_6 : List UInt8 := 43 :: 42 :: 21 :: 4 :: 4 :: 96 :: 46 :: 42 :: 21 :: 4 :: 5 :: 96 :: 46 :: 45 :: 184 :: 0 :: 183 :: 54 :: 5 :: 44 :: 42 :: 21 :: 4 :: 4 :: 96 :: 46 :: 42 :: 21 :: 4 :: 5 :: 96 :: 46 :: 182 :: 0 :: 185 :: 54 :: 6 :: 44 :: 182 :: 0 :: 186 :: 21 :: 5 :: 159 :: 0 :: 5 :: 3 :: 172 :: 21 :: 5 :: 154 :: 0 :: 16 :: 45 :: 180 :: 0 :: 13 :: 21 :: 6 :: 133 :: 148 :: 153 :: 0 :: 5 :: dkl_7
def dkl_5 : List UInt8 := 182 :: 0 :: 178 :: 54 :: 6 :: 167 :: 7 :: 140 :: 43 :: 42 :: 21 :: 4 :: 4 :: 96 :: 46 :: 42 :: 21 :: 4 :: 5 :: 96 :: 46 :: 153 :: 0 :: 7 :: 4 :: 167 :: 0 :: 4 :: 3 :: 45 :: 184 :: 0 :: 179 :: 54 :: 5 :: 44 :: 42 :: 21 :: 4 :: 4 :: 96 :: 46 :: 42 :: 21 :: 4 :: 5 :: 96 :: 46 :: 153 :: 0 :: 7 :: 4 :: 167 :: 0 :: 4 :: 3 :: 182 :: 0 :: 182 :: 54 :: 6 :: 167 :: 7 :: 84 :: dkl_6
def dkl_4 : List UInt8 := 21 :: 4 :: 5 :: 96 :: 46 :: 45 :: 184 :: 0 :: 170 :: 54 :: 5 :: 44 :: 42 :: 21 :: 4 :: 4 :: 96 :: 46 :: 42 :: 21 :: 4 :: 5 :: 96 :: 46 :: 182 :: 0 :: 175 :: 54 :: 6 :: 167 :: 7 :: 180 :: 43 :: 42 :: 21 :: 4 :: 4 :: 96 :: 46 :: 42 :: 21 :: 4 :: 5 :: 96 :: 46 :: 45 :: 184 :: 0 :: 176 :: 54 :: 5 :: 44 :: 42 :: 21 :: 4 :: 4 :: 96 :: 46 :: 42 :: 21 :: 4 :: 5 :: 96 :: 46 :: dkl_5
def dkl_3 : List UInt8 := 0 :: 0 :: 6 :: 225 :: 0 :: 0 :: 6 :: 253 :: 0 :: 0 :: 7 :: 10 :: 0 :: 0 :: 7 :: 50 :: 0 :: 0 :: 7 :: 102 :: 0 :: 0 :: 7 :: 142 :: 0 :: 0 :: 7 :: 170 :: 0 :: 0 :: 7 :: 198 :: 0 :: 0 :: 7 :: 238 :: 0 :: 0 :: 8 :: 46 :: 0 :: 0 :: 8 :: 98 :: 0 :: 0 :: 8 :: 111 :: 0 :: 0 :: 8 :: 139 :: 0 :: 0 :: 8 :: 152 :: 43 :: 42 :: 21 :: 4 :: 4 :: 96 :: 46 :: 42 :: dkl_4
def dkl_2 : List UInt8 := 0 :: 0 :: 4 :: 73 :: 0 :: 0 :: 4 :: 137 :: 0 :: 0 :: 4 :: 177 :: 0 :: 0 :: 4 :: 229 :: 0 :: 0 :: 5 :: 1 :: 0 :: 0 :: 5 :: 65 :: 0 :: 0 :: 5 :: 141 :: 0 :: 0 :: 5 :: 181 :: 0 :: 0 :: 5 :: 221 :: 0 :: 0 :: 5 :: 249 :: 0 :: 0 :: 6 :: 33 :: 0 :: 0 :: 6 :: 61 :: 0 :: 0 :: 6 :: 89 :: 0 :: 0 :: 6 :: 129 :: 0 :: 0 :: 6 :: 157 :: 0 :: 0 :: 6 :: 185 :: dkl_3
def dkl_1 : List UInt8 := 0 :: 0 :: 0 :: 244 :: 0 :: 0 :: 1 :: 28 :: 0 :: 0 :: 1 :: 84 :: 0 :: 0 :: 1 :: 153 :: 0 :: 0 :: 1 :: 205 :: 0 :: 0 :: 2 :: 1 :: 0 :: 0 :: 2 :: 53 :: 0 :: 0 :: 2 :: 81 :: 0 :: 0 :: 2 :: 133 :: 0 :: 0 :: 2 :: 173 :: 0 :: 0 :: 2 :: 225 :: 0 :: 0 :: 3 :: 21 :: 0 :: 0 :: 3 :: 85 :: 0 :: 0 :: 3 :: 137 :: 0 :: 0 :: 3 :: 201 :: 0 :: 0 :: 4 :: 9 :: dkl_2
def dkl_0 : List UInt8 := 187 :: 0 :: 8 :: 89 :: 183 :: 0 :: 165 :: 76 :: 187 :: 0 :: 166 :: 89 :: 183 :: 0 :: 168 :: 77 :: 187 :: 0 :: 14 :: 89 :: 183 :: 0 :: 169 :: 78 :: 3 :: 54 :: 4 :: 21 :: 4 :: 42 :: 190 :: 16 :: 6 :: 100 :: 163 :: 8 :: 181 :: 42 :: 21 :: 4 :: 46 :: 16 :: 63 :: 126 :: 170 :: 0 :: 0 :: 0 :: 0 :: 0 :: 8 :: 165 :: 0 :: 0 :: 0 :: 0 :: 0 :: 0 :: 0 :: 46 :: 0 :: 0 :: 0 :: 204 :: dkl_1
set_option maxRecDepth 100000 in
theorem dkg_0 (i : Nat) : cL_law.data.toList[i]? = dkl_0[i]? := congrArg (fun z : List UInt8 => z[i]?) (show cL_law.data.toList = dkl_0 by decide +kernel)
theorem dkg_1 (i : Nat) : cL_law.data.toList[i + 64]? = dkl_1[i]? := (dkg_0 (i + 64)).trans rfl
theorem dkg_2 (i : Nat) : cL_law.data.toList[i + 128]? = dkl_2[i]? := (dkg_1 (i + 64)).trans rfl
theorem dkg_3 (i : Nat) : cL_law.data.toList[i + 192]? = dkl_3[i]? := (dkg_2 (i + 64)).trans rfl
theorem dkg_4 (i : Nat) : cL_law.data.toList[i + 256]? = dkl_4[i]? := (dkg_3 (i + 64)).trans rfl
theorem dkg_5 (i : Nat) : cL_law.data.toList[i + 320]? = dkl_5[i]? := (dkg_4 (i + 64)).trans rfl
theorem dkg_6 (i : Nat) : cL_law.data.toList[i + 384]? = dkl_6[i]? := (dkg_5 (i + 64)).trans rfl
theorem dkg_7 (i : Nat) : cL_law.data.toList[i + 448]? = dkl_7[i]? := (dkg_6 (i + 64)).trans rfl
theorem dkg_8 (i : Nat) : cL_law.data.toList[i + 512]? = dkl_8[i]? := (dkg_7 (i + 64)).trans rfl
theorem dkg_9 (i : Nat) : cL_law.data.toList[i + 576]? = dkl_9[i]? := (dkg_8 (i + 64)).trans rfl
theorem dkg_10 (i : Nat) : cL_law.data.toList[i + 640]? = dkl_10[i]? := (dkg_9 (i + 64)).trans rfl
theorem dkg_11 (i : Nat) : cL_law.data.toList[i + 704]? = dkl_11[i]? := (dkg_10 (i + 64)).trans rfl
theorem dkg_12 (i : Nat) : cL_law.data.toList[i + 768]? = dkl_12[i]? := (dkg_11 (i + 64)).trans rfl
theorem dkg_13 (i : Nat) : cL_law.data.toList[i + 832]? = dkl_13[i]? := (dkg_12 (i + 64)).trans rfl
theorem dkg_14 (i : Nat) : cL_law.data.toList[i + 896]? = dkl_14[i]? := (dkg_13 (i + 64)).trans rfl
theorem dkg_15 (i : Nat) : cL_law.data.toList[i + 960]? = dkl_15[i]? := (dkg_14 (i + 64)).trans rfl
theorem dkg_16 (i : Nat) : cL_law.data.toList[i + 1024]? = dkl_16[i]? := (dkg_15 (i + 64)).trans rfl
theorem dkg_17 (i : Nat) : cL_law.data.toList[i + 1088]? = dkl_17[i]? := (dkg_16 (i + 64)).trans rfl
theorem dkg_18 (i : Nat) : cL_law.data.toList[i + 1152]? = dkl_18[i]? := (dkg_17 (i + 64)).trans rfl
theorem dkg_19 (i : Nat) : cL_law.data.toList[i + 1216]? = dkl_19[i]? := (dkg_18 (i + 64)).trans rfl
theorem dkg_20 (i : Nat) : cL_law.data.toList[i + 1280]? = dkl_20[i]? := (dkg_19 (i + 64)).trans rfl
theorem dkg_21 (i : Nat) : cL_law.data.toList[i + 1344]? = dkl_21[i]? := (dkg_20 (i + 64)).trans rfl
theorem dkg_22 (i : Nat) : cL_law.data.toList[i + 1408]? = dkl_22[i]? := (dkg_21 (i + 64)).trans rfl
theorem dkg_23 (i : Nat) : cL_law.data.toList[i + 1472]? = dkl_23[i]? := (dkg_22 (i + 64)).trans rfl
theorem dkg_24 (i : Nat) : cL_law.data.toList[i + 1536]? = dkl_24[i]? := (dkg_23 (i + 64)).trans rfl
theorem dkg_25 (i : Nat) : cL_law.data.toList[i + 1600]? = dkl_25[i]? := (dkg_24 (i + 64)).trans rfl
theorem dkg_26 (i : Nat) : cL_law.data.toList[i + 1664]? = dkl_26[i]? := (dkg_25 (i + 64)).trans rfl
theorem dkg_27 (i : Nat) : cL_law.data.toList[i + 1728]? = dkl_27[i]? := (dkg_26 (i + 64)).trans rfl
theorem dkg_28 (i : Nat) : cL_law.data.toList[i + 1792]? = dkl_28[i]? := (dkg_27 (i + 64)).trans rfl
theorem dkg_29 (i : Nat) : cL_law.data.toList[i + 1856]? = dkl_29[i]? := (dkg_28 (i + 64)).trans rfl
theorem dkg_30 (i : Nat) : cL_law.data.toList[i + 1920]? = dkl_30[i]? := (dkg_29 (i + 64)).trans rfl
theorem dkg_31 (i : Nat) : cL_law.data.toList[i + 1984]? = dkl_31[i]? := (dkg_30 (i + 64)).trans rfl
theorem dkg_32 (i : Nat) : cL_law.data.toList[i + 2048]? = dkl_32[i]? := (dkg_31 (i + 64)).trans rfl
theorem dkg_33 (i : Nat) : cL_law.data.toList[i + 2112]? = dkl_33[i]? := (dkg_32 (i + 64)).trans rfl
theorem dkg_34 (i : Nat) : cL_law.data.toList[i + 2176]? = dkl_34[i]? := (dkg_33 (i + 64)).trans rfl
theorem dkg_35 (i : Nat) : cL_law.data.toList[i + 2240]? = dkl_35[i]? := (dkg_34 (i + 64)).trans rfl
theorem dL_type_0 : decode cL_type 0 = .ok (.aload_n 3, 1) := by decide +kernel
theorem dL_type_1 : decode cL_type 1 = .ok (.aload_n 0, 1) := by decide +kernel
theorem dL_type_2 : decode cL_type 2 = .ok (.iload_n 1, 1) := by decide +kernel
theorem dL_type_3 : decode cL_type 3 = .ok (.iload_n 2, 1) := by decide +kernel
theorem dL_type_4 : decode cL_type 4 = .ok (.invokevirtual 7, 3) := by decide +kernel
theorem dL_type_7 : decode cL_type 7 = .ok (.i2l, 1) := by decide +kernel
theorem dL_type_8 : decode cL_type 8 = .ok (.putfield 13, 3) := by decide +kernel
theorem dL_type_11 : decode cL_type 11 = .ok (.goto 15, 3) := by decide +kernel
theorem dL_type_14 : decode cL_type 14 = .ok (.astore 4, 2) := by decide +kernel
theorem dL_type_16 : decode cL_type 16 = .ok (.iconst 1, 1) := by decide +kernel
theorem dL_type_17 : decode cL_type 17 = .ok (.ireturn, 1) := by decide +kernel
theorem dL_type_18 : decode cL_type 18 = .ok (.astore 4, 2) := by decide +kernel
theorem dL_type_20 : decode cL_type 20 = .ok (.iconst 2, 1) := by decide +kernel
theorem dL_type_21 : decode cL_type 21 = .ok (.ireturn, 1) := by decide +kernel
theorem dL_type_22 : decode cL_type 22 = .ok (.astore 4, 2) := by decide +kernel
theorem dL_type_24 : decode cL_type 24 = .ok (.iconst 3, 1) := by decide +kernel
theorem dL_type_25 : decode cL_type 25 = .ok (.ireturn, 1) := by decide +kernel
theorem dL_type_26 : decode cL_type 26 = .ok (.iconst 0, 1) := by decide +kernel
theorem dL_type_27 : decode cL_type 27 = .ok (.ireturn, 1) := by decide +kernel
theorem dL_drop_0 : decode cL_drop 0 = .ok (.aload_n 3, 1) := by decide +kernel
theorem dL_drop_1 : decode cL_drop 1 = .ok (.aload_n 0, 1) := by decide +kernel
theorem dL_drop_2 : decode cL_drop 2 = .ok (.iload_n 1, 1) := by decide +kernel
theorem dL_drop_3 : decode cL_drop 3 = .ok (.iload_n 2, 1) := by decide +kernel
theorem dL_drop_4 : decode cL_drop 4 = .ok (.invokevirtual 25, 3) := by decide +kernel
theorem dL_drop_7 : decode cL_drop 7 = .ok (.i2l, 1) := by decide +kernel
theorem dL_drop_8 : decode cL_drop 8 = .ok (.putfield 13, 3) := by decide +kernel
theorem dL_drop_11 : decode cL_drop 11 = .ok (.goto 11, 3) := by decide +kernel
theorem dL_drop_14 : decode cL_drop 14 = .ok (.astore 4, 2) := by decide +kernel
theorem dL_drop_16 : decode cL_drop 16 = .ok (.iconst 1, 1) := by decide +kernel
theorem dL_drop_17 : decode cL_drop 17 = .ok (.ireturn, 1) := by decide +kernel
theorem dL_drop_18 : decode cL_drop 18 = .ok (.astore 4, 2) := by decide +kernel
theorem dL_drop_20 : decode cL_drop 20 = .ok (.iconst 2, 1) := by decide +kernel
theorem dL_drop_21 : decode cL_drop 21 = .ok (.ireturn, 1) := by decide +kernel
theorem dL_drop_22 : decode cL_drop 22 = .ok (.iconst 0, 1) := by decide +kernel
theorem dL_drop_23 : decode cL_drop 23 = .ok (.ireturn, 1) := by decide +kernel
theorem dL_fix_0 : decode cL_fix 0 = .ok (.aload_n 3, 1) := by decide +kernel
theorem dL_fix_1 : decode cL_fix 1 = .ok (.aload_n 0, 1) := by decide +kernel
theorem dL_fix_2 : decode cL_fix 2 = .ok (.iload_n 1, 1) := by decide +kernel
theorem dL_fix_3 : decode cL_fix 3 = .ok (.iload_n 2, 1) := by decide +kernel
theorem dL_fix_4 : decode cL_fix 4 = .ok (.invokevirtual 28, 3) := by decide +kernel
theorem dL_fix_7 : decode cL_fix 7 = .ok (.i2l, 1) := by decide +kernel
theorem dL_fix_8 : decode cL_fix 8 = .ok (.putfield 13, 3) := by decide +kernel
theorem dL_fix_11 : decode cL_fix 11 = .ok (.goto 7, 3) := by decide +kernel
theorem dL_fix_14 : decode cL_fix 14 = .ok (.astore 4, 2) := by decide +kernel
theorem dL_fix_16 : decode cL_fix 16 = .ok (.iconst 1, 1) := by decide +kernel
theorem dL_fix_17 : decode cL_fix 17 = .ok (.ireturn, 1) := by decide +kernel
theorem dL_fix_18 : decode cL_fix 18 = .ok (.iconst 0, 1) := by decide +kernel
theorem dL_fix_19 : decode cL_fix 19 = .ok (.ireturn, 1) := by decide +kernel
theorem dL_hear_0 : decode cL_hear 0 = .ok (.aload_n 3, 1) := by decide +kernel
theorem dL_hear_1 : decode cL_hear 1 = .ok (.aload_n 0, 1) := by decide +kernel
theorem dL_hear_2 : decode cL_hear 2 = .ok (.iload_n 1, 1) := by decide +kernel
theorem dL_hear_3 : decode cL_hear 3 = .ok (.iload_n 2, 1) := by decide +kernel
theorem dL_hear_4 : decode cL_hear 4 = .ok (.invokevirtual 32, 3) := by decide +kernel
theorem dL_hear_7 : decode cL_hear 7 = .ok (.i2l, 1) := by decide +kernel
theorem dL_hear_8 : decode cL_hear 8 = .ok (.putfield 13, 3) := by decide +kernel
theorem dL_hear_11 : decode cL_hear 11 = .ok (.goto 7, 3) := by decide +kernel
theorem dL_hear_14 : decode cL_hear 14 = .ok (.astore 4, 2) := by decide +kernel
theorem dL_hear_16 : decode cL_hear 16 = .ok (.iconst 1, 1) := by decide +kernel
theorem dL_hear_17 : decode cL_hear 17 = .ok (.ireturn, 1) := by decide +kernel
theorem dL_hear_18 : decode cL_hear 18 = .ok (.iconst 0, 1) := by decide +kernel
theorem dL_hear_19 : decode cL_hear 19 = .ok (.ireturn, 1) := by decide +kernel
theorem dL_rest_0 : decode cL_rest 0 = .ok (.aload 4, 2) := by decide +kernel
theorem dL_rest_2 : decode cL_rest 2 = .ok (.aload_n 0, 1) := by decide +kernel
theorem dL_rest_3 : decode cL_rest 3 = .ok (.iload_n 1, 1) := by decide +kernel
theorem dL_rest_4 : decode cL_rest 4 = .ok (.iload_n 2, 1) := by decide +kernel
theorem dL_rest_5 : decode cL_rest 5 = .ok (.iload_n 3, 1) := by decide +kernel
theorem dL_rest_6 : decode cL_rest 6 = .ok (.invokevirtual 35, 3) := by decide +kernel
theorem dL_rest_9 : decode cL_rest 9 = .ok (.i2l, 1) := by decide +kernel
theorem dL_rest_10 : decode cL_rest 10 = .ok (.putfield 13, 3) := by decide +kernel
theorem dL_rest_13 : decode cL_rest 13 = .ok (.goto 11, 3) := by decide +kernel
theorem dL_rest_16 : decode cL_rest 16 = .ok (.astore 5, 2) := by decide +kernel
theorem dL_rest_18 : decode cL_rest 18 = .ok (.iconst 1, 1) := by decide +kernel
theorem dL_rest_19 : decode cL_rest 19 = .ok (.ireturn, 1) := by decide +kernel
theorem dL_rest_20 : decode cL_rest 20 = .ok (.astore 5, 2) := by decide +kernel
theorem dL_rest_22 : decode cL_rest 22 = .ok (.iconst 2, 1) := by decide +kernel
theorem dL_rest_23 : decode cL_rest 23 = .ok (.ireturn, 1) := by decide +kernel
theorem dL_rest_24 : decode cL_rest 24 = .ok (.iconst 0, 1) := by decide +kernel
theorem dL_rest_25 : decode cL_rest 25 = .ok (.ireturn, 1) := by decide +kernel
theorem dL_removeIf_0 : decode cL_removeIf 0 = .ok (.aload 4, 2) := by decide +kernel
theorem dL_removeIf_2 : decode cL_removeIf 2 = .ok (.aload_n 0, 1) := by decide +kernel
theorem dL_removeIf_3 : decode cL_removeIf 3 = .ok (.iload_n 1, 1) := by decide +kernel
theorem dL_removeIf_4 : decode cL_removeIf 4 = .ok (.iload_n 2, 1) := by decide +kernel
theorem dL_removeIf_5 : decode cL_removeIf 5 = .ok (.iload_n 3, 1) := by decide +kernel
theorem dL_removeIf_6 : decode cL_removeIf 6 = .ok (.invokevirtual 39, 3) := by decide +kernel
theorem dL_removeIf_9 : decode cL_removeIf 9 = .ok (.i2l, 1) := by decide +kernel
theorem dL_removeIf_10 : decode cL_removeIf 10 = .ok (.putfield 13, 3) := by decide +kernel
theorem dL_removeIf_13 : decode cL_removeIf 13 = .ok (.goto 11, 3) := by decide +kernel
theorem dL_removeIf_16 : decode cL_removeIf 16 = .ok (.astore 5, 2) := by decide +kernel
theorem dL_removeIf_18 : decode cL_removeIf 18 = .ok (.iconst 1, 1) := by decide +kernel
theorem dL_removeIf_19 : decode cL_removeIf 19 = .ok (.ireturn, 1) := by decide +kernel
theorem dL_removeIf_20 : decode cL_removeIf 20 = .ok (.astore 5, 2) := by decide +kernel
theorem dL_removeIf_22 : decode cL_removeIf 22 = .ok (.iconst 2, 1) := by decide +kernel
theorem dL_removeIf_23 : decode cL_removeIf 23 = .ok (.ireturn, 1) := by decide +kernel
theorem dL_removeIf_24 : decode cL_removeIf 24 = .ok (.iconst 0, 1) := by decide +kernel
theorem dL_removeIf_25 : decode cL_removeIf 25 = .ok (.ireturn, 1) := by decide +kernel
theorem dL_replaceAll_0 : decode cL_replaceAll 0 = .ok (.aload 4, 2) := by decide +kernel
theorem dL_replaceAll_2 : decode cL_replaceAll 2 = .ok (.aload_n 0, 1) := by decide +kernel
theorem dL_replaceAll_3 : decode cL_replaceAll 3 = .ok (.iload_n 1, 1) := by decide +kernel
theorem dL_replaceAll_4 : decode cL_replaceAll 4 = .ok (.iload_n 2, 1) := by decide +kernel
theorem dL_replaceAll_5 : decode cL_replaceAll 5 = .ok (.iload_n 3, 1) := by decide +kernel
theorem dL_replaceAll_6 : decode cL_replaceAll 6 = .ok (.invokevirtual 42, 3) := by decide +kernel
theorem dL_replaceAll_9 : decode cL_replaceAll 9 = .ok (.i2l, 1) := by decide +kernel
theorem dL_replaceAll_10 : decode cL_replaceAll 10 = .ok (.putfield 13, 3) := by decide +kernel
theorem dL_replaceAll_13 : decode cL_replaceAll 13 = .ok (.goto 11, 3) := by decide +kernel
theorem dL_replaceAll_16 : decode cL_replaceAll 16 = .ok (.astore 5, 2) := by decide +kernel
theorem dL_replaceAll_18 : decode cL_replaceAll 18 = .ok (.iconst 1, 1) := by decide +kernel
theorem dL_replaceAll_19 : decode cL_replaceAll 19 = .ok (.ireturn, 1) := by decide +kernel
theorem dL_replaceAll_20 : decode cL_replaceAll 20 = .ok (.astore 5, 2) := by decide +kernel
theorem dL_replaceAll_22 : decode cL_replaceAll 22 = .ok (.iconst 2, 1) := by decide +kernel
theorem dL_replaceAll_23 : decode cL_replaceAll 23 = .ok (.ireturn, 1) := by decide +kernel
theorem dL_replaceAll_24 : decode cL_replaceAll 24 = .ok (.iconst 0, 1) := by decide +kernel
theorem dL_replaceAll_25 : decode cL_replaceAll 25 = .ok (.ireturn, 1) := by decide +kernel
theorem dL_copy_0 : decode cL_copy 0 = .ok (.aload_n 2, 1) := by decide +kernel
theorem dL_copy_1 : decode cL_copy 1 = .ok (.aload_n 0, 1) := by decide +kernel
theorem dL_copy_2 : decode cL_copy 2 = .ok (.iload_n 1, 1) := by decide +kernel
theorem dL_copy_3 : decode cL_copy 3 = .ok (.invokevirtual 45, 3) := by decide +kernel
theorem dL_copy_6 : decode cL_copy 6 = .ok (.i2l, 1) := by decide +kernel
theorem dL_copy_7 : decode cL_copy 7 = .ok (.putfield 13, 3) := by decide +kernel
theorem dL_copy_10 : decode cL_copy 10 = .ok (.goto 6, 3) := by decide +kernel
theorem dL_copy_13 : decode cL_copy 13 = .ok (.astore_n 3, 1) := by decide +kernel
theorem dL_copy_14 : decode cL_copy 14 = .ok (.iconst 1, 1) := by decide +kernel
theorem dL_copy_15 : decode cL_copy 15 = .ok (.ireturn, 1) := by decide +kernel
theorem dL_copy_16 : decode cL_copy 16 = .ok (.iconst 0, 1) := by decide +kernel
theorem dL_copy_17 : decode cL_copy 17 = .ok (.ireturn, 1) := by decide +kernel
theorem dL_put_0 : decode cL_put 0 = .ok (.aload 4, 2) := by decide +kernel
theorem dL_put_2 : decode cL_put 2 = .ok (.aload_n 0, 1) := by decide +kernel
theorem dL_put_3 : decode cL_put 3 = .ok (.iload_n 1, 1) := by decide +kernel
theorem dL_put_4 : decode cL_put 4 = .ok (.iload_n 2, 1) := by decide +kernel
theorem dL_put_5 : decode cL_put 5 = .ok (.iload_n 3, 1) := by decide +kernel
theorem dL_put_6 : decode cL_put 6 = .ok (.invokevirtual 49, 3) := by decide +kernel
theorem dL_put_9 : decode cL_put 9 = .ok (.i2l, 1) := by decide +kernel
theorem dL_put_10 : decode cL_put 10 = .ok (.putfield 13, 3) := by decide +kernel
theorem dL_put_13 : decode cL_put 13 = .ok (.goto 11, 3) := by decide +kernel
theorem dL_put_16 : decode cL_put 16 = .ok (.astore 5, 2) := by decide +kernel
theorem dL_put_18 : decode cL_put 18 = .ok (.iconst 1, 1) := by decide +kernel
theorem dL_put_19 : decode cL_put 19 = .ok (.ireturn, 1) := by decide +kernel
theorem dL_put_20 : decode cL_put 20 = .ok (.astore 5, 2) := by decide +kernel
theorem dL_put_22 : decode cL_put 22 = .ok (.iconst 2, 1) := by decide +kernel
theorem dL_put_23 : decode cL_put 23 = .ok (.ireturn, 1) := by decide +kernel
theorem dL_put_24 : decode cL_put 24 = .ok (.iconst 0, 1) := by decide +kernel
theorem dL_put_25 : decode cL_put 25 = .ok (.ireturn, 1) := by decide +kernel
theorem dL_remove_0 : decode cL_remove 0 = .ok (.aload_n 3, 1) := by decide +kernel
theorem dL_remove_1 : decode cL_remove 1 = .ok (.aload_n 0, 1) := by decide +kernel
theorem dL_remove_2 : decode cL_remove 2 = .ok (.iload_n 1, 1) := by decide +kernel
theorem dL_remove_3 : decode cL_remove 3 = .ok (.iload_n 2, 1) := by decide +kernel
theorem dL_remove_4 : decode cL_remove 4 = .ok (.invokevirtual 52, 3) := by decide +kernel
theorem dL_remove_7 : decode cL_remove 7 = .ok (.i2l, 1) := by decide +kernel
theorem dL_remove_8 : decode cL_remove 8 = .ok (.putfield 13, 3) := by decide +kernel
theorem dL_remove_11 : decode cL_remove 11 = .ok (.goto 11, 3) := by decide +kernel
theorem dL_remove_14 : decode cL_remove 14 = .ok (.astore 4, 2) := by decide +kernel
theorem dL_remove_16 : decode cL_remove 16 = .ok (.iconst 1, 1) := by decide +kernel
theorem dL_remove_17 : decode cL_remove 17 = .ok (.ireturn, 1) := by decide +kernel
theorem dL_remove_18 : decode cL_remove 18 = .ok (.astore 4, 2) := by decide +kernel
theorem dL_remove_20 : decode cL_remove 20 = .ok (.iconst 2, 1) := by decide +kernel
theorem dL_remove_21 : decode cL_remove 21 = .ok (.ireturn, 1) := by decide +kernel
theorem dL_remove_22 : decode cL_remove 22 = .ok (.iconst 0, 1) := by decide +kernel
theorem dL_remove_23 : decode cL_remove 23 = .ok (.ireturn, 1) := by decide +kernel
theorem dL_putIfAbsent_0 : decode cL_putIfAbsent 0 = .ok (.aload 4, 2) := by decide +kernel
theorem dL_putIfAbsent_2 : decode cL_putIfAbsent 2 = .ok (.aload_n 0, 1) := by decide +kernel
theorem dL_putIfAbsent_3 : decode cL_putIfAbsent 3 = .ok (.iload_n 1, 1) := by decide +kernel
theorem dL_putIfAbsent_4 : decode cL_putIfAbsent 4 = .ok (.iload_n 2, 1) := by decide +kernel
theorem dL_putIfAbsent_5 : decode cL_putIfAbsent 5 = .ok (.iload_n 3, 1) := by decide +kernel
theorem dL_putIfAbsent_6 : decode cL_putIfAbsent 6 = .ok (.invokevirtual 55, 3) := by decide +kernel
theorem dL_putIfAbsent_9 : decode cL_putIfAbsent 9 = .ok (.i2l, 1) := by decide +kernel
theorem dL_putIfAbsent_10 : decode cL_putIfAbsent 10 = .ok (.putfield 13, 3) := by decide +kernel
theorem dL_putIfAbsent_13 : decode cL_putIfAbsent 13 = .ok (.goto 11, 3) := by decide +kernel
theorem dL_putIfAbsent_16 : decode cL_putIfAbsent 16 = .ok (.astore 5, 2) := by decide +kernel
theorem dL_putIfAbsent_18 : decode cL_putIfAbsent 18 = .ok (.iconst 1, 1) := by decide +kernel
theorem dL_putIfAbsent_19 : decode cL_putIfAbsent 19 = .ok (.ireturn, 1) := by decide +kernel
theorem dL_putIfAbsent_20 : decode cL_putIfAbsent 20 = .ok (.astore 5, 2) := by decide +kernel
theorem dL_putIfAbsent_22 : decode cL_putIfAbsent 22 = .ok (.iconst 2, 1) := by decide +kernel
theorem dL_putIfAbsent_23 : decode cL_putIfAbsent 23 = .ok (.ireturn, 1) := by decide +kernel
theorem dL_putIfAbsent_24 : decode cL_putIfAbsent 24 = .ok (.iconst 0, 1) := by decide +kernel
theorem dL_putIfAbsent_25 : decode cL_putIfAbsent 25 = .ok (.ireturn, 1) := by decide +kernel
theorem dL_replace_0 : decode cL_replace 0 = .ok (.aload 4, 2) := by decide +kernel
theorem dL_replace_2 : decode cL_replace 2 = .ok (.aload_n 0, 1) := by decide +kernel
theorem dL_replace_3 : decode cL_replace 3 = .ok (.iload_n 1, 1) := by decide +kernel
theorem dL_replace_4 : decode cL_replace 4 = .ok (.iload_n 2, 1) := by decide +kernel
theorem dL_replace_5 : decode cL_replace 5 = .ok (.iload_n 3, 1) := by decide +kernel
theorem dL_replace_6 : decode cL_replace 6 = .ok (.invokevirtual 58, 3) := by decide +kernel
theorem dL_replace_9 : decode cL_replace 9 = .ok (.i2l, 1) := by decide +kernel
theorem dL_replace_10 : decode cL_replace 10 = .ok (.putfield 13, 3) := by decide +kernel
theorem dL_replace_13 : decode cL_replace 13 = .ok (.goto 11, 3) := by decide +kernel
theorem dL_replace_16 : decode cL_replace 16 = .ok (.astore 5, 2) := by decide +kernel
theorem dL_replace_18 : decode cL_replace 18 = .ok (.iconst 1, 1) := by decide +kernel
theorem dL_replace_19 : decode cL_replace 19 = .ok (.ireturn, 1) := by decide +kernel
theorem dL_replace_20 : decode cL_replace 20 = .ok (.astore 5, 2) := by decide +kernel
theorem dL_replace_22 : decode cL_replace 22 = .ok (.iconst 2, 1) := by decide +kernel
theorem dL_replace_23 : decode cL_replace 23 = .ok (.ireturn, 1) := by decide +kernel
theorem dL_replace_24 : decode cL_replace 24 = .ok (.iconst 0, 1) := by decide +kernel
theorem dL_replace_25 : decode cL_replace 25 = .ok (.ireturn, 1) := by decide +kernel
theorem dL_replaceIf_0 : decode cL_replaceIf 0 = .ok (.aload 5, 2) := by decide +kernel
theorem dL_replaceIf_2 : decode cL_replaceIf 2 = .ok (.aload_n 0, 1) := by decide +kernel
theorem dL_replaceIf_3 : decode cL_replaceIf 3 = .ok (.iload_n 1, 1) := by decide +kernel
theorem dL_replaceIf_4 : decode cL_replaceIf 4 = .ok (.iload_n 2, 1) := by decide +kernel
theorem dL_replaceIf_5 : decode cL_replaceIf 5 = .ok (.iload_n 3, 1) := by decide +kernel
theorem dL_replaceIf_6 : decode cL_replaceIf 6 = .ok (.iload 4, 2) := by decide +kernel
theorem dL_replaceIf_8 : decode cL_replaceIf 8 = .ok (.invokevirtual 61, 3) := by decide +kernel
theorem dL_replaceIf_11 : decode cL_replaceIf 11 = .ok (.ifCond .eq 7, 3) := by decide +kernel
theorem dL_replaceIf_14 : decode cL_replaceIf 14 = .ok (.lconst 1, 1) := by decide +kernel
theorem dL_replaceIf_15 : decode cL_replaceIf 15 = .ok (.goto 4, 3) := by decide +kernel
theorem dL_replaceIf_18 : decode cL_replaceIf 18 = .ok (.lconst 0, 1) := by decide +kernel
theorem dL_replaceIf_19 : decode cL_replaceIf 19 = .ok (.putfield 13, 3) := by decide +kernel
theorem dL_replaceIf_22 : decode cL_replaceIf 22 = .ok (.goto 11, 3) := by decide +kernel
theorem dL_replaceIf_25 : decode cL_replaceIf 25 = .ok (.astore 6, 2) := by decide +kernel
theorem dL_replaceIf_27 : decode cL_replaceIf 27 = .ok (.iconst 1, 1) := by decide +kernel
theorem dL_replaceIf_28 : decode cL_replaceIf 28 = .ok (.ireturn, 1) := by decide +kernel
theorem dL_replaceIf_29 : decode cL_replaceIf 29 = .ok (.astore 6, 2) := by decide +kernel
theorem dL_replaceIf_31 : decode cL_replaceIf 31 = .ok (.iconst 2, 1) := by decide +kernel
theorem dL_replaceIf_32 : decode cL_replaceIf 32 = .ok (.ireturn, 1) := by decide +kernel
theorem dL_replaceIf_33 : decode cL_replaceIf 33 = .ok (.iconst 0, 1) := by decide +kernel
theorem dL_replaceIf_34 : decode cL_replaceIf 34 = .ok (.ireturn, 1) := by decide +kernel
theorem dL_removePair_0 : decode cL_removePair 0 = .ok (.aload 4, 2) := by decide +kernel
theorem dL_removePair_2 : decode cL_removePair 2 = .ok (.aload_n 0, 1) := by decide +kernel
theorem dL_removePair_3 : decode cL_removePair 3 = .ok (.iload_n 1, 1) := by decide +kernel
theorem dL_removePair_4 : decode cL_removePair 4 = .ok (.iload_n 2, 1) := by decide +kernel
theorem dL_removePair_5 : decode cL_removePair 5 = .ok (.iload_n 3, 1) := by decide +kernel
theorem dL_removePair_6 : decode cL_removePair 6 = .ok (.invokevirtual 65, 3) := by decide +kernel
theorem dL_removePair_9 : decode cL_removePair 9 = .ok (.ifCond .eq 7, 3) := by decide +kernel
theorem dL_removePair_12 : decode cL_removePair 12 = .ok (.lconst 1, 1) := by decide +kernel
theorem dL_removePair_13 : decode cL_removePair 13 = .ok (.goto 4, 3) := by decide +kernel
theorem dL_removePair_16 : decode cL_removePair 16 = .ok (.lconst 0, 1) := by decide +kernel
theorem dL_removePair_17 : decode cL_removePair 17 = .ok (.putfield 13, 3) := by decide +kernel
theorem dL_removePair_20 : decode cL_removePair 20 = .ok (.goto 11, 3) := by decide +kernel
theorem dL_removePair_23 : decode cL_removePair 23 = .ok (.astore 5, 2) := by decide +kernel
theorem dL_removePair_25 : decode cL_removePair 25 = .ok (.iconst 1, 1) := by decide +kernel
theorem dL_removePair_26 : decode cL_removePair 26 = .ok (.ireturn, 1) := by decide +kernel
theorem dL_removePair_27 : decode cL_removePair 27 = .ok (.astore 5, 2) := by decide +kernel
theorem dL_removePair_29 : decode cL_removePair 29 = .ok (.iconst 2, 1) := by decide +kernel
theorem dL_removePair_30 : decode cL_removePair 30 = .ok (.ireturn, 1) := by decide +kernel
theorem dL_removePair_31 : decode cL_removePair 31 = .ok (.iconst 0, 1) := by decide +kernel
theorem dL_removePair_32 : decode cL_removePair 32 = .ok (.ireturn, 1) := by decide +kernel
theorem dL_computeIfAbsent_0 : decode cL_computeIfAbsent 0 = .ok (.aload 5, 2) := by decide +kernel
theorem dL_computeIfAbsent_2 : decode cL_computeIfAbsent 2 = .ok (.aload_n 0, 1) := by decide +kernel
theorem dL_computeIfAbsent_3 : decode cL_computeIfAbsent 3 = .ok (.iload_n 1, 1) := by decide +kernel
theorem dL_computeIfAbsent_4 : decode cL_computeIfAbsent 4 = .ok (.iload_n 2, 1) := by decide +kernel
theorem dL_computeIfAbsent_5 : decode cL_computeIfAbsent 5 = .ok (.iload_n 3, 1) := by decide +kernel
theorem dL_computeIfAbsent_6 : decode cL_computeIfAbsent 6 = .ok (.iload 4, 2) := by decide +kernel
theorem dL_computeIfAbsent_8 : decode cL_computeIfAbsent 8 = .ok (.invokevirtual 69, 3) := by decide +kernel
theorem dL_computeIfAbsent_11 : decode cL_computeIfAbsent 11 = .ok (.i2l, 1) := by decide +kernel
theorem dL_computeIfAbsent_12 : decode cL_computeIfAbsent 12 = .ok (.putfield 13, 3) := by decide +kernel
theorem dL_computeIfAbsent_15 : decode cL_computeIfAbsent 15 = .ok (.goto 11, 3) := by decide +kernel
theorem dL_computeIfAbsent_18 : decode cL_computeIfAbsent 18 = .ok (.astore 6, 2) := by decide +kernel
theorem dL_computeIfAbsent_20 : decode cL_computeIfAbsent 20 = .ok (.iconst 1, 1) := by decide +kernel
theorem dL_computeIfAbsent_21 : decode cL_computeIfAbsent 21 = .ok (.ireturn, 1) := by decide +kernel
theorem dL_computeIfAbsent_22 : decode cL_computeIfAbsent 22 = .ok (.astore 6, 2) := by decide +kernel
theorem dL_computeIfAbsent_24 : decode cL_computeIfAbsent 24 = .ok (.iconst 2, 1) := by decide +kernel
theorem dL_computeIfAbsent_25 : decode cL_computeIfAbsent 25 = .ok (.ireturn, 1) := by decide +kernel
theorem dL_computeIfAbsent_26 : decode cL_computeIfAbsent 26 = .ok (.iconst 0, 1) := by decide +kernel
theorem dL_computeIfAbsent_27 : decode cL_computeIfAbsent 27 = .ok (.ireturn, 1) := by decide +kernel
theorem dL_computeIfPresent_0 : decode cL_computeIfPresent 0 = .ok (.aload 5, 2) := by decide +kernel
theorem dL_computeIfPresent_2 : decode cL_computeIfPresent 2 = .ok (.aload_n 0, 1) := by decide +kernel
theorem dL_computeIfPresent_3 : decode cL_computeIfPresent 3 = .ok (.iload_n 1, 1) := by decide +kernel
theorem dL_computeIfPresent_4 : decode cL_computeIfPresent 4 = .ok (.iload_n 2, 1) := by decide +kernel
theorem dL_computeIfPresent_5 : decode cL_computeIfPresent 5 = .ok (.iload_n 3, 1) := by decide +kernel
theorem dL_computeIfPresent_6 : decode cL_computeIfPresent 6 = .ok (.iload 4, 2) := by decide +kernel
theorem dL_computeIfPresent_8 : decode cL_computeIfPresent 8 = .ok (.invokevirtual 73, 3) := by decide +kernel
theorem dL_computeIfPresent_11 : decode cL_computeIfPresent 11 = .ok (.i2l, 1) := by decide +kernel
theorem dL_computeIfPresent_12 : decode cL_computeIfPresent 12 = .ok (.putfield 13, 3) := by decide +kernel
theorem dL_computeIfPresent_15 : decode cL_computeIfPresent 15 = .ok (.goto 11, 3) := by decide +kernel
theorem dL_computeIfPresent_18 : decode cL_computeIfPresent 18 = .ok (.astore 6, 2) := by decide +kernel
theorem dL_computeIfPresent_20 : decode cL_computeIfPresent 20 = .ok (.iconst 1, 1) := by decide +kernel
theorem dL_computeIfPresent_21 : decode cL_computeIfPresent 21 = .ok (.ireturn, 1) := by decide +kernel
theorem dL_computeIfPresent_22 : decode cL_computeIfPresent 22 = .ok (.astore 6, 2) := by decide +kernel
theorem dL_computeIfPresent_24 : decode cL_computeIfPresent 24 = .ok (.iconst 2, 1) := by decide +kernel
theorem dL_computeIfPresent_25 : decode cL_computeIfPresent 25 = .ok (.ireturn, 1) := by decide +kernel
theorem dL_computeIfPresent_26 : decode cL_computeIfPresent 26 = .ok (.iconst 0, 1) := by decide +kernel
theorem dL_computeIfPresent_27 : decode cL_computeIfPresent 27 = .ok (.ireturn, 1) := by decide +kernel
theorem dL_compute_0 : decode cL_compute 0 = .ok (.aload 5, 2) := by decide +kernel
theorem dL_compute_2 : decode cL_compute 2 = .ok (.aload_n 0, 1) := by decide +kernel
theorem dL_compute_3 : decode cL_compute 3 = .ok (.iload_n 1, 1) := by decide +kernel
theorem dL_compute_4 : decode cL_compute 4 = .ok (.iload_n 2, 1) := by decide +kernel
theorem dL_compute_5 : decode cL_compute 5 = .ok (.iload_n 3, 1) := by decide +kernel
theorem dL_compute_6 : decode cL_compute 6 = .ok (.iload 4, 2) := by decide +kernel
theorem dL_compute_8 : decode cL_compute 8 = .ok (.invokevirtual 76, 3) := by decide +kernel
theorem dL_compute_11 : decode cL_compute 11 = .ok (.i2l, 1) := by decide +kernel
theorem dL_compute_12 : decode cL_compute 12 = .ok (.putfield 13, 3) := by decide +kernel
theorem dL_compute_15 : decode cL_compute 15 = .ok (.goto 11, 3) := by decide +kernel
theorem dL_compute_18 : decode cL_compute 18 = .ok (.astore 6, 2) := by decide +kernel
theorem dL_compute_20 : decode cL_compute 20 = .ok (.iconst 1, 1) := by decide +kernel
theorem dL_compute_21 : decode cL_compute 21 = .ok (.ireturn, 1) := by decide +kernel
theorem dL_compute_22 : decode cL_compute 22 = .ok (.astore 6, 2) := by decide +kernel
theorem dL_compute_24 : decode cL_compute 24 = .ok (.iconst 2, 1) := by decide +kernel
theorem dL_compute_25 : decode cL_compute 25 = .ok (.ireturn, 1) := by decide +kernel
theorem dL_compute_26 : decode cL_compute 26 = .ok (.iconst 0, 1) := by decide +kernel
theorem dL_compute_27 : decode cL_compute 27 = .ok (.ireturn, 1) := by decide +kernel
theorem dL_merge_0 : decode cL_merge 0 = .ok (.aload 5, 2) := by decide +kernel
theorem dL_merge_2 : decode cL_merge 2 = .ok (.aload_n 0, 1) := by decide +kernel
theorem dL_merge_3 : decode cL_merge 3 = .ok (.iload_n 1, 1) := by decide +kernel
theorem dL_merge_4 : decode cL_merge 4 = .ok (.iload_n 2, 1) := by decide +kernel
theorem dL_merge_5 : decode cL_merge 5 = .ok (.iload_n 3, 1) := by decide +kernel
theorem dL_merge_6 : decode cL_merge 6 = .ok (.iload 4, 2) := by decide +kernel
theorem dL_merge_8 : decode cL_merge 8 = .ok (.invokevirtual 79, 3) := by decide +kernel
theorem dL_merge_11 : decode cL_merge 11 = .ok (.i2l, 1) := by decide +kernel
theorem dL_merge_12 : decode cL_merge 12 = .ok (.putfield 13, 3) := by decide +kernel
theorem dL_merge_15 : decode cL_merge 15 = .ok (.goto 11, 3) := by decide +kernel
theorem dL_merge_18 : decode cL_merge 18 = .ok (.astore 6, 2) := by decide +kernel
theorem dL_merge_20 : decode cL_merge 20 = .ok (.iconst 1, 1) := by decide +kernel
theorem dL_merge_21 : decode cL_merge 21 = .ok (.ireturn, 1) := by decide +kernel
theorem dL_merge_22 : decode cL_merge 22 = .ok (.astore 6, 2) := by decide +kernel
theorem dL_merge_24 : decode cL_merge 24 = .ok (.iconst 2, 1) := by decide +kernel
theorem dL_merge_25 : decode cL_merge 25 = .ok (.ireturn, 1) := by decide +kernel
theorem dL_merge_26 : decode cL_merge 26 = .ok (.iconst 0, 1) := by decide +kernel
theorem dL_merge_27 : decode cL_merge 27 = .ok (.ireturn, 1) := by decide +kernel
theorem dL_hearTable_0 : decode cL_hearTable 0 = .ok (.aload_n 3, 1) := by decide +kernel
theorem dL_hearTable_1 : decode cL_hearTable 1 = .ok (.aload_n 0, 1) := by decide +kernel
theorem dL_hearTable_2 : decode cL_hearTable 2 = .ok (.iload_n 1, 1) := by decide +kernel
theorem dL_hearTable_3 : decode cL_hearTable 3 = .ok (.iload_n 2, 1) := by decide +kernel
theorem dL_hearTable_4 : decode cL_hearTable 4 = .ok (.invokevirtual 82, 3) := by decide +kernel
theorem dL_hearTable_7 : decode cL_hearTable 7 = .ok (.i2l, 1) := by decide +kernel
theorem dL_hearTable_8 : decode cL_hearTable 8 = .ok (.putfield 13, 3) := by decide +kernel
theorem dL_hearTable_11 : decode cL_hearTable 11 = .ok (.goto 7, 3) := by decide +kernel
theorem dL_hearTable_14 : decode cL_hearTable 14 = .ok (.astore 4, 2) := by decide +kernel
theorem dL_hearTable_16 : decode cL_hearTable 16 = .ok (.iconst 1, 1) := by decide +kernel
theorem dL_hearTable_17 : decode cL_hearTable 17 = .ok (.ireturn, 1) := by decide +kernel
theorem dL_hearTable_18 : decode cL_hearTable 18 = .ok (.iconst 0, 1) := by decide +kernel
theorem dL_hearTable_19 : decode cL_hearTable 19 = .ok (.ireturn, 1) := by decide +kernel
theorem dL_replaceTable_0 : decode cL_replaceTable 0 = .ok (.aload 4, 2) := by decide +kernel
theorem dL_replaceTable_2 : decode cL_replaceTable 2 = .ok (.aload_n 0, 1) := by decide +kernel
theorem dL_replaceTable_3 : decode cL_replaceTable 3 = .ok (.iload_n 1, 1) := by decide +kernel
theorem dL_replaceTable_4 : decode cL_replaceTable 4 = .ok (.iload_n 2, 1) := by decide +kernel
theorem dL_replaceTable_5 : decode cL_replaceTable 5 = .ok (.iload_n 3, 1) := by decide +kernel
theorem dL_replaceTable_6 : decode cL_replaceTable 6 = .ok (.invokevirtual 85, 3) := by decide +kernel
theorem dL_replaceTable_9 : decode cL_replaceTable 9 = .ok (.i2l, 1) := by decide +kernel
theorem dL_replaceTable_10 : decode cL_replaceTable 10 = .ok (.putfield 13, 3) := by decide +kernel
theorem dL_replaceTable_13 : decode cL_replaceTable 13 = .ok (.goto 11, 3) := by decide +kernel
theorem dL_replaceTable_16 : decode cL_replaceTable 16 = .ok (.astore 5, 2) := by decide +kernel
theorem dL_replaceTable_18 : decode cL_replaceTable 18 = .ok (.iconst 1, 1) := by decide +kernel
theorem dL_replaceTable_19 : decode cL_replaceTable 19 = .ok (.ireturn, 1) := by decide +kernel
theorem dL_replaceTable_20 : decode cL_replaceTable 20 = .ok (.astore 5, 2) := by decide +kernel
theorem dL_replaceTable_22 : decode cL_replaceTable 22 = .ok (.iconst 2, 1) := by decide +kernel
theorem dL_replaceTable_23 : decode cL_replaceTable 23 = .ok (.ireturn, 1) := by decide +kernel
theorem dL_replaceTable_24 : decode cL_replaceTable 24 = .ok (.iconst 0, 1) := by decide +kernel
theorem dL_replaceTable_25 : decode cL_replaceTable 25 = .ok (.ireturn, 1) := by decide +kernel
theorem dL_clear_0 : decode cL_clear 0 = .ok (.aload_n 2, 1) := by decide +kernel
theorem dL_clear_1 : decode cL_clear 1 = .ok (.aload_n 0, 1) := by decide +kernel
theorem dL_clear_2 : decode cL_clear 2 = .ok (.iload_n 1, 1) := by decide +kernel
theorem dL_clear_3 : decode cL_clear 3 = .ok (.invokevirtual 88, 3) := by decide +kernel
theorem dL_clear_6 : decode cL_clear 6 = .ok (.i2l, 1) := by decide +kernel
theorem dL_clear_7 : decode cL_clear 7 = .ok (.putfield 13, 3) := by decide +kernel
theorem dL_clear_10 : decode cL_clear 10 = .ok (.goto 6, 3) := by decide +kernel
theorem dL_clear_13 : decode cL_clear 13 = .ok (.astore_n 3, 1) := by decide +kernel
theorem dL_clear_14 : decode cL_clear 14 = .ok (.iconst 1, 1) := by decide +kernel
theorem dL_clear_15 : decode cL_clear 15 = .ok (.ireturn, 1) := by decide +kernel
theorem dL_clear_16 : decode cL_clear 16 = .ok (.iconst 0, 1) := by decide +kernel
theorem dL_clear_17 : decode cL_clear 17 = .ok (.ireturn, 1) := by decide +kernel
theorem dL_hearSpan_0 : decode cL_hearSpan 0 = .ok (.aload 5, 2) := by decide +kernel
theorem dL_hearSpan_2 : decode cL_hearSpan 2 = .ok (.aload_n 0, 1) := by decide +kernel
theorem dL_hearSpan_3 : decode cL_hearSpan 3 = .ok (.iload_n 1, 1) := by decide +kernel
theorem dL_hearSpan_4 : decode cL_hearSpan 4 = .ok (.iload_n 2, 1) := by decide +kernel
theorem dL_hearSpan_5 : decode cL_hearSpan 5 = .ok (.iload_n 3, 1) := by decide +kernel
theorem dL_hearSpan_6 : decode cL_hearSpan 6 = .ok (.iload 4, 2) := by decide +kernel
theorem dL_hearSpan_8 : decode cL_hearSpan 8 = .ok (.invokevirtual 91, 3) := by decide +kernel
theorem dL_hearSpan_11 : decode cL_hearSpan 11 = .ok (.i2l, 1) := by decide +kernel
theorem dL_hearSpan_12 : decode cL_hearSpan 12 = .ok (.putfield 13, 3) := by decide +kernel
theorem dL_hearSpan_15 : decode cL_hearSpan 15 = .ok (.goto 11, 3) := by decide +kernel
theorem dL_hearSpan_18 : decode cL_hearSpan 18 = .ok (.astore 6, 2) := by decide +kernel
theorem dL_hearSpan_20 : decode cL_hearSpan 20 = .ok (.iconst 1, 1) := by decide +kernel
theorem dL_hearSpan_21 : decode cL_hearSpan 21 = .ok (.ireturn, 1) := by decide +kernel
theorem dL_hearSpan_22 : decode cL_hearSpan 22 = .ok (.astore 6, 2) := by decide +kernel
theorem dL_hearSpan_24 : decode cL_hearSpan 24 = .ok (.iconst 2, 1) := by decide +kernel
theorem dL_hearSpan_25 : decode cL_hearSpan 25 = .ok (.ireturn, 1) := by decide +kernel
theorem dL_hearSpan_26 : decode cL_hearSpan 26 = .ok (.iconst 0, 1) := by decide +kernel
theorem dL_hearSpan_27 : decode cL_hearSpan 27 = .ok (.ireturn, 1) := by decide +kernel
theorem dL_hearSteps_0 : decode cL_hearSteps 0 = .ok (.aload 6, 2) := by decide +kernel
theorem dL_hearSteps_2 : decode cL_hearSteps 2 = .ok (.aload_n 0, 1) := by decide +kernel
theorem dL_hearSteps_3 : decode cL_hearSteps 3 = .ok (.iload_n 1, 1) := by decide +kernel
theorem dL_hearSteps_4 : decode cL_hearSteps 4 = .ok (.iload_n 2, 1) := by decide +kernel
theorem dL_hearSteps_5 : decode cL_hearSteps 5 = .ok (.iload_n 3, 1) := by decide +kernel
theorem dL_hearSteps_6 : decode cL_hearSteps 6 = .ok (.iload 4, 2) := by decide +kernel
theorem dL_hearSteps_8 : decode cL_hearSteps 8 = .ok (.iload 5, 2) := by decide +kernel
theorem dL_hearSteps_10 : decode cL_hearSteps 10 = .ok (.invokevirtual 94, 3) := by decide +kernel
theorem dL_hearSteps_13 : decode cL_hearSteps 13 = .ok (.i2l, 1) := by decide +kernel
theorem dL_hearSteps_14 : decode cL_hearSteps 14 = .ok (.putfield 13, 3) := by decide +kernel
theorem dL_hearSteps_17 : decode cL_hearSteps 17 = .ok (.goto 11, 3) := by decide +kernel
theorem dL_hearSteps_20 : decode cL_hearSteps 20 = .ok (.astore 7, 2) := by decide +kernel
theorem dL_hearSteps_22 : decode cL_hearSteps 22 = .ok (.iconst 1, 1) := by decide +kernel
theorem dL_hearSteps_23 : decode cL_hearSteps 23 = .ok (.ireturn, 1) := by decide +kernel
theorem dL_hearSteps_24 : decode cL_hearSteps 24 = .ok (.astore 7, 2) := by decide +kernel
theorem dL_hearSteps_26 : decode cL_hearSteps 26 = .ok (.iconst 2, 1) := by decide +kernel
theorem dL_hearSteps_27 : decode cL_hearSteps 27 = .ok (.ireturn, 1) := by decide +kernel
theorem dL_hearSteps_28 : decode cL_hearSteps 28 = .ok (.iconst 0, 1) := by decide +kernel
theorem dL_hearSteps_29 : decode cL_hearSteps 29 = .ok (.ireturn, 1) := by decide +kernel
theorem dL_takeStep_0 : decode cL_takeStep 0 = .ok (.aload_n 3, 1) := by decide +kernel
theorem dL_takeStep_1 : decode cL_takeStep 1 = .ok (.aload_n 0, 1) := by decide +kernel
theorem dL_takeStep_2 : decode cL_takeStep 2 = .ok (.iload_n 1, 1) := by decide +kernel
theorem dL_takeStep_3 : decode cL_takeStep 3 = .ok (.iload_n 2, 1) := by decide +kernel
theorem dL_takeStep_4 : decode cL_takeStep 4 = .ok (.invokevirtual 98, 3) := by decide +kernel
theorem dL_takeStep_7 : decode cL_takeStep 7 = .ok (.i2l, 1) := by decide +kernel
theorem dL_takeStep_8 : decode cL_takeStep 8 = .ok (.putfield 13, 3) := by decide +kernel
theorem dL_takeStep_11 : decode cL_takeStep 11 = .ok (.goto 7, 3) := by decide +kernel
theorem dL_takeStep_14 : decode cL_takeStep 14 = .ok (.astore 4, 2) := by decide +kernel
theorem dL_takeStep_16 : decode cL_takeStep 16 = .ok (.iconst 1, 1) := by decide +kernel
theorem dL_takeStep_17 : decode cL_takeStep 17 = .ok (.ireturn, 1) := by decide +kernel
theorem dL_takeStep_18 : decode cL_takeStep 18 = .ok (.iconst 0, 1) := by decide +kernel
theorem dL_takeStep_19 : decode cL_takeStep 19 = .ok (.ireturn, 1) := by decide +kernel
theorem dL_stop_0 : decode cL_stop 0 = .ok (.aload_n 3, 1) := by decide +kernel
theorem dL_stop_1 : decode cL_stop 1 = .ok (.aload_n 0, 1) := by decide +kernel
theorem dL_stop_2 : decode cL_stop 2 = .ok (.iload_n 1, 1) := by decide +kernel
theorem dL_stop_3 : decode cL_stop 3 = .ok (.iload_n 2, 1) := by decide +kernel
theorem dL_stop_4 : decode cL_stop 4 = .ok (.invokevirtual 101, 3) := by decide +kernel
theorem dL_stop_7 : decode cL_stop 7 = .ok (.i2l, 1) := by decide +kernel
theorem dL_stop_8 : decode cL_stop 8 = .ok (.putfield 13, 3) := by decide +kernel
theorem dL_stop_11 : decode cL_stop 11 = .ok (.goto 11, 3) := by decide +kernel
theorem dL_stop_14 : decode cL_stop 14 = .ok (.astore 4, 2) := by decide +kernel
theorem dL_stop_16 : decode cL_stop 16 = .ok (.iconst 1, 1) := by decide +kernel
theorem dL_stop_17 : decode cL_stop 17 = .ok (.ireturn, 1) := by decide +kernel
theorem dL_stop_18 : decode cL_stop 18 = .ok (.astore 4, 2) := by decide +kernel
theorem dL_stop_20 : decode cL_stop 20 = .ok (.iconst 2, 1) := by decide +kernel
theorem dL_stop_21 : decode cL_stop 21 = .ok (.ireturn, 1) := by decide +kernel
theorem dL_stop_22 : decode cL_stop 22 = .ok (.iconst 0, 1) := by decide +kernel
theorem dL_stop_23 : decode cL_stop 23 = .ok (.ireturn, 1) := by decide +kernel
theorem dL_forget_0 : decode cL_forget 0 = .ok (.aload_n 2, 1) := by decide +kernel
theorem dL_forget_1 : decode cL_forget 1 = .ok (.aload_n 0, 1) := by decide +kernel
theorem dL_forget_2 : decode cL_forget 2 = .ok (.iload_n 1, 1) := by decide +kernel
theorem dL_forget_3 : decode cL_forget 3 = .ok (.invokevirtual 104, 3) := by decide +kernel
theorem dL_forget_6 : decode cL_forget 6 = .ok (.i2l, 1) := by decide +kernel
theorem dL_forget_7 : decode cL_forget 7 = .ok (.putfield 13, 3) := by decide +kernel
theorem dL_forget_10 : decode cL_forget 10 = .ok (.goto 6, 3) := by decide +kernel
theorem dL_forget_13 : decode cL_forget 13 = .ok (.astore_n 3, 1) := by decide +kernel
theorem dL_forget_14 : decode cL_forget 14 = .ok (.iconst 1, 1) := by decide +kernel
theorem dL_forget_15 : decode cL_forget 15 = .ok (.ireturn, 1) := by decide +kernel
theorem dL_forget_16 : decode cL_forget 16 = .ok (.iconst 0, 1) := by decide +kernel
theorem dL_forget_17 : decode cL_forget 17 = .ok (.ireturn, 1) := by decide +kernel
theorem dL_heard_0 : decode cL_heard 0 = .ok (.aload_n 3, 1) := by decide +kernel
theorem dL_heard_1 : decode cL_heard 1 = .ok (.aload_n 0, 1) := by decide +kernel
theorem dL_heard_2 : decode cL_heard 2 = .ok (.iload_n 1, 1) := by decide +kernel
theorem dL_heard_3 : decode cL_heard 3 = .ok (.iload_n 2, 1) := by decide +kernel
theorem dL_heard_4 : decode cL_heard 4 = .ok (.invokevirtual 107, 3) := by decide +kernel
theorem dL_heard_7 : decode cL_heard 7 = .ok (.i2l, 1) := by decide +kernel
theorem dL_heard_8 : decode cL_heard 8 = .ok (.putfield 13, 3) := by decide +kernel
theorem dL_heard_11 : decode cL_heard 11 = .ok (.goto 11, 3) := by decide +kernel
theorem dL_heard_14 : decode cL_heard 14 = .ok (.astore 4, 2) := by decide +kernel
theorem dL_heard_16 : decode cL_heard 16 = .ok (.iconst 1, 1) := by decide +kernel
theorem dL_heard_17 : decode cL_heard 17 = .ok (.ireturn, 1) := by decide +kernel
theorem dL_heard_18 : decode cL_heard 18 = .ok (.astore 4, 2) := by decide +kernel
theorem dL_heard_20 : decode cL_heard 20 = .ok (.iconst 2, 1) := by decide +kernel
theorem dL_heard_21 : decode cL_heard 21 = .ok (.ireturn, 1) := by decide +kernel
theorem dL_heard_22 : decode cL_heard 22 = .ok (.iconst 0, 1) := by decide +kernel
theorem dL_heard_23 : decode cL_heard 23 = .ok (.ireturn, 1) := by decide +kernel
theorem dL_heardText_0 : decode cL_heardText 0 = .ok (.aload_n 2, 1) := by decide +kernel
theorem dL_heardText_1 : decode cL_heardText 1 = .ok (.aload_n 0, 1) := by decide +kernel
theorem dL_heardText_2 : decode cL_heardText 2 = .ok (.iload_n 1, 1) := by decide +kernel
theorem dL_heardText_3 : decode cL_heardText 3 = .ok (.invokevirtual 110, 3) := by decide +kernel
theorem dL_heardText_6 : decode cL_heardText 6 = .ok (.putfield 114, 3) := by decide +kernel
theorem dL_heardText_9 : decode cL_heardText 9 = .ok (.goto 6, 3) := by decide +kernel
theorem dL_heardText_12 : decode cL_heardText 12 = .ok (.astore_n 3, 1) := by decide +kernel
theorem dL_heardText_13 : decode cL_heardText 13 = .ok (.iconst 1, 1) := by decide +kernel
theorem dL_heardText_14 : decode cL_heardText 14 = .ok (.ireturn, 1) := by decide +kernel
theorem dL_heardText_15 : decode cL_heardText 15 = .ok (.iconst 0, 1) := by decide +kernel
theorem dL_heardText_16 : decode cL_heardText 16 = .ok (.ireturn, 1) := by decide +kernel
theorem dL_length_0 : decode cL_length 0 = .ok (.aload_n 2, 1) := by decide +kernel
theorem dL_length_1 : decode cL_length 1 = .ok (.aload_n 0, 1) := by decide +kernel
theorem dL_length_2 : decode cL_length 2 = .ok (.iload_n 1, 1) := by decide +kernel
theorem dL_length_3 : decode cL_length 3 = .ok (.invokevirtual 118, 3) := by decide +kernel
theorem dL_length_6 : decode cL_length 6 = .ok (.i2l, 1) := by decide +kernel
theorem dL_length_7 : decode cL_length 7 = .ok (.putfield 13, 3) := by decide +kernel
theorem dL_length_10 : decode cL_length 10 = .ok (.goto 6, 3) := by decide +kernel
theorem dL_length_13 : decode cL_length 13 = .ok (.astore_n 3, 1) := by decide +kernel
theorem dL_length_14 : decode cL_length 14 = .ok (.iconst 1, 1) := by decide +kernel
theorem dL_length_15 : decode cL_length 15 = .ok (.ireturn, 1) := by decide +kernel
theorem dL_length_16 : decode cL_length 16 = .ok (.iconst 0, 1) := by decide +kernel
theorem dL_length_17 : decode cL_length 17 = .ok (.ireturn, 1) := by decide +kernel
theorem dL_at_0 : decode cL_at 0 = .ok (.aload_n 3, 1) := by decide +kernel
theorem dL_at_1 : decode cL_at 1 = .ok (.aload_n 0, 1) := by decide +kernel
theorem dL_at_2 : decode cL_at 2 = .ok (.iload_n 1, 1) := by decide +kernel
theorem dL_at_3 : decode cL_at 3 = .ok (.iload_n 2, 1) := by decide +kernel
theorem dL_at_4 : decode cL_at 4 = .ok (.invokevirtual 121, 3) := by decide +kernel
theorem dL_at_7 : decode cL_at 7 = .ok (.i2l, 1) := by decide +kernel
theorem dL_at_8 : decode cL_at 8 = .ok (.putfield 13, 3) := by decide +kernel
theorem dL_at_11 : decode cL_at 11 = .ok (.goto 7, 3) := by decide +kernel
theorem dL_at_14 : decode cL_at 14 = .ok (.astore 4, 2) := by decide +kernel
theorem dL_at_16 : decode cL_at 16 = .ok (.iconst 1, 1) := by decide +kernel
theorem dL_at_17 : decode cL_at 17 = .ok (.ireturn, 1) := by decide +kernel
theorem dL_at_18 : decode cL_at 18 = .ok (.iconst 0, 1) := by decide +kernel
theorem dL_at_19 : decode cL_at 19 = .ok (.ireturn, 1) := by decide +kernel
theorem dL_rowText_0 : decode cL_rowText 0 = .ok (.aload_n 2, 1) := by decide +kernel
theorem dL_rowText_1 : decode cL_rowText 1 = .ok (.aload_n 0, 1) := by decide +kernel
theorem dL_rowText_2 : decode cL_rowText 2 = .ok (.iload_n 1, 1) := by decide +kernel
theorem dL_rowText_3 : decode cL_rowText 3 = .ok (.invokevirtual 124, 3) := by decide +kernel
theorem dL_rowText_6 : decode cL_rowText 6 = .ok (.putfield 114, 3) := by decide +kernel
theorem dL_rowText_9 : decode cL_rowText 9 = .ok (.goto 6, 3) := by decide +kernel
theorem dL_rowText_12 : decode cL_rowText 12 = .ok (.astore_n 3, 1) := by decide +kernel
theorem dL_rowText_13 : decode cL_rowText 13 = .ok (.iconst 1, 1) := by decide +kernel
theorem dL_rowText_14 : decode cL_rowText 14 = .ok (.ireturn, 1) := by decide +kernel
theorem dL_rowText_15 : decode cL_rowText 15 = .ok (.iconst 0, 1) := by decide +kernel
theorem dL_rowText_16 : decode cL_rowText 16 = .ok (.ireturn, 1) := by decide +kernel
theorem dL_isFixed_0 : decode cL_isFixed 0 = .ok (.aload_n 2, 1) := by decide +kernel
theorem dL_isFixed_1 : decode cL_isFixed 1 = .ok (.aload_n 0, 1) := by decide +kernel
theorem dL_isFixed_2 : decode cL_isFixed 2 = .ok (.iload_n 1, 1) := by decide +kernel
theorem dL_isFixed_3 : decode cL_isFixed 3 = .ok (.invokevirtual 127, 3) := by decide +kernel
theorem dL_isFixed_6 : decode cL_isFixed 6 = .ok (.ifCond .eq 7, 3) := by decide +kernel
theorem dL_isFixed_9 : decode cL_isFixed 9 = .ok (.lconst 1, 1) := by decide +kernel
theorem dL_isFixed_10 : decode cL_isFixed 10 = .ok (.goto 4, 3) := by decide +kernel
theorem dL_isFixed_13 : decode cL_isFixed 13 = .ok (.lconst 0, 1) := by decide +kernel
theorem dL_isFixed_14 : decode cL_isFixed 14 = .ok (.putfield 13, 3) := by decide +kernel
theorem dL_isFixed_17 : decode cL_isFixed 17 = .ok (.goto 6, 3) := by decide +kernel
theorem dL_isFixed_20 : decode cL_isFixed 20 = .ok (.astore_n 3, 1) := by decide +kernel
theorem dL_isFixed_21 : decode cL_isFixed 21 = .ok (.iconst 1, 1) := by decide +kernel
theorem dL_isFixed_22 : decode cL_isFixed 22 = .ok (.ireturn, 1) := by decide +kernel
theorem dL_isFixed_23 : decode cL_isFixed 23 = .ok (.iconst 0, 1) := by decide +kernel
theorem dL_isFixed_24 : decode cL_isFixed 24 = .ok (.ireturn, 1) := by decide +kernel
theorem dL_counts_0 : decode cL_counts 0 = .ok (.aload_n 3, 1) := by decide +kernel
theorem dL_counts_1 : decode cL_counts 1 = .ok (.aload_n 0, 1) := by decide +kernel
theorem dL_counts_2 : decode cL_counts 2 = .ok (.iload_n 1, 1) := by decide +kernel
theorem dL_counts_3 : decode cL_counts 3 = .ok (.iload_n 2, 1) := by decide +kernel
theorem dL_counts_4 : decode cL_counts 4 = .ok (.invokevirtual 131, 3) := by decide +kernel
theorem dL_counts_7 : decode cL_counts 7 = .ok (.i2l, 1) := by decide +kernel
theorem dL_counts_8 : decode cL_counts 8 = .ok (.putfield 13, 3) := by decide +kernel
theorem dL_counts_11 : decode cL_counts 11 = .ok (.goto 11, 3) := by decide +kernel
theorem dL_counts_14 : decode cL_counts 14 = .ok (.astore 4, 2) := by decide +kernel
theorem dL_counts_16 : decode cL_counts 16 = .ok (.iconst 1, 1) := by decide +kernel
theorem dL_counts_17 : decode cL_counts 17 = .ok (.ireturn, 1) := by decide +kernel
theorem dL_counts_18 : decode cL_counts 18 = .ok (.astore 4, 2) := by decide +kernel
theorem dL_counts_20 : decode cL_counts 20 = .ok (.iconst 2, 1) := by decide +kernel
theorem dL_counts_21 : decode cL_counts 21 = .ok (.ireturn, 1) := by decide +kernel
theorem dL_counts_22 : decode cL_counts 22 = .ok (.iconst 0, 1) := by decide +kernel
theorem dL_counts_23 : decode cL_counts 23 = .ok (.ireturn, 1) := by decide +kernel
theorem dL_shelfCounts_0 : decode cL_shelfCounts 0 = .ok (.aload_n 2, 1) := by decide +kernel
theorem dL_shelfCounts_1 : decode cL_shelfCounts 1 = .ok (.aload_n 0, 1) := by decide +kernel
theorem dL_shelfCounts_2 : decode cL_shelfCounts 2 = .ok (.iload_n 1, 1) := by decide +kernel
theorem dL_shelfCounts_3 : decode cL_shelfCounts 3 = .ok (.invokevirtual 134, 3) := by decide +kernel
theorem dL_shelfCounts_6 : decode cL_shelfCounts 6 = .ok (.i2l, 1) := by decide +kernel
theorem dL_shelfCounts_7 : decode cL_shelfCounts 7 = .ok (.putfield 13, 3) := by decide +kernel
theorem dL_shelfCounts_10 : decode cL_shelfCounts 10 = .ok (.goto 6, 3) := by decide +kernel
theorem dL_shelfCounts_13 : decode cL_shelfCounts 13 = .ok (.astore_n 3, 1) := by decide +kernel
theorem dL_shelfCounts_14 : decode cL_shelfCounts 14 = .ok (.iconst 1, 1) := by decide +kernel
theorem dL_shelfCounts_15 : decode cL_shelfCounts 15 = .ok (.ireturn, 1) := by decide +kernel
theorem dL_shelfCounts_16 : decode cL_shelfCounts 16 = .ok (.iconst 0, 1) := by decide +kernel
theorem dL_shelfCounts_17 : decode cL_shelfCounts 17 = .ok (.ireturn, 1) := by decide +kernel
theorem dL_get_0 : decode cL_get 0 = .ok (.aload_n 3, 1) := by decide +kernel
theorem dL_get_1 : decode cL_get 1 = .ok (.aload_n 0, 1) := by decide +kernel
theorem dL_get_2 : decode cL_get 2 = .ok (.iload_n 1, 1) := by decide +kernel
theorem dL_get_3 : decode cL_get 3 = .ok (.iload_n 2, 1) := by decide +kernel
theorem dL_get_4 : decode cL_get 4 = .ok (.invokevirtual 137, 3) := by decide +kernel
theorem dL_get_7 : decode cL_get 7 = .ok (.i2l, 1) := by decide +kernel
theorem dL_get_8 : decode cL_get 8 = .ok (.putfield 13, 3) := by decide +kernel
theorem dL_get_11 : decode cL_get 11 = .ok (.goto 11, 3) := by decide +kernel
theorem dL_get_14 : decode cL_get 14 = .ok (.astore 4, 2) := by decide +kernel
theorem dL_get_16 : decode cL_get 16 = .ok (.iconst 1, 1) := by decide +kernel
theorem dL_get_17 : decode cL_get 17 = .ok (.ireturn, 1) := by decide +kernel
theorem dL_get_18 : decode cL_get 18 = .ok (.astore 4, 2) := by decide +kernel
theorem dL_get_20 : decode cL_get 20 = .ok (.iconst 2, 1) := by decide +kernel
theorem dL_get_21 : decode cL_get 21 = .ok (.ireturn, 1) := by decide +kernel
theorem dL_get_22 : decode cL_get 22 = .ok (.iconst 0, 1) := by decide +kernel
theorem dL_get_23 : decode cL_get 23 = .ok (.ireturn, 1) := by decide +kernel
theorem dL_getOr_0 : decode cL_getOr 0 = .ok (.aload 4, 2) := by decide +kernel
theorem dL_getOr_2 : decode cL_getOr 2 = .ok (.aload_n 0, 1) := by decide +kernel
theorem dL_getOr_3 : decode cL_getOr 3 = .ok (.iload_n 1, 1) := by decide +kernel
theorem dL_getOr_4 : decode cL_getOr 4 = .ok (.iload_n 2, 1) := by decide +kernel
theorem dL_getOr_5 : decode cL_getOr 5 = .ok (.iload_n 3, 1) := by decide +kernel
theorem dL_getOr_6 : decode cL_getOr 6 = .ok (.invokevirtual 140, 3) := by decide +kernel
theorem dL_getOr_9 : decode cL_getOr 9 = .ok (.i2l, 1) := by decide +kernel
theorem dL_getOr_10 : decode cL_getOr 10 = .ok (.putfield 13, 3) := by decide +kernel
theorem dL_getOr_13 : decode cL_getOr 13 = .ok (.goto 11, 3) := by decide +kernel
theorem dL_getOr_16 : decode cL_getOr 16 = .ok (.astore 5, 2) := by decide +kernel
theorem dL_getOr_18 : decode cL_getOr 18 = .ok (.iconst 1, 1) := by decide +kernel
theorem dL_getOr_19 : decode cL_getOr 19 = .ok (.ireturn, 1) := by decide +kernel
theorem dL_getOr_20 : decode cL_getOr 20 = .ok (.astore 5, 2) := by decide +kernel
theorem dL_getOr_22 : decode cL_getOr 22 = .ok (.iconst 2, 1) := by decide +kernel
theorem dL_getOr_23 : decode cL_getOr 23 = .ok (.ireturn, 1) := by decide +kernel
theorem dL_getOr_24 : decode cL_getOr 24 = .ok (.iconst 0, 1) := by decide +kernel
theorem dL_getOr_25 : decode cL_getOr 25 = .ok (.ireturn, 1) := by decide +kernel
theorem dL_has_0 : decode cL_has 0 = .ok (.aload_n 3, 1) := by decide +kernel
theorem dL_has_1 : decode cL_has 1 = .ok (.aload_n 0, 1) := by decide +kernel
theorem dL_has_2 : decode cL_has 2 = .ok (.iload_n 1, 1) := by decide +kernel
theorem dL_has_3 : decode cL_has 3 = .ok (.iload_n 2, 1) := by decide +kernel
theorem dL_has_4 : decode cL_has 4 = .ok (.invokevirtual 143, 3) := by decide +kernel
theorem dL_has_7 : decode cL_has 7 = .ok (.ifCond .eq 7, 3) := by decide +kernel
theorem dL_has_10 : decode cL_has 10 = .ok (.lconst 1, 1) := by decide +kernel
theorem dL_has_11 : decode cL_has 11 = .ok (.goto 4, 3) := by decide +kernel
theorem dL_has_14 : decode cL_has 14 = .ok (.lconst 0, 1) := by decide +kernel
theorem dL_has_15 : decode cL_has 15 = .ok (.putfield 13, 3) := by decide +kernel
theorem dL_has_18 : decode cL_has 18 = .ok (.goto 11, 3) := by decide +kernel
theorem dL_has_21 : decode cL_has 21 = .ok (.astore 4, 2) := by decide +kernel
theorem dL_has_23 : decode cL_has 23 = .ok (.iconst 1, 1) := by decide +kernel
theorem dL_has_24 : decode cL_has 24 = .ok (.ireturn, 1) := by decide +kernel
theorem dL_has_25 : decode cL_has 25 = .ok (.astore 4, 2) := by decide +kernel
theorem dL_has_27 : decode cL_has 27 = .ok (.iconst 2, 1) := by decide +kernel
theorem dL_has_28 : decode cL_has 28 = .ok (.ireturn, 1) := by decide +kernel
theorem dL_has_29 : decode cL_has 29 = .ok (.iconst 0, 1) := by decide +kernel
theorem dL_has_30 : decode cL_has 30 = .ok (.ireturn, 1) := by decide +kernel
theorem dL_size_0 : decode cL_size 0 = .ok (.aload_n 2, 1) := by decide +kernel
theorem dL_size_1 : decode cL_size 1 = .ok (.aload_n 0, 1) := by decide +kernel
theorem dL_size_2 : decode cL_size 2 = .ok (.iload_n 1, 1) := by decide +kernel
theorem dL_size_3 : decode cL_size 3 = .ok (.invokevirtual 147, 3) := by decide +kernel
theorem dL_size_6 : decode cL_size 6 = .ok (.i2l, 1) := by decide +kernel
theorem dL_size_7 : decode cL_size 7 = .ok (.putfield 13, 3) := by decide +kernel
theorem dL_size_10 : decode cL_size 10 = .ok (.goto 6, 3) := by decide +kernel
theorem dL_size_13 : decode cL_size 13 = .ok (.astore_n 3, 1) := by decide +kernel
theorem dL_size_14 : decode cL_size 14 = .ok (.iconst 1, 1) := by decide +kernel
theorem dL_size_15 : decode cL_size 15 = .ok (.ireturn, 1) := by decide +kernel
theorem dL_size_16 : decode cL_size 16 = .ok (.iconst 0, 1) := by decide +kernel
theorem dL_size_17 : decode cL_size 17 = .ok (.ireturn, 1) := by decide +kernel
theorem dL_text_0 : decode cL_text 0 = .ok (.aload_n 2, 1) := by decide +kernel
theorem dL_text_1 : decode cL_text 1 = .ok (.aload_n 0, 1) := by decide +kernel
theorem dL_text_2 : decode cL_text 2 = .ok (.iload_n 1, 1) := by decide +kernel
theorem dL_text_3 : decode cL_text 3 = .ok (.invokevirtual 150, 3) := by decide +kernel
theorem dL_text_6 : decode cL_text 6 = .ok (.putfield 114, 3) := by decide +kernel
theorem dL_text_9 : decode cL_text 9 = .ok (.goto 6, 3) := by decide +kernel
theorem dL_text_12 : decode cL_text 12 = .ok (.astore_n 3, 1) := by decide +kernel
theorem dL_text_13 : decode cL_text 13 = .ok (.iconst 1, 1) := by decide +kernel
theorem dL_text_14 : decode cL_text 14 = .ok (.ireturn, 1) := by decide +kernel
theorem dL_text_15 : decode cL_text 15 = .ok (.iconst 0, 1) := by decide +kernel
theorem dL_text_16 : decode cL_text 16 = .ok (.ireturn, 1) := by decide +kernel
theorem dL_areLike_0 : decode cL_areLike 0 = .ok (.aload_n 3, 1) := by decide +kernel
theorem dL_areLike_1 : decode cL_areLike 1 = .ok (.aload_n 0, 1) := by decide +kernel
theorem dL_areLike_2 : decode cL_areLike 2 = .ok (.iload_n 1, 1) := by decide +kernel
theorem dL_areLike_3 : decode cL_areLike 3 = .ok (.iload_n 2, 1) := by decide +kernel
theorem dL_areLike_4 : decode cL_areLike 4 = .ok (.invokevirtual 153, 3) := by decide +kernel
theorem dL_areLike_7 : decode cL_areLike 7 = .ok (.ifCond .eq 7, 3) := by decide +kernel
theorem dL_areLike_10 : decode cL_areLike 10 = .ok (.lconst 1, 1) := by decide +kernel
theorem dL_areLike_11 : decode cL_areLike 11 = .ok (.goto 4, 3) := by decide +kernel
theorem dL_areLike_14 : decode cL_areLike 14 = .ok (.lconst 0, 1) := by decide +kernel
theorem dL_areLike_15 : decode cL_areLike 15 = .ok (.putfield 13, 3) := by decide +kernel
theorem dL_areLike_18 : decode cL_areLike 18 = .ok (.goto 7, 3) := by decide +kernel
theorem dL_areLike_21 : decode cL_areLike 21 = .ok (.astore 4, 2) := by decide +kernel
theorem dL_areLike_23 : decode cL_areLike 23 = .ok (.iconst 1, 1) := by decide +kernel
theorem dL_areLike_24 : decode cL_areLike 24 = .ok (.ireturn, 1) := by decide +kernel
theorem dL_areLike_25 : decode cL_areLike 25 = .ok (.iconst 0, 1) := by decide +kernel
theorem dL_areLike_26 : decode cL_areLike 26 = .ok (.ireturn, 1) := by decide +kernel
theorem dL_given_0 : decode cL_given 0 = .ok (.aload 5, 2) := by decide +kernel
theorem dL_given_2 : decode cL_given 2 = .ok (.aload_n 0, 1) := by decide +kernel
theorem dL_given_3 : decode cL_given 3 = .ok (.iload_n 1, 1) := by decide +kernel
theorem dL_given_4 : decode cL_given 4 = .ok (.iload_n 2, 1) := by decide +kernel
theorem dL_given_5 : decode cL_given 5 = .ok (.iload_n 3, 1) := by decide +kernel
theorem dL_given_6 : decode cL_given 6 = .ok (.iload 4, 2) := by decide +kernel
theorem dL_given_8 : decode cL_given 8 = .ok (.invokevirtual 156, 3) := by decide +kernel
theorem dL_given_11 : decode cL_given 11 = .ok (.i2l, 1) := by decide +kernel
theorem dL_given_12 : decode cL_given 12 = .ok (.putfield 13, 3) := by decide +kernel
theorem dL_given_15 : decode cL_given 15 = .ok (.goto 7, 3) := by decide +kernel
theorem dL_given_18 : decode cL_given 18 = .ok (.astore 6, 2) := by decide +kernel
theorem dL_given_20 : decode cL_given 20 = .ok (.iconst 1, 1) := by decide +kernel
theorem dL_given_21 : decode cL_given 21 = .ok (.ireturn, 1) := by decide +kernel
theorem dL_given_22 : decode cL_given 22 = .ok (.iconst 0, 1) := by decide +kernel
theorem dL_given_23 : decode cL_given 23 = .ok (.ireturn, 1) := by decide +kernel
theorem dL_tested_0 : decode cL_tested 0 = .ok (.aload 4, 2) := by decide +kernel
theorem dL_tested_2 : decode cL_tested 2 = .ok (.aload_n 0, 1) := by decide +kernel
theorem dL_tested_3 : decode cL_tested 3 = .ok (.iload_n 1, 1) := by decide +kernel
theorem dL_tested_4 : decode cL_tested 4 = .ok (.iload_n 2, 1) := by decide +kernel
theorem dL_tested_5 : decode cL_tested 5 = .ok (.iload_n 3, 1) := by decide +kernel
theorem dL_tested_6 : decode cL_tested 6 = .ok (.invokevirtual 159, 3) := by decide +kernel
theorem dL_tested_9 : decode cL_tested 9 = .ok (.i2l, 1) := by decide +kernel
theorem dL_tested_10 : decode cL_tested 10 = .ok (.putfield 13, 3) := by decide +kernel
theorem dL_tested_13 : decode cL_tested 13 = .ok (.goto 7, 3) := by decide +kernel
theorem dL_tested_16 : decode cL_tested 16 = .ok (.astore 5, 2) := by decide +kernel
theorem dL_tested_18 : decode cL_tested 18 = .ok (.iconst 1, 1) := by decide +kernel
theorem dL_tested_19 : decode cL_tested 19 = .ok (.ireturn, 1) := by decide +kernel
theorem dL_tested_20 : decode cL_tested 20 = .ok (.iconst 0, 1) := by decide +kernel
theorem dL_tested_21 : decode cL_tested 21 = .ok (.ireturn, 1) := by decide +kernel
theorem dL_house_0 : decode cL_house 0 = .ok (.aload_n 2, 1) := by decide +kernel
theorem dL_house_1 : decode cL_house 1 = .ok (.aload_n 0, 1) := by decide +kernel
theorem dL_house_2 : decode cL_house 2 = .ok (.iload_n 1, 1) := by decide +kernel
theorem dL_house_3 : decode cL_house 3 = .ok (.invokevirtual 162, 3) := by decide +kernel
theorem dL_house_6 : decode cL_house 6 = .ok (.i2l, 1) := by decide +kernel
theorem dL_house_7 : decode cL_house 7 = .ok (.putfield 13, 3) := by decide +kernel
theorem dL_house_10 : decode cL_house 10 = .ok (.goto 6, 3) := by decide +kernel
theorem dL_house_13 : decode cL_house 13 = .ok (.astore_n 3, 1) := by decide +kernel
theorem dL_house_14 : decode cL_house 14 = .ok (.iconst 1, 1) := by decide +kernel
theorem dL_house_15 : decode cL_house 15 = .ok (.ireturn, 1) := by decide +kernel
theorem dL_house_16 : decode cL_house 16 = .ok (.iconst 0, 1) := by decide +kernel
theorem dL_house_17 : decode cL_house 17 = .ok (.ireturn, 1) := by decide +kernel
theorem dL_law_0 : decode cL_law 0 = .ok (.new 8, 3) := dk_o0 (dk_u1 (b := 187) ((dkg_0 0).trans rfl)) (dk_u2 (dk_u1 (b := 0) ((dkg_0 1).trans rfl)) (dk_u1 (b := 8) ((dkg_0 2).trans rfl)))
theorem dL_law_3 : decode cL_law 3 = .ok (.dup, 1) := dk_o1 (dk_u1 (b := 89) ((dkg_0 3).trans rfl))
theorem dL_law_4 : decode cL_law 4 = .ok (.invokespecial 165, 3) := dk_o2 (dk_u1 (b := 183) ((dkg_0 4).trans rfl)) (dk_u2 (dk_u1 (b := 0) ((dkg_0 5).trans rfl)) (dk_u1 (b := 165) ((dkg_0 6).trans rfl)))
theorem dL_law_7 : decode cL_law 7 = .ok (.astore_n 1, 1) := dk_o3 (dk_u1 (b := 76) ((dkg_0 7).trans rfl))
theorem dL_law_8 : decode cL_law 8 = .ok (.new 166, 3) := dk_o0 (dk_u1 (b := 187) ((dkg_0 8).trans rfl)) (dk_u2 (dk_u1 (b := 0) ((dkg_0 9).trans rfl)) (dk_u1 (b := 166) ((dkg_0 10).trans rfl)))
theorem dL_law_11 : decode cL_law 11 = .ok (.dup, 1) := dk_o1 (dk_u1 (b := 89) ((dkg_0 11).trans rfl))
theorem dL_law_12 : decode cL_law 12 = .ok (.invokespecial 168, 3) := dk_o2 (dk_u1 (b := 183) ((dkg_0 12).trans rfl)) (dk_u2 (dk_u1 (b := 0) ((dkg_0 13).trans rfl)) (dk_u1 (b := 168) ((dkg_0 14).trans rfl)))
theorem dL_law_15 : decode cL_law 15 = .ok (.astore_n 2, 1) := dk_o4 (dk_u1 (b := 77) ((dkg_0 15).trans rfl))
theorem dL_law_16 : decode cL_law 16 = .ok (.new 14, 3) := dk_o0 (dk_u1 (b := 187) ((dkg_0 16).trans rfl)) (dk_u2 (dk_u1 (b := 0) ((dkg_0 17).trans rfl)) (dk_u1 (b := 14) ((dkg_0 18).trans rfl)))
theorem dL_law_19 : decode cL_law 19 = .ok (.dup, 1) := dk_o1 (dk_u1 (b := 89) ((dkg_0 19).trans rfl))
theorem dL_law_20 : decode cL_law 20 = .ok (.invokespecial 169, 3) := dk_o2 (dk_u1 (b := 183) ((dkg_0 20).trans rfl)) (dk_u2 (dk_u1 (b := 0) ((dkg_0 21).trans rfl)) (dk_u1 (b := 169) ((dkg_0 22).trans rfl)))
theorem dL_law_23 : decode cL_law 23 = .ok (.astore_n 3, 1) := dk_o5 (dk_u1 (b := 78) ((dkg_0 23).trans rfl))
theorem dL_law_24 : decode cL_law 24 = .ok (.iconst 0, 1) := dk_o6 (dk_u1 (b := 3) ((dkg_0 24).trans rfl))
theorem dL_law_25 : decode cL_law 25 = .ok (.istore 4, 2) := dk_o7 (dk_u1 (b := 54) ((dkg_0 25).trans rfl)) (dk_u1 (b := 4) ((dkg_0 26).trans rfl))
theorem dL_law_27 : decode cL_law 27 = .ok (.iload 4, 2) := dk_o8 (dk_u1 (b := 21) ((dkg_0 27).trans rfl)) (dk_u1 (b := 4) ((dkg_0 28).trans rfl))
theorem dL_law_29 : decode cL_law 29 = .ok (.aload_n 0, 1) := dk_o9 (dk_u1 (b := 42) ((dkg_0 29).trans rfl))
theorem dL_law_30 : decode cL_law 30 = .ok (.arraylength, 1) := dk_o10 (dk_u1 (b := 190) ((dkg_0 30).trans rfl))
theorem dL_law_31 : decode cL_law 31 = .ok (.bipush 6, 2) := dk_o11 (dk_u1 (b := 16) ((dkg_0 31).trans rfl)) (dk_s1 (dk_u1 (b := 6) ((dkg_0 32).trans rfl)) (by decide +kernel))
theorem dL_law_33 : decode cL_law 33 = .ok (.isub, 1) := dk_o12 (dk_u1 (b := 100) ((dkg_0 33).trans rfl))
theorem dL_law_34 : decode cL_law 34 = .ok (.if_icmp .gt 2229, 3) := dk_o13 (dk_u1 (b := 163) ((dkg_0 34).trans rfl)) (dk_s2 (dk_u2 (dk_u1 (b := 8) ((dkg_0 35).trans rfl)) (dk_u1 (b := 181) ((dkg_0 36).trans rfl))) (by decide +kernel))
theorem dL_law_37 : decode cL_law 37 = .ok (.aload_n 0, 1) := dk_o9 (dk_u1 (b := 42) ((dkg_0 37).trans rfl))
theorem dL_law_38 : decode cL_law 38 = .ok (.iload 4, 2) := dk_o8 (dk_u1 (b := 21) ((dkg_0 38).trans rfl)) (dk_u1 (b := 4) ((dkg_0 39).trans rfl))
theorem dL_law_40 : decode cL_law 40 = .ok (.iaload, 1) := dk_o14 (dk_u1 (b := 46) ((dkg_0 40).trans rfl))
theorem dL_law_41 : decode cL_law 41 = .ok (.bipush 63, 2) := dk_o11 (dk_u1 (b := 16) ((dkg_0 41).trans rfl)) (dk_s1 (dk_u1 (b := 63) ((dkg_0 42).trans rfl)) (by decide +kernel))
theorem dL_law_43 : decode cL_law 43 = .ok (.iand, 1) := dk_o15 (dk_u1 (b := 126) ((dkg_0 43).trans rfl))
theorem dL_law_44 : decode cL_law 44 = .ok (.tableswitch 2213 0 46 #[204, 244, 284, 340, 409, 461, 513, 565, 593, 645, 685, 737, 789, 853, 905, 969, 1033, 1097, 1161, 1201, 1253, 1281, 1345, 1421, 1461, 1501, 1529, 1569, 1597, 1625, 1665, 1693, 1721, 1761, 1789, 1802, 1842, 1894, 1934, 1962, 1990, 2030, 2094, 2146, 2159, 2187, 2200], 204) := by decide +kernel
theorem dL_law_248 : decode cL_law 248 = .ok (.aload_n 1, 1) := dk_o16 (dk_u1 (b := 43) ((dkg_3 56).trans rfl))
theorem dL_law_249 : decode cL_law 249 = .ok (.aload_n 0, 1) := dk_o9 (dk_u1 (b := 42) ((dkg_3 57).trans rfl))
theorem dL_law_250 : decode cL_law 250 = .ok (.iload 4, 2) := dk_o8 (dk_u1 (b := 21) ((dkg_3 58).trans rfl)) (dk_u1 (b := 4) ((dkg_3 59).trans rfl))
theorem dL_law_252 : decode cL_law 252 = .ok (.iconst 1, 1) := dk_o17 (dk_u1 (b := 4) ((dkg_3 60).trans rfl))
theorem dL_law_253 : decode cL_law 253 = .ok (.iadd, 1) := dk_o18 (dk_u1 (b := 96) ((dkg_3 61).trans rfl))
theorem dL_law_254 : decode cL_law 254 = .ok (.iaload, 1) := dk_o14 (dk_u1 (b := 46) ((dkg_3 62).trans rfl))
theorem dL_law_255 : decode cL_law 255 = .ok (.aload_n 0, 1) := dk_o9 (dk_u1 (b := 42) ((dkg_3 63).trans rfl))
theorem dL_law_256 : decode cL_law 256 = .ok (.iload 4, 2) := dk_o8 (dk_u1 (b := 21) ((dkg_4 0).trans rfl)) (dk_u1 (b := 4) ((dkg_4 1).trans rfl))
theorem dL_law_258 : decode cL_law 258 = .ok (.iconst 2, 1) := dk_o19 (dk_u1 (b := 5) ((dkg_4 2).trans rfl))
theorem dL_law_259 : decode cL_law 259 = .ok (.iadd, 1) := dk_o18 (dk_u1 (b := 96) ((dkg_4 3).trans rfl))
theorem dL_law_260 : decode cL_law 260 = .ok (.iaload, 1) := dk_o14 (dk_u1 (b := 46) ((dkg_4 4).trans rfl))
theorem dL_law_261 : decode cL_law 261 = .ok (.aload_n 3, 1) := dk_o20 (dk_u1 (b := 45) ((dkg_4 5).trans rfl))
theorem dL_law_262 : decode cL_law 262 = .ok (.invokestatic 170, 3) := dk_o21 (dk_u1 (b := 184) ((dkg_4 6).trans rfl)) (dk_u2 (dk_u1 (b := 0) ((dkg_4 7).trans rfl)) (dk_u1 (b := 170) ((dkg_4 8).trans rfl)))
theorem dL_law_265 : decode cL_law 265 = .ok (.istore 5, 2) := dk_o7 (dk_u1 (b := 54) ((dkg_4 9).trans rfl)) (dk_u1 (b := 5) ((dkg_4 10).trans rfl))
theorem dL_law_267 : decode cL_law 267 = .ok (.aload_n 2, 1) := dk_o22 (dk_u1 (b := 44) ((dkg_4 11).trans rfl))
theorem dL_law_268 : decode cL_law 268 = .ok (.aload_n 0, 1) := dk_o9 (dk_u1 (b := 42) ((dkg_4 12).trans rfl))
theorem dL_law_269 : decode cL_law 269 = .ok (.iload 4, 2) := dk_o8 (dk_u1 (b := 21) ((dkg_4 13).trans rfl)) (dk_u1 (b := 4) ((dkg_4 14).trans rfl))
theorem dL_law_271 : decode cL_law 271 = .ok (.iconst 1, 1) := dk_o17 (dk_u1 (b := 4) ((dkg_4 15).trans rfl))
theorem dL_law_272 : decode cL_law 272 = .ok (.iadd, 1) := dk_o18 (dk_u1 (b := 96) ((dkg_4 16).trans rfl))
theorem dL_law_273 : decode cL_law 273 = .ok (.iaload, 1) := dk_o14 (dk_u1 (b := 46) ((dkg_4 17).trans rfl))
theorem dL_law_274 : decode cL_law 274 = .ok (.aload_n 0, 1) := dk_o9 (dk_u1 (b := 42) ((dkg_4 18).trans rfl))
theorem dL_law_275 : decode cL_law 275 = .ok (.iload 4, 2) := dk_o8 (dk_u1 (b := 21) ((dkg_4 19).trans rfl)) (dk_u1 (b := 4) ((dkg_4 20).trans rfl))
theorem dL_law_277 : decode cL_law 277 = .ok (.iconst 2, 1) := dk_o19 (dk_u1 (b := 5) ((dkg_4 21).trans rfl))
theorem dL_law_278 : decode cL_law 278 = .ok (.iadd, 1) := dk_o18 (dk_u1 (b := 96) ((dkg_4 22).trans rfl))
theorem dL_law_279 : decode cL_law 279 = .ok (.iaload, 1) := dk_o14 (dk_u1 (b := 46) ((dkg_4 23).trans rfl))
theorem dL_law_280 : decode cL_law 280 = .ok (.invokevirtual 175, 3) := dk_o23 (dk_u1 (b := 182) ((dkg_4 24).trans rfl)) (dk_u2 (dk_u1 (b := 0) ((dkg_4 25).trans rfl)) (dk_u1 (b := 175) ((dkg_4 26).trans rfl)))
theorem dL_law_283 : decode cL_law 283 = .ok (.istore 6, 2) := dk_o7 (dk_u1 (b := 54) ((dkg_4 27).trans rfl)) (dk_u1 (b := 6) ((dkg_4 28).trans rfl))
theorem dL_law_285 : decode cL_law 285 = .ok (.goto 1972, 3) := dk_o24 (dk_u1 (b := 167) ((dkg_4 29).trans rfl)) (dk_s2 (dk_u2 (dk_u1 (b := 7) ((dkg_4 30).trans rfl)) (dk_u1 (b := 180) ((dkg_4 31).trans rfl))) (by decide +kernel))
theorem dL_law_288 : decode cL_law 288 = .ok (.aload_n 1, 1) := dk_o16 (dk_u1 (b := 43) ((dkg_4 32).trans rfl))
theorem dL_law_289 : decode cL_law 289 = .ok (.aload_n 0, 1) := dk_o9 (dk_u1 (b := 42) ((dkg_4 33).trans rfl))
theorem dL_law_290 : decode cL_law 290 = .ok (.iload 4, 2) := dk_o8 (dk_u1 (b := 21) ((dkg_4 34).trans rfl)) (dk_u1 (b := 4) ((dkg_4 35).trans rfl))
theorem dL_law_292 : decode cL_law 292 = .ok (.iconst 1, 1) := dk_o17 (dk_u1 (b := 4) ((dkg_4 36).trans rfl))
theorem dL_law_293 : decode cL_law 293 = .ok (.iadd, 1) := dk_o18 (dk_u1 (b := 96) ((dkg_4 37).trans rfl))
theorem dL_law_294 : decode cL_law 294 = .ok (.iaload, 1) := dk_o14 (dk_u1 (b := 46) ((dkg_4 38).trans rfl))
theorem dL_law_295 : decode cL_law 295 = .ok (.aload_n 0, 1) := dk_o9 (dk_u1 (b := 42) ((dkg_4 39).trans rfl))
theorem dL_law_296 : decode cL_law 296 = .ok (.iload 4, 2) := dk_o8 (dk_u1 (b := 21) ((dkg_4 40).trans rfl)) (dk_u1 (b := 4) ((dkg_4 41).trans rfl))
theorem dL_law_298 : decode cL_law 298 = .ok (.iconst 2, 1) := dk_o19 (dk_u1 (b := 5) ((dkg_4 42).trans rfl))
theorem dL_law_299 : decode cL_law 299 = .ok (.iadd, 1) := dk_o18 (dk_u1 (b := 96) ((dkg_4 43).trans rfl))
theorem dL_law_300 : decode cL_law 300 = .ok (.iaload, 1) := dk_o14 (dk_u1 (b := 46) ((dkg_4 44).trans rfl))
theorem dL_law_301 : decode cL_law 301 = .ok (.aload_n 3, 1) := dk_o20 (dk_u1 (b := 45) ((dkg_4 45).trans rfl))
theorem dL_law_302 : decode cL_law 302 = .ok (.invokestatic 176, 3) := dk_o21 (dk_u1 (b := 184) ((dkg_4 46).trans rfl)) (dk_u2 (dk_u1 (b := 0) ((dkg_4 47).trans rfl)) (dk_u1 (b := 176) ((dkg_4 48).trans rfl)))
theorem dL_law_305 : decode cL_law 305 = .ok (.istore 5, 2) := dk_o7 (dk_u1 (b := 54) ((dkg_4 49).trans rfl)) (dk_u1 (b := 5) ((dkg_4 50).trans rfl))
theorem dL_law_307 : decode cL_law 307 = .ok (.aload_n 2, 1) := dk_o22 (dk_u1 (b := 44) ((dkg_4 51).trans rfl))
theorem dL_law_308 : decode cL_law 308 = .ok (.aload_n 0, 1) := dk_o9 (dk_u1 (b := 42) ((dkg_4 52).trans rfl))
theorem dL_law_309 : decode cL_law 309 = .ok (.iload 4, 2) := dk_o8 (dk_u1 (b := 21) ((dkg_4 53).trans rfl)) (dk_u1 (b := 4) ((dkg_4 54).trans rfl))
theorem dL_law_311 : decode cL_law 311 = .ok (.iconst 1, 1) := dk_o17 (dk_u1 (b := 4) ((dkg_4 55).trans rfl))
theorem dL_law_312 : decode cL_law 312 = .ok (.iadd, 1) := dk_o18 (dk_u1 (b := 96) ((dkg_4 56).trans rfl))
theorem dL_law_313 : decode cL_law 313 = .ok (.iaload, 1) := dk_o14 (dk_u1 (b := 46) ((dkg_4 57).trans rfl))
theorem dL_law_314 : decode cL_law 314 = .ok (.aload_n 0, 1) := dk_o9 (dk_u1 (b := 42) ((dkg_4 58).trans rfl))
theorem dL_law_315 : decode cL_law 315 = .ok (.iload 4, 2) := dk_o8 (dk_u1 (b := 21) ((dkg_4 59).trans rfl)) (dk_u1 (b := 4) ((dkg_4 60).trans rfl))
theorem dL_law_317 : decode cL_law 317 = .ok (.iconst 2, 1) := dk_o19 (dk_u1 (b := 5) ((dkg_4 61).trans rfl))
theorem dL_law_318 : decode cL_law 318 = .ok (.iadd, 1) := dk_o18 (dk_u1 (b := 96) ((dkg_4 62).trans rfl))
theorem dL_law_319 : decode cL_law 319 = .ok (.iaload, 1) := dk_o14 (dk_u1 (b := 46) ((dkg_4 63).trans rfl))
theorem dL_law_320 : decode cL_law 320 = .ok (.invokevirtual 178, 3) := dk_o23 (dk_u1 (b := 182) ((dkg_5 0).trans rfl)) (dk_u2 (dk_u1 (b := 0) ((dkg_5 1).trans rfl)) (dk_u1 (b := 178) ((dkg_5 2).trans rfl)))
theorem dL_law_323 : decode cL_law 323 = .ok (.istore 6, 2) := dk_o7 (dk_u1 (b := 54) ((dkg_5 3).trans rfl)) (dk_u1 (b := 6) ((dkg_5 4).trans rfl))
theorem dL_law_325 : decode cL_law 325 = .ok (.goto 1932, 3) := dk_o24 (dk_u1 (b := 167) ((dkg_5 5).trans rfl)) (dk_s2 (dk_u2 (dk_u1 (b := 7) ((dkg_5 6).trans rfl)) (dk_u1 (b := 140) ((dkg_5 7).trans rfl))) (by decide +kernel))
theorem dL_law_328 : decode cL_law 328 = .ok (.aload_n 1, 1) := dk_o16 (dk_u1 (b := 43) ((dkg_5 8).trans rfl))
theorem dL_law_329 : decode cL_law 329 = .ok (.aload_n 0, 1) := dk_o9 (dk_u1 (b := 42) ((dkg_5 9).trans rfl))
theorem dL_law_330 : decode cL_law 330 = .ok (.iload 4, 2) := dk_o8 (dk_u1 (b := 21) ((dkg_5 10).trans rfl)) (dk_u1 (b := 4) ((dkg_5 11).trans rfl))
theorem dL_law_332 : decode cL_law 332 = .ok (.iconst 1, 1) := dk_o17 (dk_u1 (b := 4) ((dkg_5 12).trans rfl))
theorem dL_law_333 : decode cL_law 333 = .ok (.iadd, 1) := dk_o18 (dk_u1 (b := 96) ((dkg_5 13).trans rfl))
theorem dL_law_334 : decode cL_law 334 = .ok (.iaload, 1) := dk_o14 (dk_u1 (b := 46) ((dkg_5 14).trans rfl))
theorem dL_law_335 : decode cL_law 335 = .ok (.aload_n 0, 1) := dk_o9 (dk_u1 (b := 42) ((dkg_5 15).trans rfl))
theorem dL_law_336 : decode cL_law 336 = .ok (.iload 4, 2) := dk_o8 (dk_u1 (b := 21) ((dkg_5 16).trans rfl)) (dk_u1 (b := 4) ((dkg_5 17).trans rfl))
theorem dL_law_338 : decode cL_law 338 = .ok (.iconst 2, 1) := dk_o19 (dk_u1 (b := 5) ((dkg_5 18).trans rfl))
theorem dL_law_339 : decode cL_law 339 = .ok (.iadd, 1) := dk_o18 (dk_u1 (b := 96) ((dkg_5 19).trans rfl))
theorem dL_law_340 : decode cL_law 340 = .ok (.iaload, 1) := dk_o14 (dk_u1 (b := 46) ((dkg_5 20).trans rfl))
theorem dL_law_341 : decode cL_law 341 = .ok (.ifCond .eq 7, 3) := dk_o25 (dk_u1 (b := 153) ((dkg_5 21).trans rfl)) (dk_s2 (dk_u2 (dk_u1 (b := 0) ((dkg_5 22).trans rfl)) (dk_u1 (b := 7) ((dkg_5 23).trans rfl))) (by decide +kernel))
theorem dL_law_344 : decode cL_law 344 = .ok (.iconst 1, 1) := dk_o17 (dk_u1 (b := 4) ((dkg_5 24).trans rfl))
theorem dL_law_345 : decode cL_law 345 = .ok (.goto 4, 3) := dk_o24 (dk_u1 (b := 167) ((dkg_5 25).trans rfl)) (dk_s2 (dk_u2 (dk_u1 (b := 0) ((dkg_5 26).trans rfl)) (dk_u1 (b := 4) ((dkg_5 27).trans rfl))) (by decide +kernel))
theorem dL_law_348 : decode cL_law 348 = .ok (.iconst 0, 1) := dk_o6 (dk_u1 (b := 3) ((dkg_5 28).trans rfl))
theorem dL_law_349 : decode cL_law 349 = .ok (.aload_n 3, 1) := dk_o20 (dk_u1 (b := 45) ((dkg_5 29).trans rfl))
theorem dL_law_350 : decode cL_law 350 = .ok (.invokestatic 179, 3) := dk_o21 (dk_u1 (b := 184) ((dkg_5 30).trans rfl)) (dk_u2 (dk_u1 (b := 0) ((dkg_5 31).trans rfl)) (dk_u1 (b := 179) ((dkg_5 32).trans rfl)))
theorem dL_law_353 : decode cL_law 353 = .ok (.istore 5, 2) := dk_o7 (dk_u1 (b := 54) ((dkg_5 33).trans rfl)) (dk_u1 (b := 5) ((dkg_5 34).trans rfl))
theorem dL_law_355 : decode cL_law 355 = .ok (.aload_n 2, 1) := dk_o22 (dk_u1 (b := 44) ((dkg_5 35).trans rfl))
theorem dL_law_356 : decode cL_law 356 = .ok (.aload_n 0, 1) := dk_o9 (dk_u1 (b := 42) ((dkg_5 36).trans rfl))
theorem dL_law_357 : decode cL_law 357 = .ok (.iload 4, 2) := dk_o8 (dk_u1 (b := 21) ((dkg_5 37).trans rfl)) (dk_u1 (b := 4) ((dkg_5 38).trans rfl))
theorem dL_law_359 : decode cL_law 359 = .ok (.iconst 1, 1) := dk_o17 (dk_u1 (b := 4) ((dkg_5 39).trans rfl))
theorem dL_law_360 : decode cL_law 360 = .ok (.iadd, 1) := dk_o18 (dk_u1 (b := 96) ((dkg_5 40).trans rfl))
theorem dL_law_361 : decode cL_law 361 = .ok (.iaload, 1) := dk_o14 (dk_u1 (b := 46) ((dkg_5 41).trans rfl))
theorem dL_law_362 : decode cL_law 362 = .ok (.aload_n 0, 1) := dk_o9 (dk_u1 (b := 42) ((dkg_5 42).trans rfl))
theorem dL_law_363 : decode cL_law 363 = .ok (.iload 4, 2) := dk_o8 (dk_u1 (b := 21) ((dkg_5 43).trans rfl)) (dk_u1 (b := 4) ((dkg_5 44).trans rfl))
theorem dL_law_365 : decode cL_law 365 = .ok (.iconst 2, 1) := dk_o19 (dk_u1 (b := 5) ((dkg_5 45).trans rfl))
theorem dL_law_366 : decode cL_law 366 = .ok (.iadd, 1) := dk_o18 (dk_u1 (b := 96) ((dkg_5 46).trans rfl))
theorem dL_law_367 : decode cL_law 367 = .ok (.iaload, 1) := dk_o14 (dk_u1 (b := 46) ((dkg_5 47).trans rfl))
theorem dL_law_368 : decode cL_law 368 = .ok (.ifCond .eq 7, 3) := dk_o25 (dk_u1 (b := 153) ((dkg_5 48).trans rfl)) (dk_s2 (dk_u2 (dk_u1 (b := 0) ((dkg_5 49).trans rfl)) (dk_u1 (b := 7) ((dkg_5 50).trans rfl))) (by decide +kernel))
theorem dL_law_371 : decode cL_law 371 = .ok (.iconst 1, 1) := dk_o17 (dk_u1 (b := 4) ((dkg_5 51).trans rfl))
theorem dL_law_372 : decode cL_law 372 = .ok (.goto 4, 3) := dk_o24 (dk_u1 (b := 167) ((dkg_5 52).trans rfl)) (dk_s2 (dk_u2 (dk_u1 (b := 0) ((dkg_5 53).trans rfl)) (dk_u1 (b := 4) ((dkg_5 54).trans rfl))) (by decide +kernel))
theorem dL_law_375 : decode cL_law 375 = .ok (.iconst 0, 1) := dk_o6 (dk_u1 (b := 3) ((dkg_5 55).trans rfl))
theorem dL_law_376 : decode cL_law 376 = .ok (.invokevirtual 182, 3) := dk_o23 (dk_u1 (b := 182) ((dkg_5 56).trans rfl)) (dk_u2 (dk_u1 (b := 0) ((dkg_5 57).trans rfl)) (dk_u1 (b := 182) ((dkg_5 58).trans rfl)))
theorem dL_law_379 : decode cL_law 379 = .ok (.istore 6, 2) := dk_o7 (dk_u1 (b := 54) ((dkg_5 59).trans rfl)) (dk_u1 (b := 6) ((dkg_5 60).trans rfl))
theorem dL_law_381 : decode cL_law 381 = .ok (.goto 1876, 3) := dk_o24 (dk_u1 (b := 167) ((dkg_5 61).trans rfl)) (dk_s2 (dk_u2 (dk_u1 (b := 7) ((dkg_5 62).trans rfl)) (dk_u1 (b := 84) ((dkg_5 63).trans rfl))) (by decide +kernel))
theorem dL_law_384 : decode cL_law 384 = .ok (.aload_n 1, 1) := dk_o16 (dk_u1 (b := 43) ((dkg_6 0).trans rfl))
theorem dL_law_385 : decode cL_law 385 = .ok (.aload_n 0, 1) := dk_o9 (dk_u1 (b := 42) ((dkg_6 1).trans rfl))
theorem dL_law_386 : decode cL_law 386 = .ok (.iload 4, 2) := dk_o8 (dk_u1 (b := 21) ((dkg_6 2).trans rfl)) (dk_u1 (b := 4) ((dkg_6 3).trans rfl))
theorem dL_law_388 : decode cL_law 388 = .ok (.iconst 1, 1) := dk_o17 (dk_u1 (b := 4) ((dkg_6 4).trans rfl))
theorem dL_law_389 : decode cL_law 389 = .ok (.iadd, 1) := dk_o18 (dk_u1 (b := 96) ((dkg_6 5).trans rfl))
theorem dL_law_390 : decode cL_law 390 = .ok (.iaload, 1) := dk_o14 (dk_u1 (b := 46) ((dkg_6 6).trans rfl))
theorem dL_law_391 : decode cL_law 391 = .ok (.aload_n 0, 1) := dk_o9 (dk_u1 (b := 42) ((dkg_6 7).trans rfl))
theorem dL_law_392 : decode cL_law 392 = .ok (.iload 4, 2) := dk_o8 (dk_u1 (b := 21) ((dkg_6 8).trans rfl)) (dk_u1 (b := 4) ((dkg_6 9).trans rfl))
theorem dL_law_394 : decode cL_law 394 = .ok (.iconst 2, 1) := dk_o19 (dk_u1 (b := 5) ((dkg_6 10).trans rfl))
theorem dL_law_395 : decode cL_law 395 = .ok (.iadd, 1) := dk_o18 (dk_u1 (b := 96) ((dkg_6 11).trans rfl))
theorem dL_law_396 : decode cL_law 396 = .ok (.iaload, 1) := dk_o14 (dk_u1 (b := 46) ((dkg_6 12).trans rfl))
theorem dL_law_397 : decode cL_law 397 = .ok (.aload_n 3, 1) := dk_o20 (dk_u1 (b := 45) ((dkg_6 13).trans rfl))
theorem dL_law_398 : decode cL_law 398 = .ok (.invokestatic 183, 3) := dk_o21 (dk_u1 (b := 184) ((dkg_6 14).trans rfl)) (dk_u2 (dk_u1 (b := 0) ((dkg_6 15).trans rfl)) (dk_u1 (b := 183) ((dkg_6 16).trans rfl)))
theorem dL_law_401 : decode cL_law 401 = .ok (.istore 5, 2) := dk_o7 (dk_u1 (b := 54) ((dkg_6 17).trans rfl)) (dk_u1 (b := 5) ((dkg_6 18).trans rfl))
theorem dL_law_403 : decode cL_law 403 = .ok (.aload_n 2, 1) := dk_o22 (dk_u1 (b := 44) ((dkg_6 19).trans rfl))
theorem dL_law_404 : decode cL_law 404 = .ok (.aload_n 0, 1) := dk_o9 (dk_u1 (b := 42) ((dkg_6 20).trans rfl))
theorem dL_law_405 : decode cL_law 405 = .ok (.iload 4, 2) := dk_o8 (dk_u1 (b := 21) ((dkg_6 21).trans rfl)) (dk_u1 (b := 4) ((dkg_6 22).trans rfl))
theorem dL_law_407 : decode cL_law 407 = .ok (.iconst 1, 1) := dk_o17 (dk_u1 (b := 4) ((dkg_6 23).trans rfl))
theorem dL_law_408 : decode cL_law 408 = .ok (.iadd, 1) := dk_o18 (dk_u1 (b := 96) ((dkg_6 24).trans rfl))
theorem dL_law_409 : decode cL_law 409 = .ok (.iaload, 1) := dk_o14 (dk_u1 (b := 46) ((dkg_6 25).trans rfl))
theorem dL_law_410 : decode cL_law 410 = .ok (.aload_n 0, 1) := dk_o9 (dk_u1 (b := 42) ((dkg_6 26).trans rfl))
theorem dL_law_411 : decode cL_law 411 = .ok (.iload 4, 2) := dk_o8 (dk_u1 (b := 21) ((dkg_6 27).trans rfl)) (dk_u1 (b := 4) ((dkg_6 28).trans rfl))
theorem dL_law_413 : decode cL_law 413 = .ok (.iconst 2, 1) := dk_o19 (dk_u1 (b := 5) ((dkg_6 29).trans rfl))
theorem dL_law_414 : decode cL_law 414 = .ok (.iadd, 1) := dk_o18 (dk_u1 (b := 96) ((dkg_6 30).trans rfl))
theorem dL_law_415 : decode cL_law 415 = .ok (.iaload, 1) := dk_o14 (dk_u1 (b := 46) ((dkg_6 31).trans rfl))
theorem dL_law_416 : decode cL_law 416 = .ok (.invokevirtual 185, 3) := dk_o23 (dk_u1 (b := 182) ((dkg_6 32).trans rfl)) (dk_u2 (dk_u1 (b := 0) ((dkg_6 33).trans rfl)) (dk_u1 (b := 185) ((dkg_6 34).trans rfl)))
theorem dL_law_419 : decode cL_law 419 = .ok (.istore 6, 2) := dk_o7 (dk_u1 (b := 54) ((dkg_6 35).trans rfl)) (dk_u1 (b := 6) ((dkg_6 36).trans rfl))
theorem dL_law_421 : decode cL_law 421 = .ok (.aload_n 2, 1) := dk_o22 (dk_u1 (b := 44) ((dkg_6 37).trans rfl))
theorem dL_law_422 : decode cL_law 422 = .ok (.invokevirtual 186, 3) := dk_o23 (dk_u1 (b := 182) ((dkg_6 38).trans rfl)) (dk_u2 (dk_u1 (b := 0) ((dkg_6 39).trans rfl)) (dk_u1 (b := 186) ((dkg_6 40).trans rfl)))
theorem dL_law_425 : decode cL_law 425 = .ok (.iload 5, 2) := dk_o8 (dk_u1 (b := 21) ((dkg_6 41).trans rfl)) (dk_u1 (b := 5) ((dkg_6 42).trans rfl))
theorem dL_law_427 : decode cL_law 427 = .ok (.if_icmp .eq 5, 3) := dk_o26 (dk_u1 (b := 159) ((dkg_6 43).trans rfl)) (dk_s2 (dk_u2 (dk_u1 (b := 0) ((dkg_6 44).trans rfl)) (dk_u1 (b := 5) ((dkg_6 45).trans rfl))) (by decide +kernel))
theorem dL_law_432 : decode cL_law 432 = .ok (.iload 5, 2) := dk_o8 (dk_u1 (b := 21) ((dkg_6 48).trans rfl)) (dk_u1 (b := 5) ((dkg_6 49).trans rfl))
theorem dL_law_434 : decode cL_law 434 = .ok (.ifCond .ne 16, 3) := dk_o28 (dk_u1 (b := 154) ((dkg_6 50).trans rfl)) (dk_s2 (dk_u2 (dk_u1 (b := 0) ((dkg_6 51).trans rfl)) (dk_u1 (b := 16) ((dkg_6 52).trans rfl))) (by decide +kernel))
theorem dL_law_437 : decode cL_law 437 = .ok (.aload_n 3, 1) := dk_o20 (dk_u1 (b := 45) ((dkg_6 53).trans rfl))
theorem dL_law_438 : decode cL_law 438 = .ok (.getfield 13, 3) := dk_o29 (dk_u1 (b := 180) ((dkg_6 54).trans rfl)) (dk_u2 (dk_u1 (b := 0) ((dkg_6 55).trans rfl)) (dk_u1 (b := 13) ((dkg_6 56).trans rfl)))
theorem dL_law_441 : decode cL_law 441 = .ok (.iload 6, 2) := dk_o8 (dk_u1 (b := 21) ((dkg_6 57).trans rfl)) (dk_u1 (b := 6) ((dkg_6 58).trans rfl))
theorem dL_law_443 : decode cL_law 443 = .ok (.i2l, 1) := dk_o30 (dk_u1 (b := 133) ((dkg_6 59).trans rfl))
theorem dL_law_444 : decode cL_law 444 = .ok (.lcmp, 1) := dk_o31 (dk_u1 (b := 148) ((dkg_6 60).trans rfl))
theorem dL_law_445 : decode cL_law 445 = .ok (.ifCond .eq 5, 3) := dk_o25 (dk_u1 (b := 153) ((dkg_6 61).trans rfl)) (dk_s2 (dk_u2 (dk_u1 (b := 0) ((dkg_6 62).trans rfl)) (dk_u1 (b := 5) ((dkg_6 63).trans rfl))) (by decide +kernel))
theorem dL_law_450 : decode cL_law 450 = .ok (.goto 1807, 3) := dk_o24 (dk_u1 (b := 167) ((dkg_7 2).trans rfl)) (dk_s2 (dk_u2 (dk_u1 (b := 7) ((dkg_7 3).trans rfl)) (dk_u1 (b := 15) ((dkg_7 4).trans rfl))) (by decide +kernel))
theorem dL_law_453 : decode cL_law 453 = .ok (.aload_n 1, 1) := dk_o16 (dk_u1 (b := 43) ((dkg_7 5).trans rfl))
theorem dL_law_454 : decode cL_law 454 = .ok (.aload_n 0, 1) := dk_o9 (dk_u1 (b := 42) ((dkg_7 6).trans rfl))
theorem dL_law_455 : decode cL_law 455 = .ok (.iload 4, 2) := dk_o8 (dk_u1 (b := 21) ((dkg_7 7).trans rfl)) (dk_u1 (b := 4) ((dkg_7 8).trans rfl))
theorem dL_law_457 : decode cL_law 457 = .ok (.iconst 1, 1) := dk_o17 (dk_u1 (b := 4) ((dkg_7 9).trans rfl))
theorem dL_law_458 : decode cL_law 458 = .ok (.iadd, 1) := dk_o18 (dk_u1 (b := 96) ((dkg_7 10).trans rfl))
theorem dL_law_459 : decode cL_law 459 = .ok (.iaload, 1) := dk_o14 (dk_u1 (b := 46) ((dkg_7 11).trans rfl))
theorem dL_law_460 : decode cL_law 460 = .ok (.aload_n 0, 1) := dk_o9 (dk_u1 (b := 42) ((dkg_7 12).trans rfl))
theorem dL_law_461 : decode cL_law 461 = .ok (.iload 4, 2) := dk_o8 (dk_u1 (b := 21) ((dkg_7 13).trans rfl)) (dk_u1 (b := 4) ((dkg_7 14).trans rfl))
theorem dL_law_463 : decode cL_law 463 = .ok (.iconst 2, 1) := dk_o19 (dk_u1 (b := 5) ((dkg_7 15).trans rfl))
theorem dL_law_464 : decode cL_law 464 = .ok (.iadd, 1) := dk_o18 (dk_u1 (b := 96) ((dkg_7 16).trans rfl))
theorem dL_law_465 : decode cL_law 465 = .ok (.iaload, 1) := dk_o14 (dk_u1 (b := 46) ((dkg_7 17).trans rfl))
theorem dL_law_466 : decode cL_law 466 = .ok (.aload_n 0, 1) := dk_o9 (dk_u1 (b := 42) ((dkg_7 18).trans rfl))
theorem dL_law_467 : decode cL_law 467 = .ok (.iload 4, 2) := dk_o8 (dk_u1 (b := 21) ((dkg_7 19).trans rfl)) (dk_u1 (b := 4) ((dkg_7 20).trans rfl))
theorem dL_law_469 : decode cL_law 469 = .ok (.iconst 3, 1) := dk_o32 (dk_u1 (b := 6) ((dkg_7 21).trans rfl))
theorem dL_law_470 : decode cL_law 470 = .ok (.iadd, 1) := dk_o18 (dk_u1 (b := 96) ((dkg_7 22).trans rfl))
theorem dL_law_471 : decode cL_law 471 = .ok (.iaload, 1) := dk_o14 (dk_u1 (b := 46) ((dkg_7 23).trans rfl))
theorem dL_law_472 : decode cL_law 472 = .ok (.aload_n 3, 1) := dk_o20 (dk_u1 (b := 45) ((dkg_7 24).trans rfl))
theorem dL_law_473 : decode cL_law 473 = .ok (.invokestatic 190, 3) := dk_o21 (dk_u1 (b := 184) ((dkg_7 25).trans rfl)) (dk_u2 (dk_u1 (b := 0) ((dkg_7 26).trans rfl)) (dk_u1 (b := 190) ((dkg_7 27).trans rfl)))
theorem dL_law_476 : decode cL_law 476 = .ok (.istore 5, 2) := dk_o7 (dk_u1 (b := 54) ((dkg_7 28).trans rfl)) (dk_u1 (b := 5) ((dkg_7 29).trans rfl))
theorem dL_law_478 : decode cL_law 478 = .ok (.aload_n 2, 1) := dk_o22 (dk_u1 (b := 44) ((dkg_7 30).trans rfl))
theorem dL_law_479 : decode cL_law 479 = .ok (.aload_n 0, 1) := dk_o9 (dk_u1 (b := 42) ((dkg_7 31).trans rfl))
theorem dL_law_480 : decode cL_law 480 = .ok (.iload 4, 2) := dk_o8 (dk_u1 (b := 21) ((dkg_7 32).trans rfl)) (dk_u1 (b := 4) ((dkg_7 33).trans rfl))
theorem dL_law_482 : decode cL_law 482 = .ok (.iconst 1, 1) := dk_o17 (dk_u1 (b := 4) ((dkg_7 34).trans rfl))
theorem dL_law_483 : decode cL_law 483 = .ok (.iadd, 1) := dk_o18 (dk_u1 (b := 96) ((dkg_7 35).trans rfl))
theorem dL_law_484 : decode cL_law 484 = .ok (.iaload, 1) := dk_o14 (dk_u1 (b := 46) ((dkg_7 36).trans rfl))
theorem dL_law_485 : decode cL_law 485 = .ok (.aload_n 0, 1) := dk_o9 (dk_u1 (b := 42) ((dkg_7 37).trans rfl))
theorem dL_law_486 : decode cL_law 486 = .ok (.iload 4, 2) := dk_o8 (dk_u1 (b := 21) ((dkg_7 38).trans rfl)) (dk_u1 (b := 4) ((dkg_7 39).trans rfl))
theorem dL_law_488 : decode cL_law 488 = .ok (.iconst 2, 1) := dk_o19 (dk_u1 (b := 5) ((dkg_7 40).trans rfl))
theorem dL_law_489 : decode cL_law 489 = .ok (.iadd, 1) := dk_o18 (dk_u1 (b := 96) ((dkg_7 41).trans rfl))
theorem dL_law_490 : decode cL_law 490 = .ok (.iaload, 1) := dk_o14 (dk_u1 (b := 46) ((dkg_7 42).trans rfl))
theorem dL_law_491 : decode cL_law 491 = .ok (.aload_n 0, 1) := dk_o9 (dk_u1 (b := 42) ((dkg_7 43).trans rfl))
theorem dL_law_492 : decode cL_law 492 = .ok (.iload 4, 2) := dk_o8 (dk_u1 (b := 21) ((dkg_7 44).trans rfl)) (dk_u1 (b := 4) ((dkg_7 45).trans rfl))
theorem dL_law_494 : decode cL_law 494 = .ok (.iconst 3, 1) := dk_o32 (dk_u1 (b := 6) ((dkg_7 46).trans rfl))
theorem dL_law_495 : decode cL_law 495 = .ok (.iadd, 1) := dk_o18 (dk_u1 (b := 96) ((dkg_7 47).trans rfl))
theorem dL_law_496 : decode cL_law 496 = .ok (.iaload, 1) := dk_o14 (dk_u1 (b := 46) ((dkg_7 48).trans rfl))
theorem dL_law_497 : decode cL_law 497 = .ok (.invokevirtual 193, 3) := dk_o23 (dk_u1 (b := 182) ((dkg_7 49).trans rfl)) (dk_u2 (dk_u1 (b := 0) ((dkg_7 50).trans rfl)) (dk_u1 (b := 193) ((dkg_7 51).trans rfl)))
theorem dL_law_500 : decode cL_law 500 = .ok (.istore 6, 2) := dk_o7 (dk_u1 (b := 54) ((dkg_7 52).trans rfl)) (dk_u1 (b := 6) ((dkg_7 53).trans rfl))
theorem dL_law_502 : decode cL_law 502 = .ok (.goto 1755, 3) := dk_o24 (dk_u1 (b := 167) ((dkg_7 54).trans rfl)) (dk_s2 (dk_u2 (dk_u1 (b := 6) ((dkg_7 55).trans rfl)) (dk_u1 (b := 219) ((dkg_7 56).trans rfl))) (by decide +kernel))
theorem dL_law_505 : decode cL_law 505 = .ok (.aload_n 1, 1) := dk_o16 (dk_u1 (b := 43) ((dkg_7 57).trans rfl))
theorem dL_law_506 : decode cL_law 506 = .ok (.aload_n 0, 1) := dk_o9 (dk_u1 (b := 42) ((dkg_7 58).trans rfl))
theorem dL_law_507 : decode cL_law 507 = .ok (.iload 4, 2) := dk_o8 (dk_u1 (b := 21) ((dkg_7 59).trans rfl)) (dk_u1 (b := 4) ((dkg_7 60).trans rfl))
theorem dL_law_509 : decode cL_law 509 = .ok (.iconst 1, 1) := dk_o17 (dk_u1 (b := 4) ((dkg_7 61).trans rfl))
theorem dL_law_510 : decode cL_law 510 = .ok (.iadd, 1) := dk_o18 (dk_u1 (b := 96) ((dkg_7 62).trans rfl))
theorem dL_law_511 : decode cL_law 511 = .ok (.iaload, 1) := dk_o14 (dk_u1 (b := 46) ((dkg_7 63).trans rfl))
theorem dL_law_512 : decode cL_law 512 = .ok (.aload_n 0, 1) := dk_o9 (dk_u1 (b := 42) ((dkg_8 0).trans rfl))
theorem dL_law_513 : decode cL_law 513 = .ok (.iload 4, 2) := dk_o8 (dk_u1 (b := 21) ((dkg_8 1).trans rfl)) (dk_u1 (b := 4) ((dkg_8 2).trans rfl))
theorem dL_law_515 : decode cL_law 515 = .ok (.iconst 2, 1) := dk_o19 (dk_u1 (b := 5) ((dkg_8 3).trans rfl))
theorem dL_law_516 : decode cL_law 516 = .ok (.iadd, 1) := dk_o18 (dk_u1 (b := 96) ((dkg_8 4).trans rfl))
theorem dL_law_517 : decode cL_law 517 = .ok (.iaload, 1) := dk_o14 (dk_u1 (b := 46) ((dkg_8 5).trans rfl))
theorem dL_law_518 : decode cL_law 518 = .ok (.aload_n 0, 1) := dk_o9 (dk_u1 (b := 42) ((dkg_8 6).trans rfl))
theorem dL_law_519 : decode cL_law 519 = .ok (.iload 4, 2) := dk_o8 (dk_u1 (b := 21) ((dkg_8 7).trans rfl)) (dk_u1 (b := 4) ((dkg_8 8).trans rfl))
theorem dL_law_521 : decode cL_law 521 = .ok (.iconst 3, 1) := dk_o32 (dk_u1 (b := 6) ((dkg_8 9).trans rfl))
theorem dL_law_522 : decode cL_law 522 = .ok (.iadd, 1) := dk_o18 (dk_u1 (b := 96) ((dkg_8 10).trans rfl))
theorem dL_law_523 : decode cL_law 523 = .ok (.iaload, 1) := dk_o14 (dk_u1 (b := 46) ((dkg_8 11).trans rfl))
theorem dL_law_524 : decode cL_law 524 = .ok (.aload_n 3, 1) := dk_o20 (dk_u1 (b := 45) ((dkg_8 12).trans rfl))
theorem dL_law_525 : decode cL_law 525 = .ok (.invokestatic 194, 3) := dk_o21 (dk_u1 (b := 184) ((dkg_8 13).trans rfl)) (dk_u2 (dk_u1 (b := 0) ((dkg_8 14).trans rfl)) (dk_u1 (b := 194) ((dkg_8 15).trans rfl)))
theorem dL_law_528 : decode cL_law 528 = .ok (.istore 5, 2) := dk_o7 (dk_u1 (b := 54) ((dkg_8 16).trans rfl)) (dk_u1 (b := 5) ((dkg_8 17).trans rfl))
theorem dL_law_530 : decode cL_law 530 = .ok (.aload_n 2, 1) := dk_o22 (dk_u1 (b := 44) ((dkg_8 18).trans rfl))
theorem dL_law_531 : decode cL_law 531 = .ok (.aload_n 0, 1) := dk_o9 (dk_u1 (b := 42) ((dkg_8 19).trans rfl))
theorem dL_law_532 : decode cL_law 532 = .ok (.iload 4, 2) := dk_o8 (dk_u1 (b := 21) ((dkg_8 20).trans rfl)) (dk_u1 (b := 4) ((dkg_8 21).trans rfl))
theorem dL_law_534 : decode cL_law 534 = .ok (.iconst 1, 1) := dk_o17 (dk_u1 (b := 4) ((dkg_8 22).trans rfl))
theorem dL_law_535 : decode cL_law 535 = .ok (.iadd, 1) := dk_o18 (dk_u1 (b := 96) ((dkg_8 23).trans rfl))
theorem dL_law_536 : decode cL_law 536 = .ok (.iaload, 1) := dk_o14 (dk_u1 (b := 46) ((dkg_8 24).trans rfl))
theorem dL_law_537 : decode cL_law 537 = .ok (.aload_n 0, 1) := dk_o9 (dk_u1 (b := 42) ((dkg_8 25).trans rfl))
theorem dL_law_538 : decode cL_law 538 = .ok (.iload 4, 2) := dk_o8 (dk_u1 (b := 21) ((dkg_8 26).trans rfl)) (dk_u1 (b := 4) ((dkg_8 27).trans rfl))
theorem dL_law_540 : decode cL_law 540 = .ok (.iconst 2, 1) := dk_o19 (dk_u1 (b := 5) ((dkg_8 28).trans rfl))
theorem dL_law_541 : decode cL_law 541 = .ok (.iadd, 1) := dk_o18 (dk_u1 (b := 96) ((dkg_8 29).trans rfl))
theorem dL_law_542 : decode cL_law 542 = .ok (.iaload, 1) := dk_o14 (dk_u1 (b := 46) ((dkg_8 30).trans rfl))
theorem dL_law_543 : decode cL_law 543 = .ok (.aload_n 0, 1) := dk_o9 (dk_u1 (b := 42) ((dkg_8 31).trans rfl))
theorem dL_law_544 : decode cL_law 544 = .ok (.iload 4, 2) := dk_o8 (dk_u1 (b := 21) ((dkg_8 32).trans rfl)) (dk_u1 (b := 4) ((dkg_8 33).trans rfl))
theorem dL_law_546 : decode cL_law 546 = .ok (.iconst 3, 1) := dk_o32 (dk_u1 (b := 6) ((dkg_8 34).trans rfl))
theorem dL_law_547 : decode cL_law 547 = .ok (.iadd, 1) := dk_o18 (dk_u1 (b := 96) ((dkg_8 35).trans rfl))
theorem dL_law_548 : decode cL_law 548 = .ok (.iaload, 1) := dk_o14 (dk_u1 (b := 46) ((dkg_8 36).trans rfl))
theorem dL_law_549 : decode cL_law 549 = .ok (.invokevirtual 196, 3) := dk_o23 (dk_u1 (b := 182) ((dkg_8 37).trans rfl)) (dk_u2 (dk_u1 (b := 0) ((dkg_8 38).trans rfl)) (dk_u1 (b := 196) ((dkg_8 39).trans rfl)))
theorem dL_law_552 : decode cL_law 552 = .ok (.istore 6, 2) := dk_o7 (dk_u1 (b := 54) ((dkg_8 40).trans rfl)) (dk_u1 (b := 6) ((dkg_8 41).trans rfl))
theorem dL_law_554 : decode cL_law 554 = .ok (.goto 1703, 3) := dk_o24 (dk_u1 (b := 167) ((dkg_8 42).trans rfl)) (dk_s2 (dk_u2 (dk_u1 (b := 6) ((dkg_8 43).trans rfl)) (dk_u1 (b := 167) ((dkg_8 44).trans rfl))) (by decide +kernel))
theorem dL_law_557 : decode cL_law 557 = .ok (.aload_n 1, 1) := dk_o16 (dk_u1 (b := 43) ((dkg_8 45).trans rfl))
theorem dL_law_558 : decode cL_law 558 = .ok (.aload_n 0, 1) := dk_o9 (dk_u1 (b := 42) ((dkg_8 46).trans rfl))
theorem dL_law_559 : decode cL_law 559 = .ok (.iload 4, 2) := dk_o8 (dk_u1 (b := 21) ((dkg_8 47).trans rfl)) (dk_u1 (b := 4) ((dkg_8 48).trans rfl))
theorem dL_law_561 : decode cL_law 561 = .ok (.iconst 1, 1) := dk_o17 (dk_u1 (b := 4) ((dkg_8 49).trans rfl))
theorem dL_law_562 : decode cL_law 562 = .ok (.iadd, 1) := dk_o18 (dk_u1 (b := 96) ((dkg_8 50).trans rfl))
theorem dL_law_563 : decode cL_law 563 = .ok (.iaload, 1) := dk_o14 (dk_u1 (b := 46) ((dkg_8 51).trans rfl))
theorem dL_law_564 : decode cL_law 564 = .ok (.aload_n 0, 1) := dk_o9 (dk_u1 (b := 42) ((dkg_8 52).trans rfl))
theorem dL_law_565 : decode cL_law 565 = .ok (.iload 4, 2) := dk_o8 (dk_u1 (b := 21) ((dkg_8 53).trans rfl)) (dk_u1 (b := 4) ((dkg_8 54).trans rfl))
theorem dL_law_567 : decode cL_law 567 = .ok (.iconst 2, 1) := dk_o19 (dk_u1 (b := 5) ((dkg_8 55).trans rfl))
theorem dL_law_568 : decode cL_law 568 = .ok (.iadd, 1) := dk_o18 (dk_u1 (b := 96) ((dkg_8 56).trans rfl))
theorem dL_law_569 : decode cL_law 569 = .ok (.iaload, 1) := dk_o14 (dk_u1 (b := 46) ((dkg_8 57).trans rfl))
theorem dL_law_570 : decode cL_law 570 = .ok (.aload_n 0, 1) := dk_o9 (dk_u1 (b := 42) ((dkg_8 58).trans rfl))
theorem dL_law_571 : decode cL_law 571 = .ok (.iload 4, 2) := dk_o8 (dk_u1 (b := 21) ((dkg_8 59).trans rfl)) (dk_u1 (b := 4) ((dkg_8 60).trans rfl))
theorem dL_law_573 : decode cL_law 573 = .ok (.iconst 3, 1) := dk_o32 (dk_u1 (b := 6) ((dkg_8 61).trans rfl))
theorem dL_law_574 : decode cL_law 574 = .ok (.iadd, 1) := dk_o18 (dk_u1 (b := 96) ((dkg_8 62).trans rfl))
theorem dL_law_575 : decode cL_law 575 = .ok (.iaload, 1) := dk_o14 (dk_u1 (b := 46) ((dkg_8 63).trans rfl))
theorem dL_law_576 : decode cL_law 576 = .ok (.aload_n 3, 1) := dk_o20 (dk_u1 (b := 45) ((dkg_9 0).trans rfl))
theorem dL_law_577 : decode cL_law 577 = .ok (.invokestatic 197, 3) := dk_o21 (dk_u1 (b := 184) ((dkg_9 1).trans rfl)) (dk_u2 (dk_u1 (b := 0) ((dkg_9 2).trans rfl)) (dk_u1 (b := 197) ((dkg_9 3).trans rfl)))
theorem dL_law_580 : decode cL_law 580 = .ok (.istore 5, 2) := dk_o7 (dk_u1 (b := 54) ((dkg_9 4).trans rfl)) (dk_u1 (b := 5) ((dkg_9 5).trans rfl))
theorem dL_law_582 : decode cL_law 582 = .ok (.aload_n 2, 1) := dk_o22 (dk_u1 (b := 44) ((dkg_9 6).trans rfl))
theorem dL_law_583 : decode cL_law 583 = .ok (.aload_n 0, 1) := dk_o9 (dk_u1 (b := 42) ((dkg_9 7).trans rfl))
theorem dL_law_584 : decode cL_law 584 = .ok (.iload 4, 2) := dk_o8 (dk_u1 (b := 21) ((dkg_9 8).trans rfl)) (dk_u1 (b := 4) ((dkg_9 9).trans rfl))
theorem dL_law_586 : decode cL_law 586 = .ok (.iconst 1, 1) := dk_o17 (dk_u1 (b := 4) ((dkg_9 10).trans rfl))
theorem dL_law_587 : decode cL_law 587 = .ok (.iadd, 1) := dk_o18 (dk_u1 (b := 96) ((dkg_9 11).trans rfl))
theorem dL_law_588 : decode cL_law 588 = .ok (.iaload, 1) := dk_o14 (dk_u1 (b := 46) ((dkg_9 12).trans rfl))
theorem dL_law_589 : decode cL_law 589 = .ok (.aload_n 0, 1) := dk_o9 (dk_u1 (b := 42) ((dkg_9 13).trans rfl))
theorem dL_law_590 : decode cL_law 590 = .ok (.iload 4, 2) := dk_o8 (dk_u1 (b := 21) ((dkg_9 14).trans rfl)) (dk_u1 (b := 4) ((dkg_9 15).trans rfl))
theorem dL_law_592 : decode cL_law 592 = .ok (.iconst 2, 1) := dk_o19 (dk_u1 (b := 5) ((dkg_9 16).trans rfl))
theorem dL_law_593 : decode cL_law 593 = .ok (.iadd, 1) := dk_o18 (dk_u1 (b := 96) ((dkg_9 17).trans rfl))
theorem dL_law_594 : decode cL_law 594 = .ok (.iaload, 1) := dk_o14 (dk_u1 (b := 46) ((dkg_9 18).trans rfl))
theorem dL_law_595 : decode cL_law 595 = .ok (.aload_n 0, 1) := dk_o9 (dk_u1 (b := 42) ((dkg_9 19).trans rfl))
theorem dL_law_596 : decode cL_law 596 = .ok (.iload 4, 2) := dk_o8 (dk_u1 (b := 21) ((dkg_9 20).trans rfl)) (dk_u1 (b := 4) ((dkg_9 21).trans rfl))
theorem dL_law_598 : decode cL_law 598 = .ok (.iconst 3, 1) := dk_o32 (dk_u1 (b := 6) ((dkg_9 22).trans rfl))
theorem dL_law_599 : decode cL_law 599 = .ok (.iadd, 1) := dk_o18 (dk_u1 (b := 96) ((dkg_9 23).trans rfl))
theorem dL_law_600 : decode cL_law 600 = .ok (.iaload, 1) := dk_o14 (dk_u1 (b := 46) ((dkg_9 24).trans rfl))
theorem dL_law_601 : decode cL_law 601 = .ok (.invokevirtual 199, 3) := dk_o23 (dk_u1 (b := 182) ((dkg_9 25).trans rfl)) (dk_u2 (dk_u1 (b := 0) ((dkg_9 26).trans rfl)) (dk_u1 (b := 199) ((dkg_9 27).trans rfl)))
theorem dL_law_604 : decode cL_law 604 = .ok (.istore 6, 2) := dk_o7 (dk_u1 (b := 54) ((dkg_9 28).trans rfl)) (dk_u1 (b := 6) ((dkg_9 29).trans rfl))
theorem dL_law_606 : decode cL_law 606 = .ok (.goto 1651, 3) := dk_o24 (dk_u1 (b := 167) ((dkg_9 30).trans rfl)) (dk_s2 (dk_u2 (dk_u1 (b := 6) ((dkg_9 31).trans rfl)) (dk_u1 (b := 115) ((dkg_9 32).trans rfl))) (by decide +kernel))
theorem dL_law_609 : decode cL_law 609 = .ok (.aload_n 1, 1) := dk_o16 (dk_u1 (b := 43) ((dkg_9 33).trans rfl))
theorem dL_law_610 : decode cL_law 610 = .ok (.aload_n 0, 1) := dk_o9 (dk_u1 (b := 42) ((dkg_9 34).trans rfl))
theorem dL_law_611 : decode cL_law 611 = .ok (.iload 4, 2) := dk_o8 (dk_u1 (b := 21) ((dkg_9 35).trans rfl)) (dk_u1 (b := 4) ((dkg_9 36).trans rfl))
theorem dL_law_613 : decode cL_law 613 = .ok (.iconst 1, 1) := dk_o17 (dk_u1 (b := 4) ((dkg_9 37).trans rfl))
theorem dL_law_614 : decode cL_law 614 = .ok (.iadd, 1) := dk_o18 (dk_u1 (b := 96) ((dkg_9 38).trans rfl))
theorem dL_law_615 : decode cL_law 615 = .ok (.iaload, 1) := dk_o14 (dk_u1 (b := 46) ((dkg_9 39).trans rfl))
theorem dL_law_616 : decode cL_law 616 = .ok (.aload_n 3, 1) := dk_o20 (dk_u1 (b := 45) ((dkg_9 40).trans rfl))
theorem dL_law_617 : decode cL_law 617 = .ok (.invokestatic 200, 3) := dk_o21 (dk_u1 (b := 184) ((dkg_9 41).trans rfl)) (dk_u2 (dk_u1 (b := 0) ((dkg_9 42).trans rfl)) (dk_u1 (b := 200) ((dkg_9 43).trans rfl)))
theorem dL_law_620 : decode cL_law 620 = .ok (.istore 5, 2) := dk_o7 (dk_u1 (b := 54) ((dkg_9 44).trans rfl)) (dk_u1 (b := 5) ((dkg_9 45).trans rfl))
theorem dL_law_622 : decode cL_law 622 = .ok (.aload_n 2, 1) := dk_o22 (dk_u1 (b := 44) ((dkg_9 46).trans rfl))
theorem dL_law_623 : decode cL_law 623 = .ok (.aload_n 0, 1) := dk_o9 (dk_u1 (b := 42) ((dkg_9 47).trans rfl))
theorem dL_law_624 : decode cL_law 624 = .ok (.iload 4, 2) := dk_o8 (dk_u1 (b := 21) ((dkg_9 48).trans rfl)) (dk_u1 (b := 4) ((dkg_9 49).trans rfl))
theorem dL_law_626 : decode cL_law 626 = .ok (.iconst 1, 1) := dk_o17 (dk_u1 (b := 4) ((dkg_9 50).trans rfl))
theorem dL_law_627 : decode cL_law 627 = .ok (.iadd, 1) := dk_o18 (dk_u1 (b := 96) ((dkg_9 51).trans rfl))
theorem dL_law_628 : decode cL_law 628 = .ok (.iaload, 1) := dk_o14 (dk_u1 (b := 46) ((dkg_9 52).trans rfl))
theorem dL_law_629 : decode cL_law 629 = .ok (.invokevirtual 203, 3) := dk_o23 (dk_u1 (b := 182) ((dkg_9 53).trans rfl)) (dk_u2 (dk_u1 (b := 0) ((dkg_9 54).trans rfl)) (dk_u1 (b := 203) ((dkg_9 55).trans rfl)))
theorem dL_law_632 : decode cL_law 632 = .ok (.istore 6, 2) := dk_o7 (dk_u1 (b := 54) ((dkg_9 56).trans rfl)) (dk_u1 (b := 6) ((dkg_9 57).trans rfl))
theorem dL_law_634 : decode cL_law 634 = .ok (.goto 1623, 3) := dk_o24 (dk_u1 (b := 167) ((dkg_9 58).trans rfl)) (dk_s2 (dk_u2 (dk_u1 (b := 6) ((dkg_9 59).trans rfl)) (dk_u1 (b := 87) ((dkg_9 60).trans rfl))) (by decide +kernel))
theorem dL_law_637 : decode cL_law 637 = .ok (.aload_n 1, 1) := dk_o16 (dk_u1 (b := 43) ((dkg_9 61).trans rfl))
theorem dL_law_638 : decode cL_law 638 = .ok (.aload_n 0, 1) := dk_o9 (dk_u1 (b := 42) ((dkg_9 62).trans rfl))
theorem dL_law_639 : decode cL_law 639 = .ok (.iload 4, 2) := dk_o8 (dk_u1 (b := 21) ((dkg_9 63).trans rfl)) (dk_u1 (b := 4) ((dkg_10 0).trans rfl))
theorem dL_law_641 : decode cL_law 641 = .ok (.iconst 1, 1) := dk_o17 (dk_u1 (b := 4) ((dkg_10 1).trans rfl))
theorem dL_law_642 : decode cL_law 642 = .ok (.iadd, 1) := dk_o18 (dk_u1 (b := 96) ((dkg_10 2).trans rfl))
theorem dL_law_643 : decode cL_law 643 = .ok (.iaload, 1) := dk_o14 (dk_u1 (b := 46) ((dkg_10 3).trans rfl))
theorem dL_law_644 : decode cL_law 644 = .ok (.aload_n 0, 1) := dk_o9 (dk_u1 (b := 42) ((dkg_10 4).trans rfl))
theorem dL_law_645 : decode cL_law 645 = .ok (.iload 4, 2) := dk_o8 (dk_u1 (b := 21) ((dkg_10 5).trans rfl)) (dk_u1 (b := 4) ((dkg_10 6).trans rfl))
theorem dL_law_647 : decode cL_law 647 = .ok (.iconst 2, 1) := dk_o19 (dk_u1 (b := 5) ((dkg_10 7).trans rfl))
theorem dL_law_648 : decode cL_law 648 = .ok (.iadd, 1) := dk_o18 (dk_u1 (b := 96) ((dkg_10 8).trans rfl))
theorem dL_law_649 : decode cL_law 649 = .ok (.iaload, 1) := dk_o14 (dk_u1 (b := 46) ((dkg_10 9).trans rfl))
theorem dL_law_650 : decode cL_law 650 = .ok (.aload_n 0, 1) := dk_o9 (dk_u1 (b := 42) ((dkg_10 10).trans rfl))
theorem dL_law_651 : decode cL_law 651 = .ok (.iload 4, 2) := dk_o8 (dk_u1 (b := 21) ((dkg_10 11).trans rfl)) (dk_u1 (b := 4) ((dkg_10 12).trans rfl))
theorem dL_law_653 : decode cL_law 653 = .ok (.iconst 3, 1) := dk_o32 (dk_u1 (b := 6) ((dkg_10 13).trans rfl))
theorem dL_law_654 : decode cL_law 654 = .ok (.iadd, 1) := dk_o18 (dk_u1 (b := 96) ((dkg_10 14).trans rfl))
theorem dL_law_655 : decode cL_law 655 = .ok (.iaload, 1) := dk_o14 (dk_u1 (b := 46) ((dkg_10 15).trans rfl))
theorem dL_law_656 : decode cL_law 656 = .ok (.aload_n 3, 1) := dk_o20 (dk_u1 (b := 45) ((dkg_10 16).trans rfl))
theorem dL_law_657 : decode cL_law 657 = .ok (.invokestatic 204, 3) := dk_o21 (dk_u1 (b := 184) ((dkg_10 17).trans rfl)) (dk_u2 (dk_u1 (b := 0) ((dkg_10 18).trans rfl)) (dk_u1 (b := 204) ((dkg_10 19).trans rfl)))
theorem dL_law_660 : decode cL_law 660 = .ok (.istore 5, 2) := dk_o7 (dk_u1 (b := 54) ((dkg_10 20).trans rfl)) (dk_u1 (b := 5) ((dkg_10 21).trans rfl))
theorem dL_law_662 : decode cL_law 662 = .ok (.aload_n 2, 1) := dk_o22 (dk_u1 (b := 44) ((dkg_10 22).trans rfl))
theorem dL_law_663 : decode cL_law 663 = .ok (.aload_n 0, 1) := dk_o9 (dk_u1 (b := 42) ((dkg_10 23).trans rfl))
theorem dL_law_664 : decode cL_law 664 = .ok (.iload 4, 2) := dk_o8 (dk_u1 (b := 21) ((dkg_10 24).trans rfl)) (dk_u1 (b := 4) ((dkg_10 25).trans rfl))
theorem dL_law_666 : decode cL_law 666 = .ok (.iconst 1, 1) := dk_o17 (dk_u1 (b := 4) ((dkg_10 26).trans rfl))
theorem dL_law_667 : decode cL_law 667 = .ok (.iadd, 1) := dk_o18 (dk_u1 (b := 96) ((dkg_10 27).trans rfl))
theorem dL_law_668 : decode cL_law 668 = .ok (.iaload, 1) := dk_o14 (dk_u1 (b := 46) ((dkg_10 28).trans rfl))
theorem dL_law_669 : decode cL_law 669 = .ok (.aload_n 0, 1) := dk_o9 (dk_u1 (b := 42) ((dkg_10 29).trans rfl))
theorem dL_law_670 : decode cL_law 670 = .ok (.iload 4, 2) := dk_o8 (dk_u1 (b := 21) ((dkg_10 30).trans rfl)) (dk_u1 (b := 4) ((dkg_10 31).trans rfl))
theorem dL_law_672 : decode cL_law 672 = .ok (.iconst 2, 1) := dk_o19 (dk_u1 (b := 5) ((dkg_10 32).trans rfl))
theorem dL_law_673 : decode cL_law 673 = .ok (.iadd, 1) := dk_o18 (dk_u1 (b := 96) ((dkg_10 33).trans rfl))
theorem dL_law_674 : decode cL_law 674 = .ok (.iaload, 1) := dk_o14 (dk_u1 (b := 46) ((dkg_10 34).trans rfl))
theorem dL_law_675 : decode cL_law 675 = .ok (.aload_n 0, 1) := dk_o9 (dk_u1 (b := 42) ((dkg_10 35).trans rfl))
theorem dL_law_676 : decode cL_law 676 = .ok (.iload 4, 2) := dk_o8 (dk_u1 (b := 21) ((dkg_10 36).trans rfl)) (dk_u1 (b := 4) ((dkg_10 37).trans rfl))
theorem dL_law_678 : decode cL_law 678 = .ok (.iconst 3, 1) := dk_o32 (dk_u1 (b := 6) ((dkg_10 38).trans rfl))
theorem dL_law_679 : decode cL_law 679 = .ok (.iadd, 1) := dk_o18 (dk_u1 (b := 96) ((dkg_10 39).trans rfl))
theorem dL_law_680 : decode cL_law 680 = .ok (.iaload, 1) := dk_o14 (dk_u1 (b := 46) ((dkg_10 40).trans rfl))
theorem dL_law_681 : decode cL_law 681 = .ok (.invokevirtual 206, 3) := dk_o23 (dk_u1 (b := 182) ((dkg_10 41).trans rfl)) (dk_u2 (dk_u1 (b := 0) ((dkg_10 42).trans rfl)) (dk_u1 (b := 206) ((dkg_10 43).trans rfl)))
theorem dL_law_684 : decode cL_law 684 = .ok (.istore 6, 2) := dk_o7 (dk_u1 (b := 54) ((dkg_10 44).trans rfl)) (dk_u1 (b := 6) ((dkg_10 45).trans rfl))
theorem dL_law_686 : decode cL_law 686 = .ok (.goto 1571, 3) := dk_o24 (dk_u1 (b := 167) ((dkg_10 46).trans rfl)) (dk_s2 (dk_u2 (dk_u1 (b := 6) ((dkg_10 47).trans rfl)) (dk_u1 (b := 35) ((dkg_10 48).trans rfl))) (by decide +kernel))
theorem dL_law_689 : decode cL_law 689 = .ok (.aload_n 1, 1) := dk_o16 (dk_u1 (b := 43) ((dkg_10 49).trans rfl))
theorem dL_law_690 : decode cL_law 690 = .ok (.aload_n 0, 1) := dk_o9 (dk_u1 (b := 42) ((dkg_10 50).trans rfl))
theorem dL_law_691 : decode cL_law 691 = .ok (.iload 4, 2) := dk_o8 (dk_u1 (b := 21) ((dkg_10 51).trans rfl)) (dk_u1 (b := 4) ((dkg_10 52).trans rfl))
theorem dL_law_693 : decode cL_law 693 = .ok (.iconst 1, 1) := dk_o17 (dk_u1 (b := 4) ((dkg_10 53).trans rfl))
theorem dL_law_694 : decode cL_law 694 = .ok (.iadd, 1) := dk_o18 (dk_u1 (b := 96) ((dkg_10 54).trans rfl))
theorem dL_law_695 : decode cL_law 695 = .ok (.iaload, 1) := dk_o14 (dk_u1 (b := 46) ((dkg_10 55).trans rfl))
theorem dL_law_696 : decode cL_law 696 = .ok (.aload_n 0, 1) := dk_o9 (dk_u1 (b := 42) ((dkg_10 56).trans rfl))
theorem dL_law_697 : decode cL_law 697 = .ok (.iload 4, 2) := dk_o8 (dk_u1 (b := 21) ((dkg_10 57).trans rfl)) (dk_u1 (b := 4) ((dkg_10 58).trans rfl))
theorem dL_law_699 : decode cL_law 699 = .ok (.iconst 2, 1) := dk_o19 (dk_u1 (b := 5) ((dkg_10 59).trans rfl))
theorem dL_law_700 : decode cL_law 700 = .ok (.iadd, 1) := dk_o18 (dk_u1 (b := 96) ((dkg_10 60).trans rfl))
theorem dL_law_701 : decode cL_law 701 = .ok (.iaload, 1) := dk_o14 (dk_u1 (b := 46) ((dkg_10 61).trans rfl))
theorem dL_law_702 : decode cL_law 702 = .ok (.aload_n 3, 1) := dk_o20 (dk_u1 (b := 45) ((dkg_10 62).trans rfl))
theorem dL_law_703 : decode cL_law 703 = .ok (.invokestatic 207, 3) := dk_o21 (dk_u1 (b := 184) ((dkg_10 63).trans rfl)) (dk_u2 (dk_u1 (b := 0) ((dkg_11 0).trans rfl)) (dk_u1 (b := 207) ((dkg_11 1).trans rfl)))
theorem dL_law_706 : decode cL_law 706 = .ok (.istore 5, 2) := dk_o7 (dk_u1 (b := 54) ((dkg_11 2).trans rfl)) (dk_u1 (b := 5) ((dkg_11 3).trans rfl))
theorem dL_law_708 : decode cL_law 708 = .ok (.aload_n 2, 1) := dk_o22 (dk_u1 (b := 44) ((dkg_11 4).trans rfl))
theorem dL_law_709 : decode cL_law 709 = .ok (.aload_n 0, 1) := dk_o9 (dk_u1 (b := 42) ((dkg_11 5).trans rfl))
theorem dL_law_710 : decode cL_law 710 = .ok (.iload 4, 2) := dk_o8 (dk_u1 (b := 21) ((dkg_11 6).trans rfl)) (dk_u1 (b := 4) ((dkg_11 7).trans rfl))
theorem dL_law_712 : decode cL_law 712 = .ok (.iconst 1, 1) := dk_o17 (dk_u1 (b := 4) ((dkg_11 8).trans rfl))
theorem dL_law_713 : decode cL_law 713 = .ok (.iadd, 1) := dk_o18 (dk_u1 (b := 96) ((dkg_11 9).trans rfl))
theorem dL_law_714 : decode cL_law 714 = .ok (.iaload, 1) := dk_o14 (dk_u1 (b := 46) ((dkg_11 10).trans rfl))
theorem dL_law_715 : decode cL_law 715 = .ok (.aload_n 0, 1) := dk_o9 (dk_u1 (b := 42) ((dkg_11 11).trans rfl))
theorem dL_law_716 : decode cL_law 716 = .ok (.iload 4, 2) := dk_o8 (dk_u1 (b := 21) ((dkg_11 12).trans rfl)) (dk_u1 (b := 4) ((dkg_11 13).trans rfl))
theorem dL_law_718 : decode cL_law 718 = .ok (.iconst 2, 1) := dk_o19 (dk_u1 (b := 5) ((dkg_11 14).trans rfl))
theorem dL_law_719 : decode cL_law 719 = .ok (.iadd, 1) := dk_o18 (dk_u1 (b := 96) ((dkg_11 15).trans rfl))
theorem dL_law_720 : decode cL_law 720 = .ok (.iaload, 1) := dk_o14 (dk_u1 (b := 46) ((dkg_11 16).trans rfl))
theorem dL_law_721 : decode cL_law 721 = .ok (.invokevirtual 209, 3) := dk_o23 (dk_u1 (b := 182) ((dkg_11 17).trans rfl)) (dk_u2 (dk_u1 (b := 0) ((dkg_11 18).trans rfl)) (dk_u1 (b := 209) ((dkg_11 19).trans rfl)))
theorem dL_law_724 : decode cL_law 724 = .ok (.istore 6, 2) := dk_o7 (dk_u1 (b := 54) ((dkg_11 20).trans rfl)) (dk_u1 (b := 6) ((dkg_11 21).trans rfl))
theorem dL_law_726 : decode cL_law 726 = .ok (.goto 1531, 3) := dk_o24 (dk_u1 (b := 167) ((dkg_11 22).trans rfl)) (dk_s2 (dk_u2 (dk_u1 (b := 5) ((dkg_11 23).trans rfl)) (dk_u1 (b := 251) ((dkg_11 24).trans rfl))) (by decide +kernel))
theorem dL_law_729 : decode cL_law 729 = .ok (.aload_n 1, 1) := dk_o16 (dk_u1 (b := 43) ((dkg_11 25).trans rfl))
theorem dL_law_730 : decode cL_law 730 = .ok (.aload_n 0, 1) := dk_o9 (dk_u1 (b := 42) ((dkg_11 26).trans rfl))
theorem dL_law_731 : decode cL_law 731 = .ok (.iload 4, 2) := dk_o8 (dk_u1 (b := 21) ((dkg_11 27).trans rfl)) (dk_u1 (b := 4) ((dkg_11 28).trans rfl))
theorem dL_law_733 : decode cL_law 733 = .ok (.iconst 1, 1) := dk_o17 (dk_u1 (b := 4) ((dkg_11 29).trans rfl))
theorem dL_law_734 : decode cL_law 734 = .ok (.iadd, 1) := dk_o18 (dk_u1 (b := 96) ((dkg_11 30).trans rfl))
theorem dL_law_735 : decode cL_law 735 = .ok (.iaload, 1) := dk_o14 (dk_u1 (b := 46) ((dkg_11 31).trans rfl))
theorem dL_law_736 : decode cL_law 736 = .ok (.aload_n 0, 1) := dk_o9 (dk_u1 (b := 42) ((dkg_11 32).trans rfl))
theorem dL_law_737 : decode cL_law 737 = .ok (.iload 4, 2) := dk_o8 (dk_u1 (b := 21) ((dkg_11 33).trans rfl)) (dk_u1 (b := 4) ((dkg_11 34).trans rfl))
theorem dL_law_739 : decode cL_law 739 = .ok (.iconst 2, 1) := dk_o19 (dk_u1 (b := 5) ((dkg_11 35).trans rfl))
theorem dL_law_740 : decode cL_law 740 = .ok (.iadd, 1) := dk_o18 (dk_u1 (b := 96) ((dkg_11 36).trans rfl))
theorem dL_law_741 : decode cL_law 741 = .ok (.iaload, 1) := dk_o14 (dk_u1 (b := 46) ((dkg_11 37).trans rfl))
theorem dL_law_742 : decode cL_law 742 = .ok (.aload_n 0, 1) := dk_o9 (dk_u1 (b := 42) ((dkg_11 38).trans rfl))
theorem dL_law_743 : decode cL_law 743 = .ok (.iload 4, 2) := dk_o8 (dk_u1 (b := 21) ((dkg_11 39).trans rfl)) (dk_u1 (b := 4) ((dkg_11 40).trans rfl))
theorem dL_law_745 : decode cL_law 745 = .ok (.iconst 3, 1) := dk_o32 (dk_u1 (b := 6) ((dkg_11 41).trans rfl))
theorem dL_law_746 : decode cL_law 746 = .ok (.iadd, 1) := dk_o18 (dk_u1 (b := 96) ((dkg_11 42).trans rfl))
theorem dL_law_747 : decode cL_law 747 = .ok (.iaload, 1) := dk_o14 (dk_u1 (b := 46) ((dkg_11 43).trans rfl))
theorem dL_law_748 : decode cL_law 748 = .ok (.aload_n 3, 1) := dk_o20 (dk_u1 (b := 45) ((dkg_11 44).trans rfl))
theorem dL_law_749 : decode cL_law 749 = .ok (.invokestatic 210, 3) := dk_o21 (dk_u1 (b := 184) ((dkg_11 45).trans rfl)) (dk_u2 (dk_u1 (b := 0) ((dkg_11 46).trans rfl)) (dk_u1 (b := 210) ((dkg_11 47).trans rfl)))
theorem dL_law_752 : decode cL_law 752 = .ok (.istore 5, 2) := dk_o7 (dk_u1 (b := 54) ((dkg_11 48).trans rfl)) (dk_u1 (b := 5) ((dkg_11 49).trans rfl))
theorem dL_law_754 : decode cL_law 754 = .ok (.aload_n 2, 1) := dk_o22 (dk_u1 (b := 44) ((dkg_11 50).trans rfl))
theorem dL_law_755 : decode cL_law 755 = .ok (.aload_n 0, 1) := dk_o9 (dk_u1 (b := 42) ((dkg_11 51).trans rfl))
theorem dL_law_756 : decode cL_law 756 = .ok (.iload 4, 2) := dk_o8 (dk_u1 (b := 21) ((dkg_11 52).trans rfl)) (dk_u1 (b := 4) ((dkg_11 53).trans rfl))
theorem dL_law_758 : decode cL_law 758 = .ok (.iconst 1, 1) := dk_o17 (dk_u1 (b := 4) ((dkg_11 54).trans rfl))
theorem dL_law_759 : decode cL_law 759 = .ok (.iadd, 1) := dk_o18 (dk_u1 (b := 96) ((dkg_11 55).trans rfl))
theorem dL_law_760 : decode cL_law 760 = .ok (.iaload, 1) := dk_o14 (dk_u1 (b := 46) ((dkg_11 56).trans rfl))
theorem dL_law_761 : decode cL_law 761 = .ok (.aload_n 0, 1) := dk_o9 (dk_u1 (b := 42) ((dkg_11 57).trans rfl))
theorem dL_law_762 : decode cL_law 762 = .ok (.iload 4, 2) := dk_o8 (dk_u1 (b := 21) ((dkg_11 58).trans rfl)) (dk_u1 (b := 4) ((dkg_11 59).trans rfl))
theorem dL_law_764 : decode cL_law 764 = .ok (.iconst 2, 1) := dk_o19 (dk_u1 (b := 5) ((dkg_11 60).trans rfl))
theorem dL_law_765 : decode cL_law 765 = .ok (.iadd, 1) := dk_o18 (dk_u1 (b := 96) ((dkg_11 61).trans rfl))
theorem dL_law_766 : decode cL_law 766 = .ok (.iaload, 1) := dk_o14 (dk_u1 (b := 46) ((dkg_11 62).trans rfl))
theorem dL_law_767 : decode cL_law 767 = .ok (.aload_n 0, 1) := dk_o9 (dk_u1 (b := 42) ((dkg_11 63).trans rfl))
theorem dL_law_768 : decode cL_law 768 = .ok (.iload 4, 2) := dk_o8 (dk_u1 (b := 21) ((dkg_12 0).trans rfl)) (dk_u1 (b := 4) ((dkg_12 1).trans rfl))
theorem dL_law_770 : decode cL_law 770 = .ok (.iconst 3, 1) := dk_o32 (dk_u1 (b := 6) ((dkg_12 2).trans rfl))
theorem dL_law_771 : decode cL_law 771 = .ok (.iadd, 1) := dk_o18 (dk_u1 (b := 96) ((dkg_12 3).trans rfl))
theorem dL_law_772 : decode cL_law 772 = .ok (.iaload, 1) := dk_o14 (dk_u1 (b := 46) ((dkg_12 4).trans rfl))
theorem dL_law_773 : decode cL_law 773 = .ok (.invokevirtual 212, 3) := dk_o23 (dk_u1 (b := 182) ((dkg_12 5).trans rfl)) (dk_u2 (dk_u1 (b := 0) ((dkg_12 6).trans rfl)) (dk_u1 (b := 212) ((dkg_12 7).trans rfl)))
theorem dL_law_776 : decode cL_law 776 = .ok (.istore 6, 2) := dk_o7 (dk_u1 (b := 54) ((dkg_12 8).trans rfl)) (dk_u1 (b := 6) ((dkg_12 9).trans rfl))
theorem dL_law_778 : decode cL_law 778 = .ok (.goto 1479, 3) := dk_o24 (dk_u1 (b := 167) ((dkg_12 10).trans rfl)) (dk_s2 (dk_u2 (dk_u1 (b := 5) ((dkg_12 11).trans rfl)) (dk_u1 (b := 199) ((dkg_12 12).trans rfl))) (by decide +kernel))
theorem dL_law_781 : decode cL_law 781 = .ok (.aload_n 1, 1) := dk_o16 (dk_u1 (b := 43) ((dkg_12 13).trans rfl))
theorem dL_law_782 : decode cL_law 782 = .ok (.aload_n 0, 1) := dk_o9 (dk_u1 (b := 42) ((dkg_12 14).trans rfl))
theorem dL_law_783 : decode cL_law 783 = .ok (.iload 4, 2) := dk_o8 (dk_u1 (b := 21) ((dkg_12 15).trans rfl)) (dk_u1 (b := 4) ((dkg_12 16).trans rfl))
theorem dL_law_785 : decode cL_law 785 = .ok (.iconst 1, 1) := dk_o17 (dk_u1 (b := 4) ((dkg_12 17).trans rfl))
theorem dL_law_786 : decode cL_law 786 = .ok (.iadd, 1) := dk_o18 (dk_u1 (b := 96) ((dkg_12 18).trans rfl))
theorem dL_law_787 : decode cL_law 787 = .ok (.iaload, 1) := dk_o14 (dk_u1 (b := 46) ((dkg_12 19).trans rfl))
theorem dL_law_788 : decode cL_law 788 = .ok (.aload_n 0, 1) := dk_o9 (dk_u1 (b := 42) ((dkg_12 20).trans rfl))
theorem dL_law_789 : decode cL_law 789 = .ok (.iload 4, 2) := dk_o8 (dk_u1 (b := 21) ((dkg_12 21).trans rfl)) (dk_u1 (b := 4) ((dkg_12 22).trans rfl))
theorem dL_law_791 : decode cL_law 791 = .ok (.iconst 2, 1) := dk_o19 (dk_u1 (b := 5) ((dkg_12 23).trans rfl))
theorem dL_law_792 : decode cL_law 792 = .ok (.iadd, 1) := dk_o18 (dk_u1 (b := 96) ((dkg_12 24).trans rfl))
theorem dL_law_793 : decode cL_law 793 = .ok (.iaload, 1) := dk_o14 (dk_u1 (b := 46) ((dkg_12 25).trans rfl))
theorem dL_law_794 : decode cL_law 794 = .ok (.aload_n 0, 1) := dk_o9 (dk_u1 (b := 42) ((dkg_12 26).trans rfl))
theorem dL_law_795 : decode cL_law 795 = .ok (.iload 4, 2) := dk_o8 (dk_u1 (b := 21) ((dkg_12 27).trans rfl)) (dk_u1 (b := 4) ((dkg_12 28).trans rfl))
theorem dL_law_797 : decode cL_law 797 = .ok (.iconst 3, 1) := dk_o32 (dk_u1 (b := 6) ((dkg_12 29).trans rfl))
theorem dL_law_798 : decode cL_law 798 = .ok (.iadd, 1) := dk_o18 (dk_u1 (b := 96) ((dkg_12 30).trans rfl))
theorem dL_law_799 : decode cL_law 799 = .ok (.iaload, 1) := dk_o14 (dk_u1 (b := 46) ((dkg_12 31).trans rfl))
theorem dL_law_800 : decode cL_law 800 = .ok (.aload_n 3, 1) := dk_o20 (dk_u1 (b := 45) ((dkg_12 32).trans rfl))
theorem dL_law_801 : decode cL_law 801 = .ok (.invokestatic 213, 3) := dk_o21 (dk_u1 (b := 184) ((dkg_12 33).trans rfl)) (dk_u2 (dk_u1 (b := 0) ((dkg_12 34).trans rfl)) (dk_u1 (b := 213) ((dkg_12 35).trans rfl)))
theorem dL_law_804 : decode cL_law 804 = .ok (.istore 5, 2) := dk_o7 (dk_u1 (b := 54) ((dkg_12 36).trans rfl)) (dk_u1 (b := 5) ((dkg_12 37).trans rfl))
theorem dL_law_806 : decode cL_law 806 = .ok (.aload_n 2, 1) := dk_o22 (dk_u1 (b := 44) ((dkg_12 38).trans rfl))
theorem dL_law_807 : decode cL_law 807 = .ok (.aload_n 0, 1) := dk_o9 (dk_u1 (b := 42) ((dkg_12 39).trans rfl))
theorem dL_law_808 : decode cL_law 808 = .ok (.iload 4, 2) := dk_o8 (dk_u1 (b := 21) ((dkg_12 40).trans rfl)) (dk_u1 (b := 4) ((dkg_12 41).trans rfl))
theorem dL_law_810 : decode cL_law 810 = .ok (.iconst 1, 1) := dk_o17 (dk_u1 (b := 4) ((dkg_12 42).trans rfl))
theorem dL_law_811 : decode cL_law 811 = .ok (.iadd, 1) := dk_o18 (dk_u1 (b := 96) ((dkg_12 43).trans rfl))
theorem dL_law_812 : decode cL_law 812 = .ok (.iaload, 1) := dk_o14 (dk_u1 (b := 46) ((dkg_12 44).trans rfl))
theorem dL_law_813 : decode cL_law 813 = .ok (.aload_n 0, 1) := dk_o9 (dk_u1 (b := 42) ((dkg_12 45).trans rfl))
theorem dL_law_814 : decode cL_law 814 = .ok (.iload 4, 2) := dk_o8 (dk_u1 (b := 21) ((dkg_12 46).trans rfl)) (dk_u1 (b := 4) ((dkg_12 47).trans rfl))
theorem dL_law_816 : decode cL_law 816 = .ok (.iconst 2, 1) := dk_o19 (dk_u1 (b := 5) ((dkg_12 48).trans rfl))
theorem dL_law_817 : decode cL_law 817 = .ok (.iadd, 1) := dk_o18 (dk_u1 (b := 96) ((dkg_12 49).trans rfl))
theorem dL_law_818 : decode cL_law 818 = .ok (.iaload, 1) := dk_o14 (dk_u1 (b := 46) ((dkg_12 50).trans rfl))
theorem dL_law_819 : decode cL_law 819 = .ok (.aload_n 0, 1) := dk_o9 (dk_u1 (b := 42) ((dkg_12 51).trans rfl))
theorem dL_law_820 : decode cL_law 820 = .ok (.iload 4, 2) := dk_o8 (dk_u1 (b := 21) ((dkg_12 52).trans rfl)) (dk_u1 (b := 4) ((dkg_12 53).trans rfl))
theorem dL_law_822 : decode cL_law 822 = .ok (.iconst 3, 1) := dk_o32 (dk_u1 (b := 6) ((dkg_12 54).trans rfl))
theorem dL_law_823 : decode cL_law 823 = .ok (.iadd, 1) := dk_o18 (dk_u1 (b := 96) ((dkg_12 55).trans rfl))
theorem dL_law_824 : decode cL_law 824 = .ok (.iaload, 1) := dk_o14 (dk_u1 (b := 46) ((dkg_12 56).trans rfl))
theorem dL_law_825 : decode cL_law 825 = .ok (.invokevirtual 215, 3) := dk_o23 (dk_u1 (b := 182) ((dkg_12 57).trans rfl)) (dk_u2 (dk_u1 (b := 0) ((dkg_12 58).trans rfl)) (dk_u1 (b := 215) ((dkg_12 59).trans rfl)))
theorem dL_law_828 : decode cL_law 828 = .ok (.istore 6, 2) := dk_o7 (dk_u1 (b := 54) ((dkg_12 60).trans rfl)) (dk_u1 (b := 6) ((dkg_12 61).trans rfl))
theorem dL_law_830 : decode cL_law 830 = .ok (.goto 1427, 3) := dk_o24 (dk_u1 (b := 167) ((dkg_12 62).trans rfl)) (dk_s2 (dk_u2 (dk_u1 (b := 5) ((dkg_12 63).trans rfl)) (dk_u1 (b := 147) ((dkg_13 0).trans rfl))) (by decide +kernel))
theorem dL_law_833 : decode cL_law 833 = .ok (.aload_n 1, 1) := dk_o16 (dk_u1 (b := 43) ((dkg_13 1).trans rfl))
theorem dL_law_834 : decode cL_law 834 = .ok (.aload_n 0, 1) := dk_o9 (dk_u1 (b := 42) ((dkg_13 2).trans rfl))
theorem dL_law_835 : decode cL_law 835 = .ok (.iload 4, 2) := dk_o8 (dk_u1 (b := 21) ((dkg_13 3).trans rfl)) (dk_u1 (b := 4) ((dkg_13 4).trans rfl))
theorem dL_law_837 : decode cL_law 837 = .ok (.iconst 1, 1) := dk_o17 (dk_u1 (b := 4) ((dkg_13 5).trans rfl))
theorem dL_law_838 : decode cL_law 838 = .ok (.iadd, 1) := dk_o18 (dk_u1 (b := 96) ((dkg_13 6).trans rfl))
theorem dL_law_839 : decode cL_law 839 = .ok (.iaload, 1) := dk_o14 (dk_u1 (b := 46) ((dkg_13 7).trans rfl))
theorem dL_law_840 : decode cL_law 840 = .ok (.aload_n 0, 1) := dk_o9 (dk_u1 (b := 42) ((dkg_13 8).trans rfl))
theorem dL_law_841 : decode cL_law 841 = .ok (.iload 4, 2) := dk_o8 (dk_u1 (b := 21) ((dkg_13 9).trans rfl)) (dk_u1 (b := 4) ((dkg_13 10).trans rfl))
theorem dL_law_843 : decode cL_law 843 = .ok (.iconst 2, 1) := dk_o19 (dk_u1 (b := 5) ((dkg_13 11).trans rfl))
theorem dL_law_844 : decode cL_law 844 = .ok (.iadd, 1) := dk_o18 (dk_u1 (b := 96) ((dkg_13 12).trans rfl))
theorem dL_law_845 : decode cL_law 845 = .ok (.iaload, 1) := dk_o14 (dk_u1 (b := 46) ((dkg_13 13).trans rfl))
theorem dL_law_846 : decode cL_law 846 = .ok (.aload_n 0, 1) := dk_o9 (dk_u1 (b := 42) ((dkg_13 14).trans rfl))
theorem dL_law_847 : decode cL_law 847 = .ok (.iload 4, 2) := dk_o8 (dk_u1 (b := 21) ((dkg_13 15).trans rfl)) (dk_u1 (b := 4) ((dkg_13 16).trans rfl))
theorem dL_law_849 : decode cL_law 849 = .ok (.iconst 3, 1) := dk_o32 (dk_u1 (b := 6) ((dkg_13 17).trans rfl))
theorem dL_law_850 : decode cL_law 850 = .ok (.iadd, 1) := dk_o18 (dk_u1 (b := 96) ((dkg_13 18).trans rfl))
theorem dL_law_851 : decode cL_law 851 = .ok (.iaload, 1) := dk_o14 (dk_u1 (b := 46) ((dkg_13 19).trans rfl))
theorem dL_law_852 : decode cL_law 852 = .ok (.aload_n 0, 1) := dk_o9 (dk_u1 (b := 42) ((dkg_13 20).trans rfl))
theorem dL_law_853 : decode cL_law 853 = .ok (.iload 4, 2) := dk_o8 (dk_u1 (b := 21) ((dkg_13 21).trans rfl)) (dk_u1 (b := 4) ((dkg_13 22).trans rfl))
theorem dL_law_855 : decode cL_law 855 = .ok (.iconst 4, 1) := dk_o33 (dk_u1 (b := 7) ((dkg_13 23).trans rfl))
theorem dL_law_856 : decode cL_law 856 = .ok (.iadd, 1) := dk_o18 (dk_u1 (b := 96) ((dkg_13 24).trans rfl))
theorem dL_law_857 : decode cL_law 857 = .ok (.iaload, 1) := dk_o14 (dk_u1 (b := 46) ((dkg_13 25).trans rfl))
theorem dL_law_858 : decode cL_law 858 = .ok (.aload_n 3, 1) := dk_o20 (dk_u1 (b := 45) ((dkg_13 26).trans rfl))
theorem dL_law_859 : decode cL_law 859 = .ok (.invokestatic 216, 3) := dk_o21 (dk_u1 (b := 184) ((dkg_13 27).trans rfl)) (dk_u2 (dk_u1 (b := 0) ((dkg_13 28).trans rfl)) (dk_u1 (b := 216) ((dkg_13 29).trans rfl)))
theorem dL_law_862 : decode cL_law 862 = .ok (.istore 5, 2) := dk_o7 (dk_u1 (b := 54) ((dkg_13 30).trans rfl)) (dk_u1 (b := 5) ((dkg_13 31).trans rfl))
theorem dL_law_864 : decode cL_law 864 = .ok (.aload_n 2, 1) := dk_o22 (dk_u1 (b := 44) ((dkg_13 32).trans rfl))
theorem dL_law_865 : decode cL_law 865 = .ok (.aload_n 0, 1) := dk_o9 (dk_u1 (b := 42) ((dkg_13 33).trans rfl))
theorem dL_law_866 : decode cL_law 866 = .ok (.iload 4, 2) := dk_o8 (dk_u1 (b := 21) ((dkg_13 34).trans rfl)) (dk_u1 (b := 4) ((dkg_13 35).trans rfl))
theorem dL_law_868 : decode cL_law 868 = .ok (.iconst 1, 1) := dk_o17 (dk_u1 (b := 4) ((dkg_13 36).trans rfl))
theorem dL_law_869 : decode cL_law 869 = .ok (.iadd, 1) := dk_o18 (dk_u1 (b := 96) ((dkg_13 37).trans rfl))
theorem dL_law_870 : decode cL_law 870 = .ok (.iaload, 1) := dk_o14 (dk_u1 (b := 46) ((dkg_13 38).trans rfl))
theorem dL_law_871 : decode cL_law 871 = .ok (.aload_n 0, 1) := dk_o9 (dk_u1 (b := 42) ((dkg_13 39).trans rfl))
theorem dL_law_872 : decode cL_law 872 = .ok (.iload 4, 2) := dk_o8 (dk_u1 (b := 21) ((dkg_13 40).trans rfl)) (dk_u1 (b := 4) ((dkg_13 41).trans rfl))
theorem dL_law_874 : decode cL_law 874 = .ok (.iconst 2, 1) := dk_o19 (dk_u1 (b := 5) ((dkg_13 42).trans rfl))
theorem dL_law_875 : decode cL_law 875 = .ok (.iadd, 1) := dk_o18 (dk_u1 (b := 96) ((dkg_13 43).trans rfl))
theorem dL_law_876 : decode cL_law 876 = .ok (.iaload, 1) := dk_o14 (dk_u1 (b := 46) ((dkg_13 44).trans rfl))
theorem dL_law_877 : decode cL_law 877 = .ok (.aload_n 0, 1) := dk_o9 (dk_u1 (b := 42) ((dkg_13 45).trans rfl))
theorem dL_law_878 : decode cL_law 878 = .ok (.iload 4, 2) := dk_o8 (dk_u1 (b := 21) ((dkg_13 46).trans rfl)) (dk_u1 (b := 4) ((dkg_13 47).trans rfl))
theorem dL_law_880 : decode cL_law 880 = .ok (.iconst 3, 1) := dk_o32 (dk_u1 (b := 6) ((dkg_13 48).trans rfl))
theorem dL_law_881 : decode cL_law 881 = .ok (.iadd, 1) := dk_o18 (dk_u1 (b := 96) ((dkg_13 49).trans rfl))
theorem dL_law_882 : decode cL_law 882 = .ok (.iaload, 1) := dk_o14 (dk_u1 (b := 46) ((dkg_13 50).trans rfl))
theorem dL_law_883 : decode cL_law 883 = .ok (.aload_n 0, 1) := dk_o9 (dk_u1 (b := 42) ((dkg_13 51).trans rfl))
theorem dL_law_884 : decode cL_law 884 = .ok (.iload 4, 2) := dk_o8 (dk_u1 (b := 21) ((dkg_13 52).trans rfl)) (dk_u1 (b := 4) ((dkg_13 53).trans rfl))
theorem dL_law_886 : decode cL_law 886 = .ok (.iconst 4, 1) := dk_o33 (dk_u1 (b := 7) ((dkg_13 54).trans rfl))
theorem dL_law_887 : decode cL_law 887 = .ok (.iadd, 1) := dk_o18 (dk_u1 (b := 96) ((dkg_13 55).trans rfl))
theorem dL_law_888 : decode cL_law 888 = .ok (.iaload, 1) := dk_o14 (dk_u1 (b := 46) ((dkg_13 56).trans rfl))
theorem dL_law_889 : decode cL_law 889 = .ok (.invokevirtual 219, 3) := dk_o23 (dk_u1 (b := 182) ((dkg_13 57).trans rfl)) (dk_u2 (dk_u1 (b := 0) ((dkg_13 58).trans rfl)) (dk_u1 (b := 219) ((dkg_13 59).trans rfl)))
theorem dL_law_892 : decode cL_law 892 = .ok (.istore 6, 2) := dk_o7 (dk_u1 (b := 54) ((dkg_13 60).trans rfl)) (dk_u1 (b := 6) ((dkg_13 61).trans rfl))
theorem dL_law_894 : decode cL_law 894 = .ok (.goto 1363, 3) := dk_o24 (dk_u1 (b := 167) ((dkg_13 62).trans rfl)) (dk_s2 (dk_u2 (dk_u1 (b := 5) ((dkg_13 63).trans rfl)) (dk_u1 (b := 83) ((dkg_14 0).trans rfl))) (by decide +kernel))
theorem dL_law_897 : decode cL_law 897 = .ok (.aload_n 1, 1) := dk_o16 (dk_u1 (b := 43) ((dkg_14 1).trans rfl))
theorem dL_law_898 : decode cL_law 898 = .ok (.aload_n 0, 1) := dk_o9 (dk_u1 (b := 42) ((dkg_14 2).trans rfl))
theorem dL_law_899 : decode cL_law 899 = .ok (.iload 4, 2) := dk_o8 (dk_u1 (b := 21) ((dkg_14 3).trans rfl)) (dk_u1 (b := 4) ((dkg_14 4).trans rfl))
theorem dL_law_901 : decode cL_law 901 = .ok (.iconst 1, 1) := dk_o17 (dk_u1 (b := 4) ((dkg_14 5).trans rfl))
theorem dL_law_902 : decode cL_law 902 = .ok (.iadd, 1) := dk_o18 (dk_u1 (b := 96) ((dkg_14 6).trans rfl))
theorem dL_law_903 : decode cL_law 903 = .ok (.iaload, 1) := dk_o14 (dk_u1 (b := 46) ((dkg_14 7).trans rfl))
theorem dL_law_904 : decode cL_law 904 = .ok (.aload_n 0, 1) := dk_o9 (dk_u1 (b := 42) ((dkg_14 8).trans rfl))
theorem dL_law_905 : decode cL_law 905 = .ok (.iload 4, 2) := dk_o8 (dk_u1 (b := 21) ((dkg_14 9).trans rfl)) (dk_u1 (b := 4) ((dkg_14 10).trans rfl))
theorem dL_law_907 : decode cL_law 907 = .ok (.iconst 2, 1) := dk_o19 (dk_u1 (b := 5) ((dkg_14 11).trans rfl))
theorem dL_law_908 : decode cL_law 908 = .ok (.iadd, 1) := dk_o18 (dk_u1 (b := 96) ((dkg_14 12).trans rfl))
theorem dL_law_909 : decode cL_law 909 = .ok (.iaload, 1) := dk_o14 (dk_u1 (b := 46) ((dkg_14 13).trans rfl))
theorem dL_law_910 : decode cL_law 910 = .ok (.aload_n 0, 1) := dk_o9 (dk_u1 (b := 42) ((dkg_14 14).trans rfl))
theorem dL_law_911 : decode cL_law 911 = .ok (.iload 4, 2) := dk_o8 (dk_u1 (b := 21) ((dkg_14 15).trans rfl)) (dk_u1 (b := 4) ((dkg_14 16).trans rfl))
theorem dL_law_913 : decode cL_law 913 = .ok (.iconst 3, 1) := dk_o32 (dk_u1 (b := 6) ((dkg_14 17).trans rfl))
theorem dL_law_914 : decode cL_law 914 = .ok (.iadd, 1) := dk_o18 (dk_u1 (b := 96) ((dkg_14 18).trans rfl))
theorem dL_law_915 : decode cL_law 915 = .ok (.iaload, 1) := dk_o14 (dk_u1 (b := 46) ((dkg_14 19).trans rfl))
theorem dL_law_916 : decode cL_law 916 = .ok (.aload_n 3, 1) := dk_o20 (dk_u1 (b := 45) ((dkg_14 20).trans rfl))
theorem dL_law_917 : decode cL_law 917 = .ok (.invokestatic 220, 3) := dk_o21 (dk_u1 (b := 184) ((dkg_14 21).trans rfl)) (dk_u2 (dk_u1 (b := 0) ((dkg_14 22).trans rfl)) (dk_u1 (b := 220) ((dkg_14 23).trans rfl)))
theorem dL_law_920 : decode cL_law 920 = .ok (.istore 5, 2) := dk_o7 (dk_u1 (b := 54) ((dkg_14 24).trans rfl)) (dk_u1 (b := 5) ((dkg_14 25).trans rfl))
theorem dL_law_922 : decode cL_law 922 = .ok (.aload_n 2, 1) := dk_o22 (dk_u1 (b := 44) ((dkg_14 26).trans rfl))
theorem dL_law_923 : decode cL_law 923 = .ok (.aload_n 0, 1) := dk_o9 (dk_u1 (b := 42) ((dkg_14 27).trans rfl))
theorem dL_law_924 : decode cL_law 924 = .ok (.iload 4, 2) := dk_o8 (dk_u1 (b := 21) ((dkg_14 28).trans rfl)) (dk_u1 (b := 4) ((dkg_14 29).trans rfl))
theorem dL_law_926 : decode cL_law 926 = .ok (.iconst 1, 1) := dk_o17 (dk_u1 (b := 4) ((dkg_14 30).trans rfl))
theorem dL_law_927 : decode cL_law 927 = .ok (.iadd, 1) := dk_o18 (dk_u1 (b := 96) ((dkg_14 31).trans rfl))
theorem dL_law_928 : decode cL_law 928 = .ok (.iaload, 1) := dk_o14 (dk_u1 (b := 46) ((dkg_14 32).trans rfl))
theorem dL_law_929 : decode cL_law 929 = .ok (.aload_n 0, 1) := dk_o9 (dk_u1 (b := 42) ((dkg_14 33).trans rfl))
theorem dL_law_930 : decode cL_law 930 = .ok (.iload 4, 2) := dk_o8 (dk_u1 (b := 21) ((dkg_14 34).trans rfl)) (dk_u1 (b := 4) ((dkg_14 35).trans rfl))
theorem dL_law_932 : decode cL_law 932 = .ok (.iconst 2, 1) := dk_o19 (dk_u1 (b := 5) ((dkg_14 36).trans rfl))
theorem dL_law_933 : decode cL_law 933 = .ok (.iadd, 1) := dk_o18 (dk_u1 (b := 96) ((dkg_14 37).trans rfl))
theorem dL_law_934 : decode cL_law 934 = .ok (.iaload, 1) := dk_o14 (dk_u1 (b := 46) ((dkg_14 38).trans rfl))
theorem dL_law_935 : decode cL_law 935 = .ok (.aload_n 0, 1) := dk_o9 (dk_u1 (b := 42) ((dkg_14 39).trans rfl))
theorem dL_law_936 : decode cL_law 936 = .ok (.iload 4, 2) := dk_o8 (dk_u1 (b := 21) ((dkg_14 40).trans rfl)) (dk_u1 (b := 4) ((dkg_14 41).trans rfl))
theorem dL_law_938 : decode cL_law 938 = .ok (.iconst 3, 1) := dk_o32 (dk_u1 (b := 6) ((dkg_14 42).trans rfl))
theorem dL_law_939 : decode cL_law 939 = .ok (.iadd, 1) := dk_o18 (dk_u1 (b := 96) ((dkg_14 43).trans rfl))
theorem dL_law_940 : decode cL_law 940 = .ok (.iaload, 1) := dk_o14 (dk_u1 (b := 46) ((dkg_14 44).trans rfl))
theorem dL_law_941 : decode cL_law 941 = .ok (.invokevirtual 222, 3) := dk_o23 (dk_u1 (b := 182) ((dkg_14 45).trans rfl)) (dk_u2 (dk_u1 (b := 0) ((dkg_14 46).trans rfl)) (dk_u1 (b := 222) ((dkg_14 47).trans rfl)))
theorem dL_law_944 : decode cL_law 944 = .ok (.istore 6, 2) := dk_o7 (dk_u1 (b := 54) ((dkg_14 48).trans rfl)) (dk_u1 (b := 6) ((dkg_14 49).trans rfl))
theorem dL_law_946 : decode cL_law 946 = .ok (.goto 1311, 3) := dk_o24 (dk_u1 (b := 167) ((dkg_14 50).trans rfl)) (dk_s2 (dk_u2 (dk_u1 (b := 5) ((dkg_14 51).trans rfl)) (dk_u1 (b := 31) ((dkg_14 52).trans rfl))) (by decide +kernel))
theorem dL_law_949 : decode cL_law 949 = .ok (.aload_n 1, 1) := dk_o16 (dk_u1 (b := 43) ((dkg_14 53).trans rfl))
theorem dL_law_950 : decode cL_law 950 = .ok (.aload_n 0, 1) := dk_o9 (dk_u1 (b := 42) ((dkg_14 54).trans rfl))
theorem dL_law_951 : decode cL_law 951 = .ok (.iload 4, 2) := dk_o8 (dk_u1 (b := 21) ((dkg_14 55).trans rfl)) (dk_u1 (b := 4) ((dkg_14 56).trans rfl))
theorem dL_law_953 : decode cL_law 953 = .ok (.iconst 1, 1) := dk_o17 (dk_u1 (b := 4) ((dkg_14 57).trans rfl))
theorem dL_law_954 : decode cL_law 954 = .ok (.iadd, 1) := dk_o18 (dk_u1 (b := 96) ((dkg_14 58).trans rfl))
theorem dL_law_955 : decode cL_law 955 = .ok (.iaload, 1) := dk_o14 (dk_u1 (b := 46) ((dkg_14 59).trans rfl))
theorem dL_law_956 : decode cL_law 956 = .ok (.aload_n 0, 1) := dk_o9 (dk_u1 (b := 42) ((dkg_14 60).trans rfl))
theorem dL_law_957 : decode cL_law 957 = .ok (.iload 4, 2) := dk_o8 (dk_u1 (b := 21) ((dkg_14 61).trans rfl)) (dk_u1 (b := 4) ((dkg_14 62).trans rfl))
theorem dL_law_959 : decode cL_law 959 = .ok (.iconst 2, 1) := dk_o19 (dk_u1 (b := 5) ((dkg_14 63).trans rfl))
theorem dL_law_960 : decode cL_law 960 = .ok (.iadd, 1) := dk_o18 (dk_u1 (b := 96) ((dkg_15 0).trans rfl))
theorem dL_law_961 : decode cL_law 961 = .ok (.iaload, 1) := dk_o14 (dk_u1 (b := 46) ((dkg_15 1).trans rfl))
theorem dL_law_962 : decode cL_law 962 = .ok (.aload_n 0, 1) := dk_o9 (dk_u1 (b := 42) ((dkg_15 2).trans rfl))
theorem dL_law_963 : decode cL_law 963 = .ok (.iload 4, 2) := dk_o8 (dk_u1 (b := 21) ((dkg_15 3).trans rfl)) (dk_u1 (b := 4) ((dkg_15 4).trans rfl))
theorem dL_law_965 : decode cL_law 965 = .ok (.iconst 3, 1) := dk_o32 (dk_u1 (b := 6) ((dkg_15 5).trans rfl))
theorem dL_law_966 : decode cL_law 966 = .ok (.iadd, 1) := dk_o18 (dk_u1 (b := 96) ((dkg_15 6).trans rfl))
theorem dL_law_967 : decode cL_law 967 = .ok (.iaload, 1) := dk_o14 (dk_u1 (b := 46) ((dkg_15 7).trans rfl))
theorem dL_law_968 : decode cL_law 968 = .ok (.aload_n 0, 1) := dk_o9 (dk_u1 (b := 42) ((dkg_15 8).trans rfl))
theorem dL_law_969 : decode cL_law 969 = .ok (.iload 4, 2) := dk_o8 (dk_u1 (b := 21) ((dkg_15 9).trans rfl)) (dk_u1 (b := 4) ((dkg_15 10).trans rfl))
theorem dL_law_971 : decode cL_law 971 = .ok (.iconst 4, 1) := dk_o33 (dk_u1 (b := 7) ((dkg_15 11).trans rfl))
theorem dL_law_972 : decode cL_law 972 = .ok (.iadd, 1) := dk_o18 (dk_u1 (b := 96) ((dkg_15 12).trans rfl))
theorem dL_law_973 : decode cL_law 973 = .ok (.iaload, 1) := dk_o14 (dk_u1 (b := 46) ((dkg_15 13).trans rfl))
theorem dL_law_974 : decode cL_law 974 = .ok (.aload_n 3, 1) := dk_o20 (dk_u1 (b := 45) ((dkg_15 14).trans rfl))
theorem dL_law_975 : decode cL_law 975 = .ok (.invokestatic 223, 3) := dk_o21 (dk_u1 (b := 184) ((dkg_15 15).trans rfl)) (dk_u2 (dk_u1 (b := 0) ((dkg_15 16).trans rfl)) (dk_u1 (b := 223) ((dkg_15 17).trans rfl)))
theorem dL_law_978 : decode cL_law 978 = .ok (.istore 5, 2) := dk_o7 (dk_u1 (b := 54) ((dkg_15 18).trans rfl)) (dk_u1 (b := 5) ((dkg_15 19).trans rfl))
theorem dL_law_980 : decode cL_law 980 = .ok (.aload_n 2, 1) := dk_o22 (dk_u1 (b := 44) ((dkg_15 20).trans rfl))
theorem dL_law_981 : decode cL_law 981 = .ok (.aload_n 0, 1) := dk_o9 (dk_u1 (b := 42) ((dkg_15 21).trans rfl))
theorem dL_law_982 : decode cL_law 982 = .ok (.iload 4, 2) := dk_o8 (dk_u1 (b := 21) ((dkg_15 22).trans rfl)) (dk_u1 (b := 4) ((dkg_15 23).trans rfl))
theorem dL_law_984 : decode cL_law 984 = .ok (.iconst 1, 1) := dk_o17 (dk_u1 (b := 4) ((dkg_15 24).trans rfl))
theorem dL_law_985 : decode cL_law 985 = .ok (.iadd, 1) := dk_o18 (dk_u1 (b := 96) ((dkg_15 25).trans rfl))
theorem dL_law_986 : decode cL_law 986 = .ok (.iaload, 1) := dk_o14 (dk_u1 (b := 46) ((dkg_15 26).trans rfl))
theorem dL_law_987 : decode cL_law 987 = .ok (.aload_n 0, 1) := dk_o9 (dk_u1 (b := 42) ((dkg_15 27).trans rfl))
theorem dL_law_988 : decode cL_law 988 = .ok (.iload 4, 2) := dk_o8 (dk_u1 (b := 21) ((dkg_15 28).trans rfl)) (dk_u1 (b := 4) ((dkg_15 29).trans rfl))
theorem dL_law_990 : decode cL_law 990 = .ok (.iconst 2, 1) := dk_o19 (dk_u1 (b := 5) ((dkg_15 30).trans rfl))
theorem dL_law_991 : decode cL_law 991 = .ok (.iadd, 1) := dk_o18 (dk_u1 (b := 96) ((dkg_15 31).trans rfl))
theorem dL_law_992 : decode cL_law 992 = .ok (.iaload, 1) := dk_o14 (dk_u1 (b := 46) ((dkg_15 32).trans rfl))
theorem dL_law_993 : decode cL_law 993 = .ok (.aload_n 0, 1) := dk_o9 (dk_u1 (b := 42) ((dkg_15 33).trans rfl))
theorem dL_law_994 : decode cL_law 994 = .ok (.iload 4, 2) := dk_o8 (dk_u1 (b := 21) ((dkg_15 34).trans rfl)) (dk_u1 (b := 4) ((dkg_15 35).trans rfl))
theorem dL_law_996 : decode cL_law 996 = .ok (.iconst 3, 1) := dk_o32 (dk_u1 (b := 6) ((dkg_15 36).trans rfl))
theorem dL_law_997 : decode cL_law 997 = .ok (.iadd, 1) := dk_o18 (dk_u1 (b := 96) ((dkg_15 37).trans rfl))
theorem dL_law_998 : decode cL_law 998 = .ok (.iaload, 1) := dk_o14 (dk_u1 (b := 46) ((dkg_15 38).trans rfl))
theorem dL_law_999 : decode cL_law 999 = .ok (.aload_n 0, 1) := dk_o9 (dk_u1 (b := 42) ((dkg_15 39).trans rfl))
theorem dL_law_1000 : decode cL_law 1000 = .ok (.iload 4, 2) := dk_o8 (dk_u1 (b := 21) ((dkg_15 40).trans rfl)) (dk_u1 (b := 4) ((dkg_15 41).trans rfl))
theorem dL_law_1002 : decode cL_law 1002 = .ok (.iconst 4, 1) := dk_o33 (dk_u1 (b := 7) ((dkg_15 42).trans rfl))
theorem dL_law_1003 : decode cL_law 1003 = .ok (.iadd, 1) := dk_o18 (dk_u1 (b := 96) ((dkg_15 43).trans rfl))
theorem dL_law_1004 : decode cL_law 1004 = .ok (.iaload, 1) := dk_o14 (dk_u1 (b := 46) ((dkg_15 44).trans rfl))
theorem dL_law_1005 : decode cL_law 1005 = .ok (.invokevirtual 225, 3) := dk_o23 (dk_u1 (b := 182) ((dkg_15 45).trans rfl)) (dk_u2 (dk_u1 (b := 0) ((dkg_15 46).trans rfl)) (dk_u1 (b := 225) ((dkg_15 47).trans rfl)))
theorem dL_law_1008 : decode cL_law 1008 = .ok (.istore 6, 2) := dk_o7 (dk_u1 (b := 54) ((dkg_15 48).trans rfl)) (dk_u1 (b := 6) ((dkg_15 49).trans rfl))
theorem dL_law_1010 : decode cL_law 1010 = .ok (.goto 1247, 3) := dk_o24 (dk_u1 (b := 167) ((dkg_15 50).trans rfl)) (dk_s2 (dk_u2 (dk_u1 (b := 4) ((dkg_15 51).trans rfl)) (dk_u1 (b := 223) ((dkg_15 52).trans rfl))) (by decide +kernel))
theorem dL_law_1013 : decode cL_law 1013 = .ok (.aload_n 1, 1) := dk_o16 (dk_u1 (b := 43) ((dkg_15 53).trans rfl))
theorem dL_law_1014 : decode cL_law 1014 = .ok (.aload_n 0, 1) := dk_o9 (dk_u1 (b := 42) ((dkg_15 54).trans rfl))
theorem dL_law_1015 : decode cL_law 1015 = .ok (.iload 4, 2) := dk_o8 (dk_u1 (b := 21) ((dkg_15 55).trans rfl)) (dk_u1 (b := 4) ((dkg_15 56).trans rfl))
theorem dL_law_1017 : decode cL_law 1017 = .ok (.iconst 1, 1) := dk_o17 (dk_u1 (b := 4) ((dkg_15 57).trans rfl))
theorem dL_law_1018 : decode cL_law 1018 = .ok (.iadd, 1) := dk_o18 (dk_u1 (b := 96) ((dkg_15 58).trans rfl))
theorem dL_law_1019 : decode cL_law 1019 = .ok (.iaload, 1) := dk_o14 (dk_u1 (b := 46) ((dkg_15 59).trans rfl))
theorem dL_law_1020 : decode cL_law 1020 = .ok (.aload_n 0, 1) := dk_o9 (dk_u1 (b := 42) ((dkg_15 60).trans rfl))
theorem dL_law_1021 : decode cL_law 1021 = .ok (.iload 4, 2) := dk_o8 (dk_u1 (b := 21) ((dkg_15 61).trans rfl)) (dk_u1 (b := 4) ((dkg_15 62).trans rfl))
theorem dL_law_1023 : decode cL_law 1023 = .ok (.iconst 2, 1) := dk_o19 (dk_u1 (b := 5) ((dkg_15 63).trans rfl))
theorem dL_law_1024 : decode cL_law 1024 = .ok (.iadd, 1) := dk_o18 (dk_u1 (b := 96) ((dkg_16 0).trans rfl))
theorem dL_law_1025 : decode cL_law 1025 = .ok (.iaload, 1) := dk_o14 (dk_u1 (b := 46) ((dkg_16 1).trans rfl))
theorem dL_law_1026 : decode cL_law 1026 = .ok (.aload_n 0, 1) := dk_o9 (dk_u1 (b := 42) ((dkg_16 2).trans rfl))
theorem dL_law_1027 : decode cL_law 1027 = .ok (.iload 4, 2) := dk_o8 (dk_u1 (b := 21) ((dkg_16 3).trans rfl)) (dk_u1 (b := 4) ((dkg_16 4).trans rfl))
theorem dL_law_1029 : decode cL_law 1029 = .ok (.iconst 3, 1) := dk_o32 (dk_u1 (b := 6) ((dkg_16 5).trans rfl))
theorem dL_law_1030 : decode cL_law 1030 = .ok (.iadd, 1) := dk_o18 (dk_u1 (b := 96) ((dkg_16 6).trans rfl))
theorem dL_law_1031 : decode cL_law 1031 = .ok (.iaload, 1) := dk_o14 (dk_u1 (b := 46) ((dkg_16 7).trans rfl))
theorem dL_law_1032 : decode cL_law 1032 = .ok (.aload_n 0, 1) := dk_o9 (dk_u1 (b := 42) ((dkg_16 8).trans rfl))
theorem dL_law_1033 : decode cL_law 1033 = .ok (.iload 4, 2) := dk_o8 (dk_u1 (b := 21) ((dkg_16 9).trans rfl)) (dk_u1 (b := 4) ((dkg_16 10).trans rfl))
theorem dL_law_1035 : decode cL_law 1035 = .ok (.iconst 4, 1) := dk_o33 (dk_u1 (b := 7) ((dkg_16 11).trans rfl))
theorem dL_law_1036 : decode cL_law 1036 = .ok (.iadd, 1) := dk_o18 (dk_u1 (b := 96) ((dkg_16 12).trans rfl))
theorem dL_law_1037 : decode cL_law 1037 = .ok (.iaload, 1) := dk_o14 (dk_u1 (b := 46) ((dkg_16 13).trans rfl))
theorem dL_law_1038 : decode cL_law 1038 = .ok (.aload_n 3, 1) := dk_o20 (dk_u1 (b := 45) ((dkg_16 14).trans rfl))
theorem dL_law_1039 : decode cL_law 1039 = .ok (.invokestatic 226, 3) := dk_o21 (dk_u1 (b := 184) ((dkg_16 15).trans rfl)) (dk_u2 (dk_u1 (b := 0) ((dkg_16 16).trans rfl)) (dk_u1 (b := 226) ((dkg_16 17).trans rfl)))
theorem dL_law_1042 : decode cL_law 1042 = .ok (.istore 5, 2) := dk_o7 (dk_u1 (b := 54) ((dkg_16 18).trans rfl)) (dk_u1 (b := 5) ((dkg_16 19).trans rfl))
theorem dL_law_1044 : decode cL_law 1044 = .ok (.aload_n 2, 1) := dk_o22 (dk_u1 (b := 44) ((dkg_16 20).trans rfl))
theorem dL_law_1045 : decode cL_law 1045 = .ok (.aload_n 0, 1) := dk_o9 (dk_u1 (b := 42) ((dkg_16 21).trans rfl))
theorem dL_law_1046 : decode cL_law 1046 = .ok (.iload 4, 2) := dk_o8 (dk_u1 (b := 21) ((dkg_16 22).trans rfl)) (dk_u1 (b := 4) ((dkg_16 23).trans rfl))
theorem dL_law_1048 : decode cL_law 1048 = .ok (.iconst 1, 1) := dk_o17 (dk_u1 (b := 4) ((dkg_16 24).trans rfl))
theorem dL_law_1049 : decode cL_law 1049 = .ok (.iadd, 1) := dk_o18 (dk_u1 (b := 96) ((dkg_16 25).trans rfl))
theorem dL_law_1050 : decode cL_law 1050 = .ok (.iaload, 1) := dk_o14 (dk_u1 (b := 46) ((dkg_16 26).trans rfl))
theorem dL_law_1051 : decode cL_law 1051 = .ok (.aload_n 0, 1) := dk_o9 (dk_u1 (b := 42) ((dkg_16 27).trans rfl))
theorem dL_law_1052 : decode cL_law 1052 = .ok (.iload 4, 2) := dk_o8 (dk_u1 (b := 21) ((dkg_16 28).trans rfl)) (dk_u1 (b := 4) ((dkg_16 29).trans rfl))
theorem dL_law_1054 : decode cL_law 1054 = .ok (.iconst 2, 1) := dk_o19 (dk_u1 (b := 5) ((dkg_16 30).trans rfl))
theorem dL_law_1055 : decode cL_law 1055 = .ok (.iadd, 1) := dk_o18 (dk_u1 (b := 96) ((dkg_16 31).trans rfl))
theorem dL_law_1056 : decode cL_law 1056 = .ok (.iaload, 1) := dk_o14 (dk_u1 (b := 46) ((dkg_16 32).trans rfl))
theorem dL_law_1057 : decode cL_law 1057 = .ok (.aload_n 0, 1) := dk_o9 (dk_u1 (b := 42) ((dkg_16 33).trans rfl))
theorem dL_law_1058 : decode cL_law 1058 = .ok (.iload 4, 2) := dk_o8 (dk_u1 (b := 21) ((dkg_16 34).trans rfl)) (dk_u1 (b := 4) ((dkg_16 35).trans rfl))
theorem dL_law_1060 : decode cL_law 1060 = .ok (.iconst 3, 1) := dk_o32 (dk_u1 (b := 6) ((dkg_16 36).trans rfl))
theorem dL_law_1061 : decode cL_law 1061 = .ok (.iadd, 1) := dk_o18 (dk_u1 (b := 96) ((dkg_16 37).trans rfl))
theorem dL_law_1062 : decode cL_law 1062 = .ok (.iaload, 1) := dk_o14 (dk_u1 (b := 46) ((dkg_16 38).trans rfl))
theorem dL_law_1063 : decode cL_law 1063 = .ok (.aload_n 0, 1) := dk_o9 (dk_u1 (b := 42) ((dkg_16 39).trans rfl))
theorem dL_law_1064 : decode cL_law 1064 = .ok (.iload 4, 2) := dk_o8 (dk_u1 (b := 21) ((dkg_16 40).trans rfl)) (dk_u1 (b := 4) ((dkg_16 41).trans rfl))
theorem dL_law_1066 : decode cL_law 1066 = .ok (.iconst 4, 1) := dk_o33 (dk_u1 (b := 7) ((dkg_16 42).trans rfl))
theorem dL_law_1067 : decode cL_law 1067 = .ok (.iadd, 1) := dk_o18 (dk_u1 (b := 96) ((dkg_16 43).trans rfl))
theorem dL_law_1068 : decode cL_law 1068 = .ok (.iaload, 1) := dk_o14 (dk_u1 (b := 46) ((dkg_16 44).trans rfl))
theorem dL_law_1069 : decode cL_law 1069 = .ok (.invokevirtual 228, 3) := dk_o23 (dk_u1 (b := 182) ((dkg_16 45).trans rfl)) (dk_u2 (dk_u1 (b := 0) ((dkg_16 46).trans rfl)) (dk_u1 (b := 228) ((dkg_16 47).trans rfl)))
theorem dL_law_1072 : decode cL_law 1072 = .ok (.istore 6, 2) := dk_o7 (dk_u1 (b := 54) ((dkg_16 48).trans rfl)) (dk_u1 (b := 6) ((dkg_16 49).trans rfl))
theorem dL_law_1074 : decode cL_law 1074 = .ok (.goto 1183, 3) := dk_o24 (dk_u1 (b := 167) ((dkg_16 50).trans rfl)) (dk_s2 (dk_u2 (dk_u1 (b := 4) ((dkg_16 51).trans rfl)) (dk_u1 (b := 159) ((dkg_16 52).trans rfl))) (by decide +kernel))
theorem dL_law_1077 : decode cL_law 1077 = .ok (.aload_n 1, 1) := dk_o16 (dk_u1 (b := 43) ((dkg_16 53).trans rfl))
theorem dL_law_1078 : decode cL_law 1078 = .ok (.aload_n 0, 1) := dk_o9 (dk_u1 (b := 42) ((dkg_16 54).trans rfl))
theorem dL_law_1079 : decode cL_law 1079 = .ok (.iload 4, 2) := dk_o8 (dk_u1 (b := 21) ((dkg_16 55).trans rfl)) (dk_u1 (b := 4) ((dkg_16 56).trans rfl))
theorem dL_law_1081 : decode cL_law 1081 = .ok (.iconst 1, 1) := dk_o17 (dk_u1 (b := 4) ((dkg_16 57).trans rfl))
theorem dL_law_1082 : decode cL_law 1082 = .ok (.iadd, 1) := dk_o18 (dk_u1 (b := 96) ((dkg_16 58).trans rfl))
theorem dL_law_1083 : decode cL_law 1083 = .ok (.iaload, 1) := dk_o14 (dk_u1 (b := 46) ((dkg_16 59).trans rfl))
theorem dL_law_1084 : decode cL_law 1084 = .ok (.aload_n 0, 1) := dk_o9 (dk_u1 (b := 42) ((dkg_16 60).trans rfl))
theorem dL_law_1085 : decode cL_law 1085 = .ok (.iload 4, 2) := dk_o8 (dk_u1 (b := 21) ((dkg_16 61).trans rfl)) (dk_u1 (b := 4) ((dkg_16 62).trans rfl))
theorem dL_law_1087 : decode cL_law 1087 = .ok (.iconst 2, 1) := dk_o19 (dk_u1 (b := 5) ((dkg_16 63).trans rfl))
theorem dL_law_1088 : decode cL_law 1088 = .ok (.iadd, 1) := dk_o18 (dk_u1 (b := 96) ((dkg_17 0).trans rfl))
theorem dL_law_1089 : decode cL_law 1089 = .ok (.iaload, 1) := dk_o14 (dk_u1 (b := 46) ((dkg_17 1).trans rfl))
theorem dL_law_1090 : decode cL_law 1090 = .ok (.aload_n 0, 1) := dk_o9 (dk_u1 (b := 42) ((dkg_17 2).trans rfl))
theorem dL_law_1091 : decode cL_law 1091 = .ok (.iload 4, 2) := dk_o8 (dk_u1 (b := 21) ((dkg_17 3).trans rfl)) (dk_u1 (b := 4) ((dkg_17 4).trans rfl))
theorem dL_law_1093 : decode cL_law 1093 = .ok (.iconst 3, 1) := dk_o32 (dk_u1 (b := 6) ((dkg_17 5).trans rfl))
theorem dL_law_1094 : decode cL_law 1094 = .ok (.iadd, 1) := dk_o18 (dk_u1 (b := 96) ((dkg_17 6).trans rfl))
theorem dL_law_1095 : decode cL_law 1095 = .ok (.iaload, 1) := dk_o14 (dk_u1 (b := 46) ((dkg_17 7).trans rfl))
theorem dL_law_1096 : decode cL_law 1096 = .ok (.aload_n 0, 1) := dk_o9 (dk_u1 (b := 42) ((dkg_17 8).trans rfl))
theorem dL_law_1097 : decode cL_law 1097 = .ok (.iload 4, 2) := dk_o8 (dk_u1 (b := 21) ((dkg_17 9).trans rfl)) (dk_u1 (b := 4) ((dkg_17 10).trans rfl))
theorem dL_law_1099 : decode cL_law 1099 = .ok (.iconst 4, 1) := dk_o33 (dk_u1 (b := 7) ((dkg_17 11).trans rfl))
theorem dL_law_1100 : decode cL_law 1100 = .ok (.iadd, 1) := dk_o18 (dk_u1 (b := 96) ((dkg_17 12).trans rfl))
theorem dL_law_1101 : decode cL_law 1101 = .ok (.iaload, 1) := dk_o14 (dk_u1 (b := 46) ((dkg_17 13).trans rfl))
theorem dL_law_1102 : decode cL_law 1102 = .ok (.aload_n 3, 1) := dk_o20 (dk_u1 (b := 45) ((dkg_17 14).trans rfl))
theorem dL_law_1103 : decode cL_law 1103 = .ok (.invokestatic 229, 3) := dk_o21 (dk_u1 (b := 184) ((dkg_17 15).trans rfl)) (dk_u2 (dk_u1 (b := 0) ((dkg_17 16).trans rfl)) (dk_u1 (b := 229) ((dkg_17 17).trans rfl)))
theorem dL_law_1106 : decode cL_law 1106 = .ok (.istore 5, 2) := dk_o7 (dk_u1 (b := 54) ((dkg_17 18).trans rfl)) (dk_u1 (b := 5) ((dkg_17 19).trans rfl))
theorem dL_law_1108 : decode cL_law 1108 = .ok (.aload_n 2, 1) := dk_o22 (dk_u1 (b := 44) ((dkg_17 20).trans rfl))
theorem dL_law_1109 : decode cL_law 1109 = .ok (.aload_n 0, 1) := dk_o9 (dk_u1 (b := 42) ((dkg_17 21).trans rfl))
theorem dL_law_1110 : decode cL_law 1110 = .ok (.iload 4, 2) := dk_o8 (dk_u1 (b := 21) ((dkg_17 22).trans rfl)) (dk_u1 (b := 4) ((dkg_17 23).trans rfl))
theorem dL_law_1112 : decode cL_law 1112 = .ok (.iconst 1, 1) := dk_o17 (dk_u1 (b := 4) ((dkg_17 24).trans rfl))
theorem dL_law_1113 : decode cL_law 1113 = .ok (.iadd, 1) := dk_o18 (dk_u1 (b := 96) ((dkg_17 25).trans rfl))
theorem dL_law_1114 : decode cL_law 1114 = .ok (.iaload, 1) := dk_o14 (dk_u1 (b := 46) ((dkg_17 26).trans rfl))
theorem dL_law_1115 : decode cL_law 1115 = .ok (.aload_n 0, 1) := dk_o9 (dk_u1 (b := 42) ((dkg_17 27).trans rfl))
theorem dL_law_1116 : decode cL_law 1116 = .ok (.iload 4, 2) := dk_o8 (dk_u1 (b := 21) ((dkg_17 28).trans rfl)) (dk_u1 (b := 4) ((dkg_17 29).trans rfl))
theorem dL_law_1118 : decode cL_law 1118 = .ok (.iconst 2, 1) := dk_o19 (dk_u1 (b := 5) ((dkg_17 30).trans rfl))
theorem dL_law_1119 : decode cL_law 1119 = .ok (.iadd, 1) := dk_o18 (dk_u1 (b := 96) ((dkg_17 31).trans rfl))
theorem dL_law_1120 : decode cL_law 1120 = .ok (.iaload, 1) := dk_o14 (dk_u1 (b := 46) ((dkg_17 32).trans rfl))
theorem dL_law_1121 : decode cL_law 1121 = .ok (.aload_n 0, 1) := dk_o9 (dk_u1 (b := 42) ((dkg_17 33).trans rfl))
theorem dL_law_1122 : decode cL_law 1122 = .ok (.iload 4, 2) := dk_o8 (dk_u1 (b := 21) ((dkg_17 34).trans rfl)) (dk_u1 (b := 4) ((dkg_17 35).trans rfl))
theorem dL_law_1124 : decode cL_law 1124 = .ok (.iconst 3, 1) := dk_o32 (dk_u1 (b := 6) ((dkg_17 36).trans rfl))
theorem dL_law_1125 : decode cL_law 1125 = .ok (.iadd, 1) := dk_o18 (dk_u1 (b := 96) ((dkg_17 37).trans rfl))
theorem dL_law_1126 : decode cL_law 1126 = .ok (.iaload, 1) := dk_o14 (dk_u1 (b := 46) ((dkg_17 38).trans rfl))
theorem dL_law_1127 : decode cL_law 1127 = .ok (.aload_n 0, 1) := dk_o9 (dk_u1 (b := 42) ((dkg_17 39).trans rfl))
theorem dL_law_1128 : decode cL_law 1128 = .ok (.iload 4, 2) := dk_o8 (dk_u1 (b := 21) ((dkg_17 40).trans rfl)) (dk_u1 (b := 4) ((dkg_17 41).trans rfl))
theorem dL_law_1130 : decode cL_law 1130 = .ok (.iconst 4, 1) := dk_o33 (dk_u1 (b := 7) ((dkg_17 42).trans rfl))
theorem dL_law_1131 : decode cL_law 1131 = .ok (.iadd, 1) := dk_o18 (dk_u1 (b := 96) ((dkg_17 43).trans rfl))
theorem dL_law_1132 : decode cL_law 1132 = .ok (.iaload, 1) := dk_o14 (dk_u1 (b := 46) ((dkg_17 44).trans rfl))
theorem dL_law_1133 : decode cL_law 1133 = .ok (.invokevirtual 231, 3) := dk_o23 (dk_u1 (b := 182) ((dkg_17 45).trans rfl)) (dk_u2 (dk_u1 (b := 0) ((dkg_17 46).trans rfl)) (dk_u1 (b := 231) ((dkg_17 47).trans rfl)))
theorem dL_law_1136 : decode cL_law 1136 = .ok (.istore 6, 2) := dk_o7 (dk_u1 (b := 54) ((dkg_17 48).trans rfl)) (dk_u1 (b := 6) ((dkg_17 49).trans rfl))
theorem dL_law_1138 : decode cL_law 1138 = .ok (.goto 1119, 3) := dk_o24 (dk_u1 (b := 167) ((dkg_17 50).trans rfl)) (dk_s2 (dk_u2 (dk_u1 (b := 4) ((dkg_17 51).trans rfl)) (dk_u1 (b := 95) ((dkg_17 52).trans rfl))) (by decide +kernel))
theorem dL_law_1141 : decode cL_law 1141 = .ok (.aload_n 1, 1) := dk_o16 (dk_u1 (b := 43) ((dkg_17 53).trans rfl))
theorem dL_law_1142 : decode cL_law 1142 = .ok (.aload_n 0, 1) := dk_o9 (dk_u1 (b := 42) ((dkg_17 54).trans rfl))
theorem dL_law_1143 : decode cL_law 1143 = .ok (.iload 4, 2) := dk_o8 (dk_u1 (b := 21) ((dkg_17 55).trans rfl)) (dk_u1 (b := 4) ((dkg_17 56).trans rfl))
theorem dL_law_1145 : decode cL_law 1145 = .ok (.iconst 1, 1) := dk_o17 (dk_u1 (b := 4) ((dkg_17 57).trans rfl))
theorem dL_law_1146 : decode cL_law 1146 = .ok (.iadd, 1) := dk_o18 (dk_u1 (b := 96) ((dkg_17 58).trans rfl))
theorem dL_law_1147 : decode cL_law 1147 = .ok (.iaload, 1) := dk_o14 (dk_u1 (b := 46) ((dkg_17 59).trans rfl))
theorem dL_law_1148 : decode cL_law 1148 = .ok (.aload_n 0, 1) := dk_o9 (dk_u1 (b := 42) ((dkg_17 60).trans rfl))
theorem dL_law_1149 : decode cL_law 1149 = .ok (.iload 4, 2) := dk_o8 (dk_u1 (b := 21) ((dkg_17 61).trans rfl)) (dk_u1 (b := 4) ((dkg_17 62).trans rfl))
theorem dL_law_1151 : decode cL_law 1151 = .ok (.iconst 2, 1) := dk_o19 (dk_u1 (b := 5) ((dkg_17 63).trans rfl))
theorem dL_law_1152 : decode cL_law 1152 = .ok (.iadd, 1) := dk_o18 (dk_u1 (b := 96) ((dkg_18 0).trans rfl))
theorem dL_law_1153 : decode cL_law 1153 = .ok (.iaload, 1) := dk_o14 (dk_u1 (b := 46) ((dkg_18 1).trans rfl))
theorem dL_law_1154 : decode cL_law 1154 = .ok (.aload_n 0, 1) := dk_o9 (dk_u1 (b := 42) ((dkg_18 2).trans rfl))
theorem dL_law_1155 : decode cL_law 1155 = .ok (.iload 4, 2) := dk_o8 (dk_u1 (b := 21) ((dkg_18 3).trans rfl)) (dk_u1 (b := 4) ((dkg_18 4).trans rfl))
theorem dL_law_1157 : decode cL_law 1157 = .ok (.iconst 3, 1) := dk_o32 (dk_u1 (b := 6) ((dkg_18 5).trans rfl))
theorem dL_law_1158 : decode cL_law 1158 = .ok (.iadd, 1) := dk_o18 (dk_u1 (b := 96) ((dkg_18 6).trans rfl))
theorem dL_law_1159 : decode cL_law 1159 = .ok (.iaload, 1) := dk_o14 (dk_u1 (b := 46) ((dkg_18 7).trans rfl))
theorem dL_law_1160 : decode cL_law 1160 = .ok (.aload_n 0, 1) := dk_o9 (dk_u1 (b := 42) ((dkg_18 8).trans rfl))
theorem dL_law_1161 : decode cL_law 1161 = .ok (.iload 4, 2) := dk_o8 (dk_u1 (b := 21) ((dkg_18 9).trans rfl)) (dk_u1 (b := 4) ((dkg_18 10).trans rfl))
theorem dL_law_1163 : decode cL_law 1163 = .ok (.iconst 4, 1) := dk_o33 (dk_u1 (b := 7) ((dkg_18 11).trans rfl))
theorem dL_law_1164 : decode cL_law 1164 = .ok (.iadd, 1) := dk_o18 (dk_u1 (b := 96) ((dkg_18 12).trans rfl))
theorem dL_law_1165 : decode cL_law 1165 = .ok (.iaload, 1) := dk_o14 (dk_u1 (b := 46) ((dkg_18 13).trans rfl))
theorem dL_law_1166 : decode cL_law 1166 = .ok (.aload_n 3, 1) := dk_o20 (dk_u1 (b := 45) ((dkg_18 14).trans rfl))
theorem dL_law_1167 : decode cL_law 1167 = .ok (.invokestatic 232, 3) := dk_o21 (dk_u1 (b := 184) ((dkg_18 15).trans rfl)) (dk_u2 (dk_u1 (b := 0) ((dkg_18 16).trans rfl)) (dk_u1 (b := 232) ((dkg_18 17).trans rfl)))
theorem dL_law_1170 : decode cL_law 1170 = .ok (.istore 5, 2) := dk_o7 (dk_u1 (b := 54) ((dkg_18 18).trans rfl)) (dk_u1 (b := 5) ((dkg_18 19).trans rfl))
theorem dL_law_1172 : decode cL_law 1172 = .ok (.aload_n 2, 1) := dk_o22 (dk_u1 (b := 44) ((dkg_18 20).trans rfl))
theorem dL_law_1173 : decode cL_law 1173 = .ok (.aload_n 0, 1) := dk_o9 (dk_u1 (b := 42) ((dkg_18 21).trans rfl))
theorem dL_law_1174 : decode cL_law 1174 = .ok (.iload 4, 2) := dk_o8 (dk_u1 (b := 21) ((dkg_18 22).trans rfl)) (dk_u1 (b := 4) ((dkg_18 23).trans rfl))
theorem dL_law_1176 : decode cL_law 1176 = .ok (.iconst 1, 1) := dk_o17 (dk_u1 (b := 4) ((dkg_18 24).trans rfl))
theorem dL_law_1177 : decode cL_law 1177 = .ok (.iadd, 1) := dk_o18 (dk_u1 (b := 96) ((dkg_18 25).trans rfl))
theorem dL_law_1178 : decode cL_law 1178 = .ok (.iaload, 1) := dk_o14 (dk_u1 (b := 46) ((dkg_18 26).trans rfl))
theorem dL_law_1179 : decode cL_law 1179 = .ok (.aload_n 0, 1) := dk_o9 (dk_u1 (b := 42) ((dkg_18 27).trans rfl))
theorem dL_law_1180 : decode cL_law 1180 = .ok (.iload 4, 2) := dk_o8 (dk_u1 (b := 21) ((dkg_18 28).trans rfl)) (dk_u1 (b := 4) ((dkg_18 29).trans rfl))
theorem dL_law_1182 : decode cL_law 1182 = .ok (.iconst 2, 1) := dk_o19 (dk_u1 (b := 5) ((dkg_18 30).trans rfl))
theorem dL_law_1183 : decode cL_law 1183 = .ok (.iadd, 1) := dk_o18 (dk_u1 (b := 96) ((dkg_18 31).trans rfl))
theorem dL_law_1184 : decode cL_law 1184 = .ok (.iaload, 1) := dk_o14 (dk_u1 (b := 46) ((dkg_18 32).trans rfl))
theorem dL_law_1185 : decode cL_law 1185 = .ok (.aload_n 0, 1) := dk_o9 (dk_u1 (b := 42) ((dkg_18 33).trans rfl))
theorem dL_law_1186 : decode cL_law 1186 = .ok (.iload 4, 2) := dk_o8 (dk_u1 (b := 21) ((dkg_18 34).trans rfl)) (dk_u1 (b := 4) ((dkg_18 35).trans rfl))
theorem dL_law_1188 : decode cL_law 1188 = .ok (.iconst 3, 1) := dk_o32 (dk_u1 (b := 6) ((dkg_18 36).trans rfl))
theorem dL_law_1189 : decode cL_law 1189 = .ok (.iadd, 1) := dk_o18 (dk_u1 (b := 96) ((dkg_18 37).trans rfl))
theorem dL_law_1190 : decode cL_law 1190 = .ok (.iaload, 1) := dk_o14 (dk_u1 (b := 46) ((dkg_18 38).trans rfl))
theorem dL_law_1191 : decode cL_law 1191 = .ok (.aload_n 0, 1) := dk_o9 (dk_u1 (b := 42) ((dkg_18 39).trans rfl))
theorem dL_law_1192 : decode cL_law 1192 = .ok (.iload 4, 2) := dk_o8 (dk_u1 (b := 21) ((dkg_18 40).trans rfl)) (dk_u1 (b := 4) ((dkg_18 41).trans rfl))
theorem dL_law_1194 : decode cL_law 1194 = .ok (.iconst 4, 1) := dk_o33 (dk_u1 (b := 7) ((dkg_18 42).trans rfl))
theorem dL_law_1195 : decode cL_law 1195 = .ok (.iadd, 1) := dk_o18 (dk_u1 (b := 96) ((dkg_18 43).trans rfl))
theorem dL_law_1196 : decode cL_law 1196 = .ok (.iaload, 1) := dk_o14 (dk_u1 (b := 46) ((dkg_18 44).trans rfl))
theorem dL_law_1197 : decode cL_law 1197 = .ok (.invokevirtual 234, 3) := dk_o23 (dk_u1 (b := 182) ((dkg_18 45).trans rfl)) (dk_u2 (dk_u1 (b := 0) ((dkg_18 46).trans rfl)) (dk_u1 (b := 234) ((dkg_18 47).trans rfl)))
theorem dL_law_1200 : decode cL_law 1200 = .ok (.istore 6, 2) := dk_o7 (dk_u1 (b := 54) ((dkg_18 48).trans rfl)) (dk_u1 (b := 6) ((dkg_18 49).trans rfl))
theorem dL_law_1202 : decode cL_law 1202 = .ok (.goto 1055, 3) := dk_o24 (dk_u1 (b := 167) ((dkg_18 50).trans rfl)) (dk_s2 (dk_u2 (dk_u1 (b := 4) ((dkg_18 51).trans rfl)) (dk_u1 (b := 31) ((dkg_18 52).trans rfl))) (by decide +kernel))
theorem dL_law_1205 : decode cL_law 1205 = .ok (.aload_n 1, 1) := dk_o16 (dk_u1 (b := 43) ((dkg_18 53).trans rfl))
theorem dL_law_1206 : decode cL_law 1206 = .ok (.aload_n 0, 1) := dk_o9 (dk_u1 (b := 42) ((dkg_18 54).trans rfl))
theorem dL_law_1207 : decode cL_law 1207 = .ok (.iload 4, 2) := dk_o8 (dk_u1 (b := 21) ((dkg_18 55).trans rfl)) (dk_u1 (b := 4) ((dkg_18 56).trans rfl))
theorem dL_law_1209 : decode cL_law 1209 = .ok (.iconst 1, 1) := dk_o17 (dk_u1 (b := 4) ((dkg_18 57).trans rfl))
theorem dL_law_1210 : decode cL_law 1210 = .ok (.iadd, 1) := dk_o18 (dk_u1 (b := 96) ((dkg_18 58).trans rfl))
theorem dL_law_1211 : decode cL_law 1211 = .ok (.iaload, 1) := dk_o14 (dk_u1 (b := 46) ((dkg_18 59).trans rfl))
theorem dL_law_1212 : decode cL_law 1212 = .ok (.aload_n 0, 1) := dk_o9 (dk_u1 (b := 42) ((dkg_18 60).trans rfl))
theorem dL_law_1213 : decode cL_law 1213 = .ok (.iload 4, 2) := dk_o8 (dk_u1 (b := 21) ((dkg_18 61).trans rfl)) (dk_u1 (b := 4) ((dkg_18 62).trans rfl))
theorem dL_law_1215 : decode cL_law 1215 = .ok (.iconst 2, 1) := dk_o19 (dk_u1 (b := 5) ((dkg_18 63).trans rfl))
theorem dL_law_1216 : decode cL_law 1216 = .ok (.iadd, 1) := dk_o18 (dk_u1 (b := 96) ((dkg_19 0).trans rfl))
theorem dL_law_1217 : decode cL_law 1217 = .ok (.iaload, 1) := dk_o14 (dk_u1 (b := 46) ((dkg_19 1).trans rfl))
theorem dL_law_1218 : decode cL_law 1218 = .ok (.aload_n 3, 1) := dk_o20 (dk_u1 (b := 45) ((dkg_19 2).trans rfl))
theorem dL_law_1219 : decode cL_law 1219 = .ok (.invokestatic 235, 3) := dk_o21 (dk_u1 (b := 184) ((dkg_19 3).trans rfl)) (dk_u2 (dk_u1 (b := 0) ((dkg_19 4).trans rfl)) (dk_u1 (b := 235) ((dkg_19 5).trans rfl)))
theorem dL_law_1222 : decode cL_law 1222 = .ok (.istore 5, 2) := dk_o7 (dk_u1 (b := 54) ((dkg_19 6).trans rfl)) (dk_u1 (b := 5) ((dkg_19 7).trans rfl))
theorem dL_law_1224 : decode cL_law 1224 = .ok (.aload_n 2, 1) := dk_o22 (dk_u1 (b := 44) ((dkg_19 8).trans rfl))
theorem dL_law_1225 : decode cL_law 1225 = .ok (.aload_n 0, 1) := dk_o9 (dk_u1 (b := 42) ((dkg_19 9).trans rfl))
theorem dL_law_1226 : decode cL_law 1226 = .ok (.iload 4, 2) := dk_o8 (dk_u1 (b := 21) ((dkg_19 10).trans rfl)) (dk_u1 (b := 4) ((dkg_19 11).trans rfl))
theorem dL_law_1228 : decode cL_law 1228 = .ok (.iconst 1, 1) := dk_o17 (dk_u1 (b := 4) ((dkg_19 12).trans rfl))
theorem dL_law_1229 : decode cL_law 1229 = .ok (.iadd, 1) := dk_o18 (dk_u1 (b := 96) ((dkg_19 13).trans rfl))
theorem dL_law_1230 : decode cL_law 1230 = .ok (.iaload, 1) := dk_o14 (dk_u1 (b := 46) ((dkg_19 14).trans rfl))
theorem dL_law_1231 : decode cL_law 1231 = .ok (.aload_n 0, 1) := dk_o9 (dk_u1 (b := 42) ((dkg_19 15).trans rfl))
theorem dL_law_1232 : decode cL_law 1232 = .ok (.iload 4, 2) := dk_o8 (dk_u1 (b := 21) ((dkg_19 16).trans rfl)) (dk_u1 (b := 4) ((dkg_19 17).trans rfl))
theorem dL_law_1234 : decode cL_law 1234 = .ok (.iconst 2, 1) := dk_o19 (dk_u1 (b := 5) ((dkg_19 18).trans rfl))
theorem dL_law_1235 : decode cL_law 1235 = .ok (.iadd, 1) := dk_o18 (dk_u1 (b := 96) ((dkg_19 19).trans rfl))
theorem dL_law_1236 : decode cL_law 1236 = .ok (.iaload, 1) := dk_o14 (dk_u1 (b := 46) ((dkg_19 20).trans rfl))
theorem dL_law_1237 : decode cL_law 1237 = .ok (.invokevirtual 237, 3) := dk_o23 (dk_u1 (b := 182) ((dkg_19 21).trans rfl)) (dk_u2 (dk_u1 (b := 0) ((dkg_19 22).trans rfl)) (dk_u1 (b := 237) ((dkg_19 23).trans rfl)))
theorem dL_law_1240 : decode cL_law 1240 = .ok (.istore 6, 2) := dk_o7 (dk_u1 (b := 54) ((dkg_19 24).trans rfl)) (dk_u1 (b := 6) ((dkg_19 25).trans rfl))
theorem dL_law_1242 : decode cL_law 1242 = .ok (.goto 1015, 3) := dk_o24 (dk_u1 (b := 167) ((dkg_19 26).trans rfl)) (dk_s2 (dk_u2 (dk_u1 (b := 3) ((dkg_19 27).trans rfl)) (dk_u1 (b := 247) ((dkg_19 28).trans rfl))) (by decide +kernel))
theorem dL_law_1245 : decode cL_law 1245 = .ok (.aload_n 1, 1) := dk_o16 (dk_u1 (b := 43) ((dkg_19 29).trans rfl))
theorem dL_law_1246 : decode cL_law 1246 = .ok (.aload_n 0, 1) := dk_o9 (dk_u1 (b := 42) ((dkg_19 30).trans rfl))
theorem dL_law_1247 : decode cL_law 1247 = .ok (.iload 4, 2) := dk_o8 (dk_u1 (b := 21) ((dkg_19 31).trans rfl)) (dk_u1 (b := 4) ((dkg_19 32).trans rfl))
theorem dL_law_1249 : decode cL_law 1249 = .ok (.iconst 1, 1) := dk_o17 (dk_u1 (b := 4) ((dkg_19 33).trans rfl))
theorem dL_law_1250 : decode cL_law 1250 = .ok (.iadd, 1) := dk_o18 (dk_u1 (b := 96) ((dkg_19 34).trans rfl))
theorem dL_law_1251 : decode cL_law 1251 = .ok (.iaload, 1) := dk_o14 (dk_u1 (b := 46) ((dkg_19 35).trans rfl))
theorem dL_law_1252 : decode cL_law 1252 = .ok (.aload_n 0, 1) := dk_o9 (dk_u1 (b := 42) ((dkg_19 36).trans rfl))
theorem dL_law_1253 : decode cL_law 1253 = .ok (.iload 4, 2) := dk_o8 (dk_u1 (b := 21) ((dkg_19 37).trans rfl)) (dk_u1 (b := 4) ((dkg_19 38).trans rfl))
theorem dL_law_1255 : decode cL_law 1255 = .ok (.iconst 2, 1) := dk_o19 (dk_u1 (b := 5) ((dkg_19 39).trans rfl))
theorem dL_law_1256 : decode cL_law 1256 = .ok (.iadd, 1) := dk_o18 (dk_u1 (b := 96) ((dkg_19 40).trans rfl))
theorem dL_law_1257 : decode cL_law 1257 = .ok (.iaload, 1) := dk_o14 (dk_u1 (b := 46) ((dkg_19 41).trans rfl))
theorem dL_law_1258 : decode cL_law 1258 = .ok (.aload_n 0, 1) := dk_o9 (dk_u1 (b := 42) ((dkg_19 42).trans rfl))
theorem dL_law_1259 : decode cL_law 1259 = .ok (.iload 4, 2) := dk_o8 (dk_u1 (b := 21) ((dkg_19 43).trans rfl)) (dk_u1 (b := 4) ((dkg_19 44).trans rfl))
theorem dL_law_1261 : decode cL_law 1261 = .ok (.iconst 3, 1) := dk_o32 (dk_u1 (b := 6) ((dkg_19 45).trans rfl))
theorem dL_law_1262 : decode cL_law 1262 = .ok (.iadd, 1) := dk_o18 (dk_u1 (b := 96) ((dkg_19 46).trans rfl))
theorem dL_law_1263 : decode cL_law 1263 = .ok (.iaload, 1) := dk_o14 (dk_u1 (b := 46) ((dkg_19 47).trans rfl))
theorem dL_law_1264 : decode cL_law 1264 = .ok (.aload_n 3, 1) := dk_o20 (dk_u1 (b := 45) ((dkg_19 48).trans rfl))
theorem dL_law_1265 : decode cL_law 1265 = .ok (.invokestatic 238, 3) := dk_o21 (dk_u1 (b := 184) ((dkg_19 49).trans rfl)) (dk_u2 (dk_u1 (b := 0) ((dkg_19 50).trans rfl)) (dk_u1 (b := 238) ((dkg_19 51).trans rfl)))
theorem dL_law_1268 : decode cL_law 1268 = .ok (.istore 5, 2) := dk_o7 (dk_u1 (b := 54) ((dkg_19 52).trans rfl)) (dk_u1 (b := 5) ((dkg_19 53).trans rfl))
theorem dL_law_1270 : decode cL_law 1270 = .ok (.aload_n 2, 1) := dk_o22 (dk_u1 (b := 44) ((dkg_19 54).trans rfl))
theorem dL_law_1271 : decode cL_law 1271 = .ok (.aload_n 0, 1) := dk_o9 (dk_u1 (b := 42) ((dkg_19 55).trans rfl))
theorem dL_law_1272 : decode cL_law 1272 = .ok (.iload 4, 2) := dk_o8 (dk_u1 (b := 21) ((dkg_19 56).trans rfl)) (dk_u1 (b := 4) ((dkg_19 57).trans rfl))
theorem dL_law_1274 : decode cL_law 1274 = .ok (.iconst 1, 1) := dk_o17 (dk_u1 (b := 4) ((dkg_19 58).trans rfl))
theorem dL_law_1275 : decode cL_law 1275 = .ok (.iadd, 1) := dk_o18 (dk_u1 (b := 96) ((dkg_19 59).trans rfl))
theorem dL_law_1276 : decode cL_law 1276 = .ok (.iaload, 1) := dk_o14 (dk_u1 (b := 46) ((dkg_19 60).trans rfl))
theorem dL_law_1277 : decode cL_law 1277 = .ok (.aload_n 0, 1) := dk_o9 (dk_u1 (b := 42) ((dkg_19 61).trans rfl))
theorem dL_law_1278 : decode cL_law 1278 = .ok (.iload 4, 2) := dk_o8 (dk_u1 (b := 21) ((dkg_19 62).trans rfl)) (dk_u1 (b := 4) ((dkg_19 63).trans rfl))
theorem dL_law_1280 : decode cL_law 1280 = .ok (.iconst 2, 1) := dk_o19 (dk_u1 (b := 5) ((dkg_20 0).trans rfl))
theorem dL_law_1281 : decode cL_law 1281 = .ok (.iadd, 1) := dk_o18 (dk_u1 (b := 96) ((dkg_20 1).trans rfl))
theorem dL_law_1282 : decode cL_law 1282 = .ok (.iaload, 1) := dk_o14 (dk_u1 (b := 46) ((dkg_20 2).trans rfl))
theorem dL_law_1283 : decode cL_law 1283 = .ok (.aload_n 0, 1) := dk_o9 (dk_u1 (b := 42) ((dkg_20 3).trans rfl))
theorem dL_law_1284 : decode cL_law 1284 = .ok (.iload 4, 2) := dk_o8 (dk_u1 (b := 21) ((dkg_20 4).trans rfl)) (dk_u1 (b := 4) ((dkg_20 5).trans rfl))
theorem dL_law_1286 : decode cL_law 1286 = .ok (.iconst 3, 1) := dk_o32 (dk_u1 (b := 6) ((dkg_20 6).trans rfl))
theorem dL_law_1287 : decode cL_law 1287 = .ok (.iadd, 1) := dk_o18 (dk_u1 (b := 96) ((dkg_20 7).trans rfl))
theorem dL_law_1288 : decode cL_law 1288 = .ok (.iaload, 1) := dk_o14 (dk_u1 (b := 46) ((dkg_20 8).trans rfl))
theorem dL_law_1289 : decode cL_law 1289 = .ok (.invokevirtual 240, 3) := dk_o23 (dk_u1 (b := 182) ((dkg_20 9).trans rfl)) (dk_u2 (dk_u1 (b := 0) ((dkg_20 10).trans rfl)) (dk_u1 (b := 240) ((dkg_20 11).trans rfl)))
theorem dL_law_1292 : decode cL_law 1292 = .ok (.istore 6, 2) := dk_o7 (dk_u1 (b := 54) ((dkg_20 12).trans rfl)) (dk_u1 (b := 6) ((dkg_20 13).trans rfl))
theorem dL_law_1294 : decode cL_law 1294 = .ok (.goto 963, 3) := dk_o24 (dk_u1 (b := 167) ((dkg_20 14).trans rfl)) (dk_s2 (dk_u2 (dk_u1 (b := 3) ((dkg_20 15).trans rfl)) (dk_u1 (b := 195) ((dkg_20 16).trans rfl))) (by decide +kernel))
theorem dL_law_1297 : decode cL_law 1297 = .ok (.aload_n 1, 1) := dk_o16 (dk_u1 (b := 43) ((dkg_20 17).trans rfl))
theorem dL_law_1298 : decode cL_law 1298 = .ok (.aload_n 0, 1) := dk_o9 (dk_u1 (b := 42) ((dkg_20 18).trans rfl))
theorem dL_law_1299 : decode cL_law 1299 = .ok (.iload 4, 2) := dk_o8 (dk_u1 (b := 21) ((dkg_20 19).trans rfl)) (dk_u1 (b := 4) ((dkg_20 20).trans rfl))
theorem dL_law_1301 : decode cL_law 1301 = .ok (.iconst 1, 1) := dk_o17 (dk_u1 (b := 4) ((dkg_20 21).trans rfl))
theorem dL_law_1302 : decode cL_law 1302 = .ok (.iadd, 1) := dk_o18 (dk_u1 (b := 96) ((dkg_20 22).trans rfl))
theorem dL_law_1303 : decode cL_law 1303 = .ok (.iaload, 1) := dk_o14 (dk_u1 (b := 46) ((dkg_20 23).trans rfl))
theorem dL_law_1304 : decode cL_law 1304 = .ok (.aload_n 3, 1) := dk_o20 (dk_u1 (b := 45) ((dkg_20 24).trans rfl))
theorem dL_law_1305 : decode cL_law 1305 = .ok (.invokestatic 241, 3) := dk_o21 (dk_u1 (b := 184) ((dkg_20 25).trans rfl)) (dk_u2 (dk_u1 (b := 0) ((dkg_20 26).trans rfl)) (dk_u1 (b := 241) ((dkg_20 27).trans rfl)))
theorem dL_law_1308 : decode cL_law 1308 = .ok (.istore 5, 2) := dk_o7 (dk_u1 (b := 54) ((dkg_20 28).trans rfl)) (dk_u1 (b := 5) ((dkg_20 29).trans rfl))
theorem dL_law_1310 : decode cL_law 1310 = .ok (.aload_n 2, 1) := dk_o22 (dk_u1 (b := 44) ((dkg_20 30).trans rfl))
theorem dL_law_1311 : decode cL_law 1311 = .ok (.aload_n 0, 1) := dk_o9 (dk_u1 (b := 42) ((dkg_20 31).trans rfl))
theorem dL_law_1312 : decode cL_law 1312 = .ok (.iload 4, 2) := dk_o8 (dk_u1 (b := 21) ((dkg_20 32).trans rfl)) (dk_u1 (b := 4) ((dkg_20 33).trans rfl))
theorem dL_law_1314 : decode cL_law 1314 = .ok (.iconst 1, 1) := dk_o17 (dk_u1 (b := 4) ((dkg_20 34).trans rfl))
theorem dL_law_1315 : decode cL_law 1315 = .ok (.iadd, 1) := dk_o18 (dk_u1 (b := 96) ((dkg_20 35).trans rfl))
theorem dL_law_1316 : decode cL_law 1316 = .ok (.iaload, 1) := dk_o14 (dk_u1 (b := 46) ((dkg_20 36).trans rfl))
theorem dL_law_1317 : decode cL_law 1317 = .ok (.invokevirtual 243, 3) := dk_o23 (dk_u1 (b := 182) ((dkg_20 37).trans rfl)) (dk_u2 (dk_u1 (b := 0) ((dkg_20 38).trans rfl)) (dk_u1 (b := 243) ((dkg_20 39).trans rfl)))
theorem dL_law_1320 : decode cL_law 1320 = .ok (.istore 6, 2) := dk_o7 (dk_u1 (b := 54) ((dkg_20 40).trans rfl)) (dk_u1 (b := 6) ((dkg_20 41).trans rfl))
theorem dL_law_1322 : decode cL_law 1322 = .ok (.goto 935, 3) := dk_o24 (dk_u1 (b := 167) ((dkg_20 42).trans rfl)) (dk_s2 (dk_u2 (dk_u1 (b := 3) ((dkg_20 43).trans rfl)) (dk_u1 (b := 167) ((dkg_20 44).trans rfl))) (by decide +kernel))
theorem dL_law_1325 : decode cL_law 1325 = .ok (.aload_n 1, 1) := dk_o16 (dk_u1 (b := 43) ((dkg_20 45).trans rfl))
theorem dL_law_1326 : decode cL_law 1326 = .ok (.aload_n 0, 1) := dk_o9 (dk_u1 (b := 42) ((dkg_20 46).trans rfl))
theorem dL_law_1327 : decode cL_law 1327 = .ok (.iload 4, 2) := dk_o8 (dk_u1 (b := 21) ((dkg_20 47).trans rfl)) (dk_u1 (b := 4) ((dkg_20 48).trans rfl))
theorem dL_law_1329 : decode cL_law 1329 = .ok (.iconst 1, 1) := dk_o17 (dk_u1 (b := 4) ((dkg_20 49).trans rfl))
theorem dL_law_1330 : decode cL_law 1330 = .ok (.iadd, 1) := dk_o18 (dk_u1 (b := 96) ((dkg_20 50).trans rfl))
theorem dL_law_1331 : decode cL_law 1331 = .ok (.iaload, 1) := dk_o14 (dk_u1 (b := 46) ((dkg_20 51).trans rfl))
theorem dL_law_1332 : decode cL_law 1332 = .ok (.aload_n 0, 1) := dk_o9 (dk_u1 (b := 42) ((dkg_20 52).trans rfl))
theorem dL_law_1333 : decode cL_law 1333 = .ok (.iload 4, 2) := dk_o8 (dk_u1 (b := 21) ((dkg_20 53).trans rfl)) (dk_u1 (b := 4) ((dkg_20 54).trans rfl))
theorem dL_law_1335 : decode cL_law 1335 = .ok (.iconst 2, 1) := dk_o19 (dk_u1 (b := 5) ((dkg_20 55).trans rfl))
theorem dL_law_1336 : decode cL_law 1336 = .ok (.iadd, 1) := dk_o18 (dk_u1 (b := 96) ((dkg_20 56).trans rfl))
theorem dL_law_1337 : decode cL_law 1337 = .ok (.iaload, 1) := dk_o14 (dk_u1 (b := 46) ((dkg_20 57).trans rfl))
theorem dL_law_1338 : decode cL_law 1338 = .ok (.aload_n 0, 1) := dk_o9 (dk_u1 (b := 42) ((dkg_20 58).trans rfl))
theorem dL_law_1339 : decode cL_law 1339 = .ok (.iload 4, 2) := dk_o8 (dk_u1 (b := 21) ((dkg_20 59).trans rfl)) (dk_u1 (b := 4) ((dkg_20 60).trans rfl))
theorem dL_law_1341 : decode cL_law 1341 = .ok (.iconst 3, 1) := dk_o32 (dk_u1 (b := 6) ((dkg_20 61).trans rfl))
theorem dL_law_1342 : decode cL_law 1342 = .ok (.iadd, 1) := dk_o18 (dk_u1 (b := 96) ((dkg_20 62).trans rfl))
theorem dL_law_1343 : decode cL_law 1343 = .ok (.iaload, 1) := dk_o14 (dk_u1 (b := 46) ((dkg_20 63).trans rfl))
theorem dL_law_1344 : decode cL_law 1344 = .ok (.aload_n 0, 1) := dk_o9 (dk_u1 (b := 42) ((dkg_21 0).trans rfl))
theorem dL_law_1345 : decode cL_law 1345 = .ok (.iload 4, 2) := dk_o8 (dk_u1 (b := 21) ((dkg_21 1).trans rfl)) (dk_u1 (b := 4) ((dkg_21 2).trans rfl))
theorem dL_law_1347 : decode cL_law 1347 = .ok (.iconst 4, 1) := dk_o33 (dk_u1 (b := 7) ((dkg_21 3).trans rfl))
theorem dL_law_1348 : decode cL_law 1348 = .ok (.iadd, 1) := dk_o18 (dk_u1 (b := 96) ((dkg_21 4).trans rfl))
theorem dL_law_1349 : decode cL_law 1349 = .ok (.iaload, 1) := dk_o14 (dk_u1 (b := 46) ((dkg_21 5).trans rfl))
theorem dL_law_1350 : decode cL_law 1350 = .ok (.aload_n 3, 1) := dk_o20 (dk_u1 (b := 45) ((dkg_21 6).trans rfl))
theorem dL_law_1351 : decode cL_law 1351 = .ok (.invokestatic 244, 3) := dk_o21 (dk_u1 (b := 184) ((dkg_21 7).trans rfl)) (dk_u2 (dk_u1 (b := 0) ((dkg_21 8).trans rfl)) (dk_u1 (b := 244) ((dkg_21 9).trans rfl)))
theorem dL_law_1354 : decode cL_law 1354 = .ok (.istore 5, 2) := dk_o7 (dk_u1 (b := 54) ((dkg_21 10).trans rfl)) (dk_u1 (b := 5) ((dkg_21 11).trans rfl))
theorem dL_law_1356 : decode cL_law 1356 = .ok (.aload_n 2, 1) := dk_o22 (dk_u1 (b := 44) ((dkg_21 12).trans rfl))
theorem dL_law_1357 : decode cL_law 1357 = .ok (.aload_n 0, 1) := dk_o9 (dk_u1 (b := 42) ((dkg_21 13).trans rfl))
theorem dL_law_1358 : decode cL_law 1358 = .ok (.iload 4, 2) := dk_o8 (dk_u1 (b := 21) ((dkg_21 14).trans rfl)) (dk_u1 (b := 4) ((dkg_21 15).trans rfl))
theorem dL_law_1360 : decode cL_law 1360 = .ok (.iconst 1, 1) := dk_o17 (dk_u1 (b := 4) ((dkg_21 16).trans rfl))
theorem dL_law_1361 : decode cL_law 1361 = .ok (.iadd, 1) := dk_o18 (dk_u1 (b := 96) ((dkg_21 17).trans rfl))
theorem dL_law_1362 : decode cL_law 1362 = .ok (.iaload, 1) := dk_o14 (dk_u1 (b := 46) ((dkg_21 18).trans rfl))
theorem dL_law_1363 : decode cL_law 1363 = .ok (.aload_n 0, 1) := dk_o9 (dk_u1 (b := 42) ((dkg_21 19).trans rfl))
theorem dL_law_1364 : decode cL_law 1364 = .ok (.iload 4, 2) := dk_o8 (dk_u1 (b := 21) ((dkg_21 20).trans rfl)) (dk_u1 (b := 4) ((dkg_21 21).trans rfl))
theorem dL_law_1366 : decode cL_law 1366 = .ok (.iconst 2, 1) := dk_o19 (dk_u1 (b := 5) ((dkg_21 22).trans rfl))
theorem dL_law_1367 : decode cL_law 1367 = .ok (.iadd, 1) := dk_o18 (dk_u1 (b := 96) ((dkg_21 23).trans rfl))
theorem dL_law_1368 : decode cL_law 1368 = .ok (.iaload, 1) := dk_o14 (dk_u1 (b := 46) ((dkg_21 24).trans rfl))
theorem dL_law_1369 : decode cL_law 1369 = .ok (.aload_n 0, 1) := dk_o9 (dk_u1 (b := 42) ((dkg_21 25).trans rfl))
theorem dL_law_1370 : decode cL_law 1370 = .ok (.iload 4, 2) := dk_o8 (dk_u1 (b := 21) ((dkg_21 26).trans rfl)) (dk_u1 (b := 4) ((dkg_21 27).trans rfl))
theorem dL_law_1372 : decode cL_law 1372 = .ok (.iconst 3, 1) := dk_o32 (dk_u1 (b := 6) ((dkg_21 28).trans rfl))
theorem dL_law_1373 : decode cL_law 1373 = .ok (.iadd, 1) := dk_o18 (dk_u1 (b := 96) ((dkg_21 29).trans rfl))
theorem dL_law_1374 : decode cL_law 1374 = .ok (.iaload, 1) := dk_o14 (dk_u1 (b := 46) ((dkg_21 30).trans rfl))
theorem dL_law_1375 : decode cL_law 1375 = .ok (.aload_n 0, 1) := dk_o9 (dk_u1 (b := 42) ((dkg_21 31).trans rfl))
theorem dL_law_1376 : decode cL_law 1376 = .ok (.iload 4, 2) := dk_o8 (dk_u1 (b := 21) ((dkg_21 32).trans rfl)) (dk_u1 (b := 4) ((dkg_21 33).trans rfl))
theorem dL_law_1378 : decode cL_law 1378 = .ok (.iconst 4, 1) := dk_o33 (dk_u1 (b := 7) ((dkg_21 34).trans rfl))
theorem dL_law_1379 : decode cL_law 1379 = .ok (.iadd, 1) := dk_o18 (dk_u1 (b := 96) ((dkg_21 35).trans rfl))
theorem dL_law_1380 : decode cL_law 1380 = .ok (.iaload, 1) := dk_o14 (dk_u1 (b := 46) ((dkg_21 36).trans rfl))
theorem dL_law_1381 : decode cL_law 1381 = .ok (.invokevirtual 246, 3) := dk_o23 (dk_u1 (b := 182) ((dkg_21 37).trans rfl)) (dk_u2 (dk_u1 (b := 0) ((dkg_21 38).trans rfl)) (dk_u1 (b := 246) ((dkg_21 39).trans rfl)))
theorem dL_law_1384 : decode cL_law 1384 = .ok (.istore 6, 2) := dk_o7 (dk_u1 (b := 54) ((dkg_21 40).trans rfl)) (dk_u1 (b := 6) ((dkg_21 41).trans rfl))
theorem dL_law_1386 : decode cL_law 1386 = .ok (.goto 871, 3) := dk_o24 (dk_u1 (b := 167) ((dkg_21 42).trans rfl)) (dk_s2 (dk_u2 (dk_u1 (b := 3) ((dkg_21 43).trans rfl)) (dk_u1 (b := 103) ((dkg_21 44).trans rfl))) (by decide +kernel))
theorem dL_law_1389 : decode cL_law 1389 = .ok (.aload_n 1, 1) := dk_o16 (dk_u1 (b := 43) ((dkg_21 45).trans rfl))
theorem dL_law_1390 : decode cL_law 1390 = .ok (.aload_n 0, 1) := dk_o9 (dk_u1 (b := 42) ((dkg_21 46).trans rfl))
theorem dL_law_1391 : decode cL_law 1391 = .ok (.iload 4, 2) := dk_o8 (dk_u1 (b := 21) ((dkg_21 47).trans rfl)) (dk_u1 (b := 4) ((dkg_21 48).trans rfl))
theorem dL_law_1393 : decode cL_law 1393 = .ok (.iconst 1, 1) := dk_o17 (dk_u1 (b := 4) ((dkg_21 49).trans rfl))
theorem dL_law_1394 : decode cL_law 1394 = .ok (.iadd, 1) := dk_o18 (dk_u1 (b := 96) ((dkg_21 50).trans rfl))
theorem dL_law_1395 : decode cL_law 1395 = .ok (.iaload, 1) := dk_o14 (dk_u1 (b := 46) ((dkg_21 51).trans rfl))
theorem dL_law_1396 : decode cL_law 1396 = .ok (.aload_n 0, 1) := dk_o9 (dk_u1 (b := 42) ((dkg_21 52).trans rfl))
theorem dL_law_1397 : decode cL_law 1397 = .ok (.iload 4, 2) := dk_o8 (dk_u1 (b := 21) ((dkg_21 53).trans rfl)) (dk_u1 (b := 4) ((dkg_21 54).trans rfl))
theorem dL_law_1399 : decode cL_law 1399 = .ok (.iconst 2, 1) := dk_o19 (dk_u1 (b := 5) ((dkg_21 55).trans rfl))
theorem dL_law_1400 : decode cL_law 1400 = .ok (.iadd, 1) := dk_o18 (dk_u1 (b := 96) ((dkg_21 56).trans rfl))
theorem dL_law_1401 : decode cL_law 1401 = .ok (.iaload, 1) := dk_o14 (dk_u1 (b := 46) ((dkg_21 57).trans rfl))
theorem dL_law_1402 : decode cL_law 1402 = .ok (.aload_n 0, 1) := dk_o9 (dk_u1 (b := 42) ((dkg_21 58).trans rfl))
theorem dL_law_1403 : decode cL_law 1403 = .ok (.iload 4, 2) := dk_o8 (dk_u1 (b := 21) ((dkg_21 59).trans rfl)) (dk_u1 (b := 4) ((dkg_21 60).trans rfl))
theorem dL_law_1405 : decode cL_law 1405 = .ok (.iconst 3, 1) := dk_o32 (dk_u1 (b := 6) ((dkg_21 61).trans rfl))
theorem dL_law_1406 : decode cL_law 1406 = .ok (.iadd, 1) := dk_o18 (dk_u1 (b := 96) ((dkg_21 62).trans rfl))
theorem dL_law_1407 : decode cL_law 1407 = .ok (.iaload, 1) := dk_o14 (dk_u1 (b := 46) ((dkg_21 63).trans rfl))
theorem dL_law_1408 : decode cL_law 1408 = .ok (.aload_n 0, 1) := dk_o9 (dk_u1 (b := 42) ((dkg_22 0).trans rfl))
theorem dL_law_1409 : decode cL_law 1409 = .ok (.iload 4, 2) := dk_o8 (dk_u1 (b := 21) ((dkg_22 1).trans rfl)) (dk_u1 (b := 4) ((dkg_22 2).trans rfl))
theorem dL_law_1411 : decode cL_law 1411 = .ok (.iconst 4, 1) := dk_o33 (dk_u1 (b := 7) ((dkg_22 3).trans rfl))
theorem dL_law_1412 : decode cL_law 1412 = .ok (.iadd, 1) := dk_o18 (dk_u1 (b := 96) ((dkg_22 4).trans rfl))
theorem dL_law_1413 : decode cL_law 1413 = .ok (.iaload, 1) := dk_o14 (dk_u1 (b := 46) ((dkg_22 5).trans rfl))
theorem dL_law_1414 : decode cL_law 1414 = .ok (.aload_n 0, 1) := dk_o9 (dk_u1 (b := 42) ((dkg_22 6).trans rfl))
theorem dL_law_1415 : decode cL_law 1415 = .ok (.iload 4, 2) := dk_o8 (dk_u1 (b := 21) ((dkg_22 7).trans rfl)) (dk_u1 (b := 4) ((dkg_22 8).trans rfl))
theorem dL_law_1417 : decode cL_law 1417 = .ok (.iconst 5, 1) := dk_o34 (dk_u1 (b := 8) ((dkg_22 9).trans rfl))
theorem dL_law_1418 : decode cL_law 1418 = .ok (.iadd, 1) := dk_o18 (dk_u1 (b := 96) ((dkg_22 10).trans rfl))
theorem dL_law_1419 : decode cL_law 1419 = .ok (.iaload, 1) := dk_o14 (dk_u1 (b := 46) ((dkg_22 11).trans rfl))
theorem dL_law_1420 : decode cL_law 1420 = .ok (.aload_n 3, 1) := dk_o20 (dk_u1 (b := 45) ((dkg_22 12).trans rfl))
theorem dL_law_1421 : decode cL_law 1421 = .ok (.invokestatic 247, 3) := dk_o21 (dk_u1 (b := 184) ((dkg_22 13).trans rfl)) (dk_u2 (dk_u1 (b := 0) ((dkg_22 14).trans rfl)) (dk_u1 (b := 247) ((dkg_22 15).trans rfl)))
theorem dL_law_1424 : decode cL_law 1424 = .ok (.istore 5, 2) := dk_o7 (dk_u1 (b := 54) ((dkg_22 16).trans rfl)) (dk_u1 (b := 5) ((dkg_22 17).trans rfl))
theorem dL_law_1426 : decode cL_law 1426 = .ok (.aload_n 2, 1) := dk_o22 (dk_u1 (b := 44) ((dkg_22 18).trans rfl))
theorem dL_law_1427 : decode cL_law 1427 = .ok (.aload_n 0, 1) := dk_o9 (dk_u1 (b := 42) ((dkg_22 19).trans rfl))
theorem dL_law_1428 : decode cL_law 1428 = .ok (.iload 4, 2) := dk_o8 (dk_u1 (b := 21) ((dkg_22 20).trans rfl)) (dk_u1 (b := 4) ((dkg_22 21).trans rfl))
theorem dL_law_1430 : decode cL_law 1430 = .ok (.iconst 1, 1) := dk_o17 (dk_u1 (b := 4) ((dkg_22 22).trans rfl))
theorem dL_law_1431 : decode cL_law 1431 = .ok (.iadd, 1) := dk_o18 (dk_u1 (b := 96) ((dkg_22 23).trans rfl))
theorem dL_law_1432 : decode cL_law 1432 = .ok (.iaload, 1) := dk_o14 (dk_u1 (b := 46) ((dkg_22 24).trans rfl))
theorem dL_law_1433 : decode cL_law 1433 = .ok (.aload_n 0, 1) := dk_o9 (dk_u1 (b := 42) ((dkg_22 25).trans rfl))
theorem dL_law_1434 : decode cL_law 1434 = .ok (.iload 4, 2) := dk_o8 (dk_u1 (b := 21) ((dkg_22 26).trans rfl)) (dk_u1 (b := 4) ((dkg_22 27).trans rfl))
theorem dL_law_1436 : decode cL_law 1436 = .ok (.iconst 2, 1) := dk_o19 (dk_u1 (b := 5) ((dkg_22 28).trans rfl))
theorem dL_law_1437 : decode cL_law 1437 = .ok (.iadd, 1) := dk_o18 (dk_u1 (b := 96) ((dkg_22 29).trans rfl))
theorem dL_law_1438 : decode cL_law 1438 = .ok (.iaload, 1) := dk_o14 (dk_u1 (b := 46) ((dkg_22 30).trans rfl))
theorem dL_law_1439 : decode cL_law 1439 = .ok (.aload_n 0, 1) := dk_o9 (dk_u1 (b := 42) ((dkg_22 31).trans rfl))
theorem dL_law_1440 : decode cL_law 1440 = .ok (.iload 4, 2) := dk_o8 (dk_u1 (b := 21) ((dkg_22 32).trans rfl)) (dk_u1 (b := 4) ((dkg_22 33).trans rfl))
theorem dL_law_1442 : decode cL_law 1442 = .ok (.iconst 3, 1) := dk_o32 (dk_u1 (b := 6) ((dkg_22 34).trans rfl))
theorem dL_law_1443 : decode cL_law 1443 = .ok (.iadd, 1) := dk_o18 (dk_u1 (b := 96) ((dkg_22 35).trans rfl))
theorem dL_law_1444 : decode cL_law 1444 = .ok (.iaload, 1) := dk_o14 (dk_u1 (b := 46) ((dkg_22 36).trans rfl))
theorem dL_law_1445 : decode cL_law 1445 = .ok (.aload_n 0, 1) := dk_o9 (dk_u1 (b := 42) ((dkg_22 37).trans rfl))
theorem dL_law_1446 : decode cL_law 1446 = .ok (.iload 4, 2) := dk_o8 (dk_u1 (b := 21) ((dkg_22 38).trans rfl)) (dk_u1 (b := 4) ((dkg_22 39).trans rfl))
theorem dL_law_1448 : decode cL_law 1448 = .ok (.iconst 4, 1) := dk_o33 (dk_u1 (b := 7) ((dkg_22 40).trans rfl))
theorem dL_law_1449 : decode cL_law 1449 = .ok (.iadd, 1) := dk_o18 (dk_u1 (b := 96) ((dkg_22 41).trans rfl))
theorem dL_law_1450 : decode cL_law 1450 = .ok (.iaload, 1) := dk_o14 (dk_u1 (b := 46) ((dkg_22 42).trans rfl))
theorem dL_law_1451 : decode cL_law 1451 = .ok (.aload_n 0, 1) := dk_o9 (dk_u1 (b := 42) ((dkg_22 43).trans rfl))
theorem dL_law_1452 : decode cL_law 1452 = .ok (.iload 4, 2) := dk_o8 (dk_u1 (b := 21) ((dkg_22 44).trans rfl)) (dk_u1 (b := 4) ((dkg_22 45).trans rfl))
theorem dL_law_1454 : decode cL_law 1454 = .ok (.iconst 5, 1) := dk_o34 (dk_u1 (b := 8) ((dkg_22 46).trans rfl))
theorem dL_law_1455 : decode cL_law 1455 = .ok (.iadd, 1) := dk_o18 (dk_u1 (b := 96) ((dkg_22 47).trans rfl))
theorem dL_law_1456 : decode cL_law 1456 = .ok (.iaload, 1) := dk_o14 (dk_u1 (b := 46) ((dkg_22 48).trans rfl))
theorem dL_law_1457 : decode cL_law 1457 = .ok (.invokevirtual 250, 3) := dk_o23 (dk_u1 (b := 182) ((dkg_22 49).trans rfl)) (dk_u2 (dk_u1 (b := 0) ((dkg_22 50).trans rfl)) (dk_u1 (b := 250) ((dkg_22 51).trans rfl)))
theorem dL_law_1460 : decode cL_law 1460 = .ok (.istore 6, 2) := dk_o7 (dk_u1 (b := 54) ((dkg_22 52).trans rfl)) (dk_u1 (b := 6) ((dkg_22 53).trans rfl))
theorem dL_law_1462 : decode cL_law 1462 = .ok (.goto 795, 3) := dk_o24 (dk_u1 (b := 167) ((dkg_22 54).trans rfl)) (dk_s2 (dk_u2 (dk_u1 (b := 3) ((dkg_22 55).trans rfl)) (dk_u1 (b := 27) ((dkg_22 56).trans rfl))) (by decide +kernel))
theorem dL_law_1465 : decode cL_law 1465 = .ok (.aload_n 1, 1) := dk_o16 (dk_u1 (b := 43) ((dkg_22 57).trans rfl))
theorem dL_law_1466 : decode cL_law 1466 = .ok (.aload_n 0, 1) := dk_o9 (dk_u1 (b := 42) ((dkg_22 58).trans rfl))
theorem dL_law_1467 : decode cL_law 1467 = .ok (.iload 4, 2) := dk_o8 (dk_u1 (b := 21) ((dkg_22 59).trans rfl)) (dk_u1 (b := 4) ((dkg_22 60).trans rfl))
theorem dL_law_1469 : decode cL_law 1469 = .ok (.iconst 1, 1) := dk_o17 (dk_u1 (b := 4) ((dkg_22 61).trans rfl))
theorem dL_law_1470 : decode cL_law 1470 = .ok (.iadd, 1) := dk_o18 (dk_u1 (b := 96) ((dkg_22 62).trans rfl))
theorem dL_law_1471 : decode cL_law 1471 = .ok (.iaload, 1) := dk_o14 (dk_u1 (b := 46) ((dkg_22 63).trans rfl))
theorem dL_law_1472 : decode cL_law 1472 = .ok (.aload_n 0, 1) := dk_o9 (dk_u1 (b := 42) ((dkg_23 0).trans rfl))
theorem dL_law_1473 : decode cL_law 1473 = .ok (.iload 4, 2) := dk_o8 (dk_u1 (b := 21) ((dkg_23 1).trans rfl)) (dk_u1 (b := 4) ((dkg_23 2).trans rfl))
theorem dL_law_1475 : decode cL_law 1475 = .ok (.iconst 2, 1) := dk_o19 (dk_u1 (b := 5) ((dkg_23 3).trans rfl))
theorem dL_law_1476 : decode cL_law 1476 = .ok (.iadd, 1) := dk_o18 (dk_u1 (b := 96) ((dkg_23 4).trans rfl))
theorem dL_law_1477 : decode cL_law 1477 = .ok (.iaload, 1) := dk_o14 (dk_u1 (b := 46) ((dkg_23 5).trans rfl))
theorem dL_law_1478 : decode cL_law 1478 = .ok (.aload_n 3, 1) := dk_o20 (dk_u1 (b := 45) ((dkg_23 6).trans rfl))
theorem dL_law_1479 : decode cL_law 1479 = .ok (.invokestatic 251, 3) := dk_o21 (dk_u1 (b := 184) ((dkg_23 7).trans rfl)) (dk_u2 (dk_u1 (b := 0) ((dkg_23 8).trans rfl)) (dk_u1 (b := 251) ((dkg_23 9).trans rfl)))
theorem dL_law_1482 : decode cL_law 1482 = .ok (.istore 5, 2) := dk_o7 (dk_u1 (b := 54) ((dkg_23 10).trans rfl)) (dk_u1 (b := 5) ((dkg_23 11).trans rfl))
theorem dL_law_1484 : decode cL_law 1484 = .ok (.aload_n 2, 1) := dk_o22 (dk_u1 (b := 44) ((dkg_23 12).trans rfl))
theorem dL_law_1485 : decode cL_law 1485 = .ok (.aload_n 0, 1) := dk_o9 (dk_u1 (b := 42) ((dkg_23 13).trans rfl))
theorem dL_law_1486 : decode cL_law 1486 = .ok (.iload 4, 2) := dk_o8 (dk_u1 (b := 21) ((dkg_23 14).trans rfl)) (dk_u1 (b := 4) ((dkg_23 15).trans rfl))
theorem dL_law_1488 : decode cL_law 1488 = .ok (.iconst 1, 1) := dk_o17 (dk_u1 (b := 4) ((dkg_23 16).trans rfl))
theorem dL_law_1489 : decode cL_law 1489 = .ok (.iadd, 1) := dk_o18 (dk_u1 (b := 96) ((dkg_23 17).trans rfl))
theorem dL_law_1490 : decode cL_law 1490 = .ok (.iaload, 1) := dk_o14 (dk_u1 (b := 46) ((dkg_23 18).trans rfl))
theorem dL_law_1491 : decode cL_law 1491 = .ok (.aload_n 0, 1) := dk_o9 (dk_u1 (b := 42) ((dkg_23 19).trans rfl))
theorem dL_law_1492 : decode cL_law 1492 = .ok (.iload 4, 2) := dk_o8 (dk_u1 (b := 21) ((dkg_23 20).trans rfl)) (dk_u1 (b := 4) ((dkg_23 21).trans rfl))
theorem dL_law_1494 : decode cL_law 1494 = .ok (.iconst 2, 1) := dk_o19 (dk_u1 (b := 5) ((dkg_23 22).trans rfl))
theorem dL_law_1495 : decode cL_law 1495 = .ok (.iadd, 1) := dk_o18 (dk_u1 (b := 96) ((dkg_23 23).trans rfl))
theorem dL_law_1496 : decode cL_law 1496 = .ok (.iaload, 1) := dk_o14 (dk_u1 (b := 46) ((dkg_23 24).trans rfl))
theorem dL_law_1497 : decode cL_law 1497 = .ok (.invokevirtual 253, 3) := dk_o23 (dk_u1 (b := 182) ((dkg_23 25).trans rfl)) (dk_u2 (dk_u1 (b := 0) ((dkg_23 26).trans rfl)) (dk_u1 (b := 253) ((dkg_23 27).trans rfl)))
theorem dL_law_1500 : decode cL_law 1500 = .ok (.istore 6, 2) := dk_o7 (dk_u1 (b := 54) ((dkg_23 28).trans rfl)) (dk_u1 (b := 6) ((dkg_23 29).trans rfl))
theorem dL_law_1502 : decode cL_law 1502 = .ok (.goto 755, 3) := dk_o24 (dk_u1 (b := 167) ((dkg_23 30).trans rfl)) (dk_s2 (dk_u2 (dk_u1 (b := 2) ((dkg_23 31).trans rfl)) (dk_u1 (b := 243) ((dkg_23 32).trans rfl))) (by decide +kernel))
theorem dL_law_1505 : decode cL_law 1505 = .ok (.aload_n 1, 1) := dk_o16 (dk_u1 (b := 43) ((dkg_23 33).trans rfl))
theorem dL_law_1506 : decode cL_law 1506 = .ok (.aload_n 0, 1) := dk_o9 (dk_u1 (b := 42) ((dkg_23 34).trans rfl))
theorem dL_law_1507 : decode cL_law 1507 = .ok (.iload 4, 2) := dk_o8 (dk_u1 (b := 21) ((dkg_23 35).trans rfl)) (dk_u1 (b := 4) ((dkg_23 36).trans rfl))
theorem dL_law_1509 : decode cL_law 1509 = .ok (.iconst 1, 1) := dk_o17 (dk_u1 (b := 4) ((dkg_23 37).trans rfl))
theorem dL_law_1510 : decode cL_law 1510 = .ok (.iadd, 1) := dk_o18 (dk_u1 (b := 96) ((dkg_23 38).trans rfl))
theorem dL_law_1511 : decode cL_law 1511 = .ok (.iaload, 1) := dk_o14 (dk_u1 (b := 46) ((dkg_23 39).trans rfl))
theorem dL_law_1512 : decode cL_law 1512 = .ok (.aload_n 0, 1) := dk_o9 (dk_u1 (b := 42) ((dkg_23 40).trans rfl))
theorem dL_law_1513 : decode cL_law 1513 = .ok (.iload 4, 2) := dk_o8 (dk_u1 (b := 21) ((dkg_23 41).trans rfl)) (dk_u1 (b := 4) ((dkg_23 42).trans rfl))
theorem dL_law_1515 : decode cL_law 1515 = .ok (.iconst 2, 1) := dk_o19 (dk_u1 (b := 5) ((dkg_23 43).trans rfl))
theorem dL_law_1516 : decode cL_law 1516 = .ok (.iadd, 1) := dk_o18 (dk_u1 (b := 96) ((dkg_23 44).trans rfl))
theorem dL_law_1517 : decode cL_law 1517 = .ok (.iaload, 1) := dk_o14 (dk_u1 (b := 46) ((dkg_23 45).trans rfl))
theorem dL_law_1518 : decode cL_law 1518 = .ok (.aload_n 3, 1) := dk_o20 (dk_u1 (b := 45) ((dkg_23 46).trans rfl))
theorem dL_law_1519 : decode cL_law 1519 = .ok (.invokestatic 254, 3) := dk_o21 (dk_u1 (b := 184) ((dkg_23 47).trans rfl)) (dk_u2 (dk_u1 (b := 0) ((dkg_23 48).trans rfl)) (dk_u1 (b := 254) ((dkg_23 49).trans rfl)))
theorem dL_law_1522 : decode cL_law 1522 = .ok (.istore 5, 2) := dk_o7 (dk_u1 (b := 54) ((dkg_23 50).trans rfl)) (dk_u1 (b := 5) ((dkg_23 51).trans rfl))
theorem dL_law_1524 : decode cL_law 1524 = .ok (.aload_n 2, 1) := dk_o22 (dk_u1 (b := 44) ((dkg_23 52).trans rfl))
theorem dL_law_1525 : decode cL_law 1525 = .ok (.aload_n 0, 1) := dk_o9 (dk_u1 (b := 42) ((dkg_23 53).trans rfl))
theorem dL_law_1526 : decode cL_law 1526 = .ok (.iload 4, 2) := dk_o8 (dk_u1 (b := 21) ((dkg_23 54).trans rfl)) (dk_u1 (b := 4) ((dkg_23 55).trans rfl))
theorem dL_law_1528 : decode cL_law 1528 = .ok (.iconst 1, 1) := dk_o17 (dk_u1 (b := 4) ((dkg_23 56).trans rfl))
theorem dL_law_1529 : decode cL_law 1529 = .ok (.iadd, 1) := dk_o18 (dk_u1 (b := 96) ((dkg_23 57).trans rfl))
theorem dL_law_1530 : decode cL_law 1530 = .ok (.iaload, 1) := dk_o14 (dk_u1 (b := 46) ((dkg_23 58).trans rfl))
theorem dL_law_1531 : decode cL_law 1531 = .ok (.aload_n 0, 1) := dk_o9 (dk_u1 (b := 42) ((dkg_23 59).trans rfl))
theorem dL_law_1532 : decode cL_law 1532 = .ok (.iload 4, 2) := dk_o8 (dk_u1 (b := 21) ((dkg_23 60).trans rfl)) (dk_u1 (b := 4) ((dkg_23 61).trans rfl))
theorem dL_law_1534 : decode cL_law 1534 = .ok (.iconst 2, 1) := dk_o19 (dk_u1 (b := 5) ((dkg_23 62).trans rfl))
theorem dL_law_1535 : decode cL_law 1535 = .ok (.iadd, 1) := dk_o18 (dk_u1 (b := 96) ((dkg_23 63).trans rfl))
theorem dL_law_1536 : decode cL_law 1536 = .ok (.iaload, 1) := dk_o14 (dk_u1 (b := 46) ((dkg_24 0).trans rfl))
theorem dL_law_1537 : decode cL_law 1537 = .ok (.invokevirtual 256, 3) := dk_o23 (dk_u1 (b := 182) ((dkg_24 1).trans rfl)) (dk_u2 (dk_u1 (b := 1) ((dkg_24 2).trans rfl)) (dk_u1 (b := 0) ((dkg_24 3).trans rfl)))
theorem dL_law_1540 : decode cL_law 1540 = .ok (.istore 6, 2) := dk_o7 (dk_u1 (b := 54) ((dkg_24 4).trans rfl)) (dk_u1 (b := 6) ((dkg_24 5).trans rfl))
theorem dL_law_1542 : decode cL_law 1542 = .ok (.goto 715, 3) := dk_o24 (dk_u1 (b := 167) ((dkg_24 6).trans rfl)) (dk_s2 (dk_u2 (dk_u1 (b := 2) ((dkg_24 7).trans rfl)) (dk_u1 (b := 203) ((dkg_24 8).trans rfl))) (by decide +kernel))
theorem dL_law_1545 : decode cL_law 1545 = .ok (.aload_n 1, 1) := dk_o16 (dk_u1 (b := 43) ((dkg_24 9).trans rfl))
theorem dL_law_1546 : decode cL_law 1546 = .ok (.aload_n 0, 1) := dk_o9 (dk_u1 (b := 42) ((dkg_24 10).trans rfl))
theorem dL_law_1547 : decode cL_law 1547 = .ok (.iload 4, 2) := dk_o8 (dk_u1 (b := 21) ((dkg_24 11).trans rfl)) (dk_u1 (b := 4) ((dkg_24 12).trans rfl))
theorem dL_law_1549 : decode cL_law 1549 = .ok (.iconst 1, 1) := dk_o17 (dk_u1 (b := 4) ((dkg_24 13).trans rfl))
theorem dL_law_1550 : decode cL_law 1550 = .ok (.iadd, 1) := dk_o18 (dk_u1 (b := 96) ((dkg_24 14).trans rfl))
theorem dL_law_1551 : decode cL_law 1551 = .ok (.iaload, 1) := dk_o14 (dk_u1 (b := 46) ((dkg_24 15).trans rfl))
theorem dL_law_1552 : decode cL_law 1552 = .ok (.aload_n 3, 1) := dk_o20 (dk_u1 (b := 45) ((dkg_24 16).trans rfl))
theorem dL_law_1553 : decode cL_law 1553 = .ok (.invokestatic 257, 3) := dk_o21 (dk_u1 (b := 184) ((dkg_24 17).trans rfl)) (dk_u2 (dk_u1 (b := 1) ((dkg_24 18).trans rfl)) (dk_u1 (b := 1) ((dkg_24 19).trans rfl)))
theorem dL_law_1556 : decode cL_law 1556 = .ok (.istore 5, 2) := dk_o7 (dk_u1 (b := 54) ((dkg_24 20).trans rfl)) (dk_u1 (b := 5) ((dkg_24 21).trans rfl))
theorem dL_law_1558 : decode cL_law 1558 = .ok (.aload_n 2, 1) := dk_o22 (dk_u1 (b := 44) ((dkg_24 22).trans rfl))
theorem dL_law_1559 : decode cL_law 1559 = .ok (.aload_n 0, 1) := dk_o9 (dk_u1 (b := 42) ((dkg_24 23).trans rfl))
theorem dL_law_1560 : decode cL_law 1560 = .ok (.iload 4, 2) := dk_o8 (dk_u1 (b := 21) ((dkg_24 24).trans rfl)) (dk_u1 (b := 4) ((dkg_24 25).trans rfl))
theorem dL_law_1562 : decode cL_law 1562 = .ok (.iconst 1, 1) := dk_o17 (dk_u1 (b := 4) ((dkg_24 26).trans rfl))
theorem dL_law_1563 : decode cL_law 1563 = .ok (.iadd, 1) := dk_o18 (dk_u1 (b := 96) ((dkg_24 27).trans rfl))
theorem dL_law_1564 : decode cL_law 1564 = .ok (.iaload, 1) := dk_o14 (dk_u1 (b := 46) ((dkg_24 28).trans rfl))
theorem dL_law_1565 : decode cL_law 1565 = .ok (.invokevirtual 259, 3) := dk_o23 (dk_u1 (b := 182) ((dkg_24 29).trans rfl)) (dk_u2 (dk_u1 (b := 1) ((dkg_24 30).trans rfl)) (dk_u1 (b := 3) ((dkg_24 31).trans rfl)))
theorem dL_law_1568 : decode cL_law 1568 = .ok (.istore 6, 2) := dk_o7 (dk_u1 (b := 54) ((dkg_24 32).trans rfl)) (dk_u1 (b := 6) ((dkg_24 33).trans rfl))
theorem dL_law_1570 : decode cL_law 1570 = .ok (.goto 687, 3) := dk_o24 (dk_u1 (b := 167) ((dkg_24 34).trans rfl)) (dk_s2 (dk_u2 (dk_u1 (b := 2) ((dkg_24 35).trans rfl)) (dk_u1 (b := 175) ((dkg_24 36).trans rfl))) (by decide +kernel))
theorem dL_law_1573 : decode cL_law 1573 = .ok (.aload_n 1, 1) := dk_o16 (dk_u1 (b := 43) ((dkg_24 37).trans rfl))
theorem dL_law_1574 : decode cL_law 1574 = .ok (.aload_n 0, 1) := dk_o9 (dk_u1 (b := 42) ((dkg_24 38).trans rfl))
theorem dL_law_1575 : decode cL_law 1575 = .ok (.iload 4, 2) := dk_o8 (dk_u1 (b := 21) ((dkg_24 39).trans rfl)) (dk_u1 (b := 4) ((dkg_24 40).trans rfl))
theorem dL_law_1577 : decode cL_law 1577 = .ok (.iconst 1, 1) := dk_o17 (dk_u1 (b := 4) ((dkg_24 41).trans rfl))
theorem dL_law_1578 : decode cL_law 1578 = .ok (.iadd, 1) := dk_o18 (dk_u1 (b := 96) ((dkg_24 42).trans rfl))
theorem dL_law_1579 : decode cL_law 1579 = .ok (.iaload, 1) := dk_o14 (dk_u1 (b := 46) ((dkg_24 43).trans rfl))
theorem dL_law_1580 : decode cL_law 1580 = .ok (.aload_n 0, 1) := dk_o9 (dk_u1 (b := 42) ((dkg_24 44).trans rfl))
theorem dL_law_1581 : decode cL_law 1581 = .ok (.iload 4, 2) := dk_o8 (dk_u1 (b := 21) ((dkg_24 45).trans rfl)) (dk_u1 (b := 4) ((dkg_24 46).trans rfl))
theorem dL_law_1583 : decode cL_law 1583 = .ok (.iconst 2, 1) := dk_o19 (dk_u1 (b := 5) ((dkg_24 47).trans rfl))
theorem dL_law_1584 : decode cL_law 1584 = .ok (.iadd, 1) := dk_o18 (dk_u1 (b := 96) ((dkg_24 48).trans rfl))
theorem dL_law_1585 : decode cL_law 1585 = .ok (.iaload, 1) := dk_o14 (dk_u1 (b := 46) ((dkg_24 49).trans rfl))
theorem dL_law_1586 : decode cL_law 1586 = .ok (.aload_n 3, 1) := dk_o20 (dk_u1 (b := 45) ((dkg_24 50).trans rfl))
theorem dL_law_1587 : decode cL_law 1587 = .ok (.invokestatic 260, 3) := dk_o21 (dk_u1 (b := 184) ((dkg_24 51).trans rfl)) (dk_u2 (dk_u1 (b := 1) ((dkg_24 52).trans rfl)) (dk_u1 (b := 4) ((dkg_24 53).trans rfl)))
theorem dL_law_1590 : decode cL_law 1590 = .ok (.istore 5, 2) := dk_o7 (dk_u1 (b := 54) ((dkg_24 54).trans rfl)) (dk_u1 (b := 5) ((dkg_24 55).trans rfl))
theorem dL_law_1592 : decode cL_law 1592 = .ok (.aload_n 2, 1) := dk_o22 (dk_u1 (b := 44) ((dkg_24 56).trans rfl))
theorem dL_law_1593 : decode cL_law 1593 = .ok (.aload_n 0, 1) := dk_o9 (dk_u1 (b := 42) ((dkg_24 57).trans rfl))
theorem dL_law_1594 : decode cL_law 1594 = .ok (.iload 4, 2) := dk_o8 (dk_u1 (b := 21) ((dkg_24 58).trans rfl)) (dk_u1 (b := 4) ((dkg_24 59).trans rfl))
theorem dL_law_1596 : decode cL_law 1596 = .ok (.iconst 1, 1) := dk_o17 (dk_u1 (b := 4) ((dkg_24 60).trans rfl))
theorem dL_law_1597 : decode cL_law 1597 = .ok (.iadd, 1) := dk_o18 (dk_u1 (b := 96) ((dkg_24 61).trans rfl))
theorem dL_law_1598 : decode cL_law 1598 = .ok (.iaload, 1) := dk_o14 (dk_u1 (b := 46) ((dkg_24 62).trans rfl))
theorem dL_law_1599 : decode cL_law 1599 = .ok (.aload_n 0, 1) := dk_o9 (dk_u1 (b := 42) ((dkg_24 63).trans rfl))
theorem dL_law_1600 : decode cL_law 1600 = .ok (.iload 4, 2) := dk_o8 (dk_u1 (b := 21) ((dkg_25 0).trans rfl)) (dk_u1 (b := 4) ((dkg_25 1).trans rfl))
theorem dL_law_1602 : decode cL_law 1602 = .ok (.iconst 2, 1) := dk_o19 (dk_u1 (b := 5) ((dkg_25 2).trans rfl))
theorem dL_law_1603 : decode cL_law 1603 = .ok (.iadd, 1) := dk_o18 (dk_u1 (b := 96) ((dkg_25 3).trans rfl))
theorem dL_law_1604 : decode cL_law 1604 = .ok (.iaload, 1) := dk_o14 (dk_u1 (b := 46) ((dkg_25 4).trans rfl))
theorem dL_law_1605 : decode cL_law 1605 = .ok (.invokevirtual 262, 3) := dk_o23 (dk_u1 (b := 182) ((dkg_25 5).trans rfl)) (dk_u2 (dk_u1 (b := 1) ((dkg_25 6).trans rfl)) (dk_u1 (b := 6) ((dkg_25 7).trans rfl)))
theorem dL_law_1608 : decode cL_law 1608 = .ok (.istore 6, 2) := dk_o7 (dk_u1 (b := 54) ((dkg_25 8).trans rfl)) (dk_u1 (b := 6) ((dkg_25 9).trans rfl))
theorem dL_law_1610 : decode cL_law 1610 = .ok (.goto 647, 3) := dk_o24 (dk_u1 (b := 167) ((dkg_25 10).trans rfl)) (dk_s2 (dk_u2 (dk_u1 (b := 2) ((dkg_25 11).trans rfl)) (dk_u1 (b := 135) ((dkg_25 12).trans rfl))) (by decide +kernel))
theorem dL_law_1613 : decode cL_law 1613 = .ok (.aload_n 1, 1) := dk_o16 (dk_u1 (b := 43) ((dkg_25 13).trans rfl))
theorem dL_law_1614 : decode cL_law 1614 = .ok (.aload_n 0, 1) := dk_o9 (dk_u1 (b := 42) ((dkg_25 14).trans rfl))
theorem dL_law_1615 : decode cL_law 1615 = .ok (.iload 4, 2) := dk_o8 (dk_u1 (b := 21) ((dkg_25 15).trans rfl)) (dk_u1 (b := 4) ((dkg_25 16).trans rfl))
theorem dL_law_1617 : decode cL_law 1617 = .ok (.iconst 1, 1) := dk_o17 (dk_u1 (b := 4) ((dkg_25 17).trans rfl))
theorem dL_law_1618 : decode cL_law 1618 = .ok (.iadd, 1) := dk_o18 (dk_u1 (b := 96) ((dkg_25 18).trans rfl))
theorem dL_law_1619 : decode cL_law 1619 = .ok (.iaload, 1) := dk_o14 (dk_u1 (b := 46) ((dkg_25 19).trans rfl))
theorem dL_law_1620 : decode cL_law 1620 = .ok (.aload_n 3, 1) := dk_o20 (dk_u1 (b := 45) ((dkg_25 20).trans rfl))
theorem dL_law_1621 : decode cL_law 1621 = .ok (.invokestatic 263, 3) := dk_o21 (dk_u1 (b := 184) ((dkg_25 21).trans rfl)) (dk_u2 (dk_u1 (b := 1) ((dkg_25 22).trans rfl)) (dk_u1 (b := 7) ((dkg_25 23).trans rfl)))
theorem dL_law_1624 : decode cL_law 1624 = .ok (.istore 5, 2) := dk_o7 (dk_u1 (b := 54) ((dkg_25 24).trans rfl)) (dk_u1 (b := 5) ((dkg_25 25).trans rfl))
theorem dL_law_1626 : decode cL_law 1626 = .ok (.aload_n 2, 1) := dk_o22 (dk_u1 (b := 44) ((dkg_25 26).trans rfl))
theorem dL_law_1627 : decode cL_law 1627 = .ok (.aload_n 0, 1) := dk_o9 (dk_u1 (b := 42) ((dkg_25 27).trans rfl))
theorem dL_law_1628 : decode cL_law 1628 = .ok (.iload 4, 2) := dk_o8 (dk_u1 (b := 21) ((dkg_25 28).trans rfl)) (dk_u1 (b := 4) ((dkg_25 29).trans rfl))
theorem dL_law_1630 : decode cL_law 1630 = .ok (.iconst 1, 1) := dk_o17 (dk_u1 (b := 4) ((dkg_25 30).trans rfl))
theorem dL_law_1631 : decode cL_law 1631 = .ok (.iadd, 1) := dk_o18 (dk_u1 (b := 96) ((dkg_25 31).trans rfl))
theorem dL_law_1632 : decode cL_law 1632 = .ok (.iaload, 1) := dk_o14 (dk_u1 (b := 46) ((dkg_25 32).trans rfl))
theorem dL_law_1633 : decode cL_law 1633 = .ok (.invokevirtual 265, 3) := dk_o23 (dk_u1 (b := 182) ((dkg_25 33).trans rfl)) (dk_u2 (dk_u1 (b := 1) ((dkg_25 34).trans rfl)) (dk_u1 (b := 9) ((dkg_25 35).trans rfl)))
theorem dL_law_1636 : decode cL_law 1636 = .ok (.astore 6, 2) := dk_o35 (dk_u1 (b := 58) ((dkg_25 36).trans rfl)) (dk_u1 (b := 6) ((dkg_25 37).trans rfl))
theorem dL_law_1638 : decode cL_law 1638 = .ok (.goto 619, 3) := dk_o24 (dk_u1 (b := 167) ((dkg_25 38).trans rfl)) (dk_s2 (dk_u2 (dk_u1 (b := 2) ((dkg_25 39).trans rfl)) (dk_u1 (b := 107) ((dkg_25 40).trans rfl))) (by decide +kernel))
theorem dL_law_1641 : decode cL_law 1641 = .ok (.aload_n 1, 1) := dk_o16 (dk_u1 (b := 43) ((dkg_25 41).trans rfl))
theorem dL_law_1642 : decode cL_law 1642 = .ok (.aload_n 0, 1) := dk_o9 (dk_u1 (b := 42) ((dkg_25 42).trans rfl))
theorem dL_law_1643 : decode cL_law 1643 = .ok (.iload 4, 2) := dk_o8 (dk_u1 (b := 21) ((dkg_25 43).trans rfl)) (dk_u1 (b := 4) ((dkg_25 44).trans rfl))
theorem dL_law_1645 : decode cL_law 1645 = .ok (.iconst 1, 1) := dk_o17 (dk_u1 (b := 4) ((dkg_25 45).trans rfl))
theorem dL_law_1646 : decode cL_law 1646 = .ok (.iadd, 1) := dk_o18 (dk_u1 (b := 96) ((dkg_25 46).trans rfl))
theorem dL_law_1647 : decode cL_law 1647 = .ok (.iaload, 1) := dk_o14 (dk_u1 (b := 46) ((dkg_25 47).trans rfl))
theorem dL_law_1648 : decode cL_law 1648 = .ok (.aload_n 3, 1) := dk_o20 (dk_u1 (b := 45) ((dkg_25 48).trans rfl))
theorem dL_law_1649 : decode cL_law 1649 = .ok (.invokestatic 266, 3) := dk_o21 (dk_u1 (b := 184) ((dkg_25 49).trans rfl)) (dk_u2 (dk_u1 (b := 1) ((dkg_25 50).trans rfl)) (dk_u1 (b := 10) ((dkg_25 51).trans rfl)))
theorem dL_law_1652 : decode cL_law 1652 = .ok (.istore 5, 2) := dk_o7 (dk_u1 (b := 54) ((dkg_25 52).trans rfl)) (dk_u1 (b := 5) ((dkg_25 53).trans rfl))
theorem dL_law_1654 : decode cL_law 1654 = .ok (.aload_n 2, 1) := dk_o22 (dk_u1 (b := 44) ((dkg_25 54).trans rfl))
theorem dL_law_1655 : decode cL_law 1655 = .ok (.aload_n 0, 1) := dk_o9 (dk_u1 (b := 42) ((dkg_25 55).trans rfl))
theorem dL_law_1656 : decode cL_law 1656 = .ok (.iload 4, 2) := dk_o8 (dk_u1 (b := 21) ((dkg_25 56).trans rfl)) (dk_u1 (b := 4) ((dkg_25 57).trans rfl))
theorem dL_law_1658 : decode cL_law 1658 = .ok (.iconst 1, 1) := dk_o17 (dk_u1 (b := 4) ((dkg_25 58).trans rfl))
theorem dL_law_1659 : decode cL_law 1659 = .ok (.iadd, 1) := dk_o18 (dk_u1 (b := 96) ((dkg_25 59).trans rfl))
theorem dL_law_1660 : decode cL_law 1660 = .ok (.iaload, 1) := dk_o14 (dk_u1 (b := 46) ((dkg_25 60).trans rfl))
theorem dL_law_1661 : decode cL_law 1661 = .ok (.invokevirtual 268, 3) := dk_o23 (dk_u1 (b := 182) ((dkg_25 61).trans rfl)) (dk_u2 (dk_u1 (b := 1) ((dkg_25 62).trans rfl)) (dk_u1 (b := 12) ((dkg_25 63).trans rfl)))
theorem dL_law_1664 : decode cL_law 1664 = .ok (.istore 6, 2) := dk_o7 (dk_u1 (b := 54) ((dkg_26 0).trans rfl)) (dk_u1 (b := 6) ((dkg_26 1).trans rfl))
theorem dL_law_1666 : decode cL_law 1666 = .ok (.goto 591, 3) := dk_o24 (dk_u1 (b := 167) ((dkg_26 2).trans rfl)) (dk_s2 (dk_u2 (dk_u1 (b := 2) ((dkg_26 3).trans rfl)) (dk_u1 (b := 79) ((dkg_26 4).trans rfl))) (by decide +kernel))
theorem dL_law_1669 : decode cL_law 1669 = .ok (.aload_n 1, 1) := dk_o16 (dk_u1 (b := 43) ((dkg_26 5).trans rfl))
theorem dL_law_1670 : decode cL_law 1670 = .ok (.aload_n 0, 1) := dk_o9 (dk_u1 (b := 42) ((dkg_26 6).trans rfl))
theorem dL_law_1671 : decode cL_law 1671 = .ok (.iload 4, 2) := dk_o8 (dk_u1 (b := 21) ((dkg_26 7).trans rfl)) (dk_u1 (b := 4) ((dkg_26 8).trans rfl))
theorem dL_law_1673 : decode cL_law 1673 = .ok (.iconst 1, 1) := dk_o17 (dk_u1 (b := 4) ((dkg_26 9).trans rfl))
theorem dL_law_1674 : decode cL_law 1674 = .ok (.iadd, 1) := dk_o18 (dk_u1 (b := 96) ((dkg_26 10).trans rfl))
theorem dL_law_1675 : decode cL_law 1675 = .ok (.iaload, 1) := dk_o14 (dk_u1 (b := 46) ((dkg_26 11).trans rfl))
theorem dL_law_1676 : decode cL_law 1676 = .ok (.aload_n 0, 1) := dk_o9 (dk_u1 (b := 42) ((dkg_26 12).trans rfl))
theorem dL_law_1677 : decode cL_law 1677 = .ok (.iload 4, 2) := dk_o8 (dk_u1 (b := 21) ((dkg_26 13).trans rfl)) (dk_u1 (b := 4) ((dkg_26 14).trans rfl))
theorem dL_law_1679 : decode cL_law 1679 = .ok (.iconst 2, 1) := dk_o19 (dk_u1 (b := 5) ((dkg_26 15).trans rfl))
theorem dL_law_1680 : decode cL_law 1680 = .ok (.iadd, 1) := dk_o18 (dk_u1 (b := 96) ((dkg_26 16).trans rfl))
theorem dL_law_1681 : decode cL_law 1681 = .ok (.iaload, 1) := dk_o14 (dk_u1 (b := 46) ((dkg_26 17).trans rfl))
theorem dL_law_1682 : decode cL_law 1682 = .ok (.aload_n 3, 1) := dk_o20 (dk_u1 (b := 45) ((dkg_26 18).trans rfl))
theorem dL_law_1683 : decode cL_law 1683 = .ok (.invokestatic 269, 3) := dk_o21 (dk_u1 (b := 184) ((dkg_26 19).trans rfl)) (dk_u2 (dk_u1 (b := 1) ((dkg_26 20).trans rfl)) (dk_u1 (b := 13) ((dkg_26 21).trans rfl)))
theorem dL_law_1686 : decode cL_law 1686 = .ok (.istore 5, 2) := dk_o7 (dk_u1 (b := 54) ((dkg_26 22).trans rfl)) (dk_u1 (b := 5) ((dkg_26 23).trans rfl))
theorem dL_law_1688 : decode cL_law 1688 = .ok (.aload_n 2, 1) := dk_o22 (dk_u1 (b := 44) ((dkg_26 24).trans rfl))
theorem dL_law_1689 : decode cL_law 1689 = .ok (.aload_n 0, 1) := dk_o9 (dk_u1 (b := 42) ((dkg_26 25).trans rfl))
theorem dL_law_1690 : decode cL_law 1690 = .ok (.iload 4, 2) := dk_o8 (dk_u1 (b := 21) ((dkg_26 26).trans rfl)) (dk_u1 (b := 4) ((dkg_26 27).trans rfl))
theorem dL_law_1692 : decode cL_law 1692 = .ok (.iconst 1, 1) := dk_o17 (dk_u1 (b := 4) ((dkg_26 28).trans rfl))
theorem dL_law_1693 : decode cL_law 1693 = .ok (.iadd, 1) := dk_o18 (dk_u1 (b := 96) ((dkg_26 29).trans rfl))
theorem dL_law_1694 : decode cL_law 1694 = .ok (.iaload, 1) := dk_o14 (dk_u1 (b := 46) ((dkg_26 30).trans rfl))
theorem dL_law_1695 : decode cL_law 1695 = .ok (.aload_n 0, 1) := dk_o9 (dk_u1 (b := 42) ((dkg_26 31).trans rfl))
theorem dL_law_1696 : decode cL_law 1696 = .ok (.iload 4, 2) := dk_o8 (dk_u1 (b := 21) ((dkg_26 32).trans rfl)) (dk_u1 (b := 4) ((dkg_26 33).trans rfl))
theorem dL_law_1698 : decode cL_law 1698 = .ok (.iconst 2, 1) := dk_o19 (dk_u1 (b := 5) ((dkg_26 34).trans rfl))
theorem dL_law_1699 : decode cL_law 1699 = .ok (.iadd, 1) := dk_o18 (dk_u1 (b := 96) ((dkg_26 35).trans rfl))
theorem dL_law_1700 : decode cL_law 1700 = .ok (.iaload, 1) := dk_o14 (dk_u1 (b := 46) ((dkg_26 36).trans rfl))
theorem dL_law_1701 : decode cL_law 1701 = .ok (.invokevirtual 271, 3) := dk_o23 (dk_u1 (b := 182) ((dkg_26 37).trans rfl)) (dk_u2 (dk_u1 (b := 1) ((dkg_26 38).trans rfl)) (dk_u1 (b := 15) ((dkg_26 39).trans rfl)))
theorem dL_law_1704 : decode cL_law 1704 = .ok (.istore 6, 2) := dk_o7 (dk_u1 (b := 54) ((dkg_26 40).trans rfl)) (dk_u1 (b := 6) ((dkg_26 41).trans rfl))
theorem dL_law_1706 : decode cL_law 1706 = .ok (.goto 551, 3) := dk_o24 (dk_u1 (b := 167) ((dkg_26 42).trans rfl)) (dk_s2 (dk_u2 (dk_u1 (b := 2) ((dkg_26 43).trans rfl)) (dk_u1 (b := 39) ((dkg_26 44).trans rfl))) (by decide +kernel))
theorem dL_law_1709 : decode cL_law 1709 = .ok (.aload_n 1, 1) := dk_o16 (dk_u1 (b := 43) ((dkg_26 45).trans rfl))
theorem dL_law_1710 : decode cL_law 1710 = .ok (.aload_n 0, 1) := dk_o9 (dk_u1 (b := 42) ((dkg_26 46).trans rfl))
theorem dL_law_1711 : decode cL_law 1711 = .ok (.iload 4, 2) := dk_o8 (dk_u1 (b := 21) ((dkg_26 47).trans rfl)) (dk_u1 (b := 4) ((dkg_26 48).trans rfl))
theorem dL_law_1713 : decode cL_law 1713 = .ok (.iconst 1, 1) := dk_o17 (dk_u1 (b := 4) ((dkg_26 49).trans rfl))
theorem dL_law_1714 : decode cL_law 1714 = .ok (.iadd, 1) := dk_o18 (dk_u1 (b := 96) ((dkg_26 50).trans rfl))
theorem dL_law_1715 : decode cL_law 1715 = .ok (.iaload, 1) := dk_o14 (dk_u1 (b := 46) ((dkg_26 51).trans rfl))
theorem dL_law_1716 : decode cL_law 1716 = .ok (.aload_n 3, 1) := dk_o20 (dk_u1 (b := 45) ((dkg_26 52).trans rfl))
theorem dL_law_1717 : decode cL_law 1717 = .ok (.invokestatic 272, 3) := dk_o21 (dk_u1 (b := 184) ((dkg_26 53).trans rfl)) (dk_u2 (dk_u1 (b := 1) ((dkg_26 54).trans rfl)) (dk_u1 (b := 16) ((dkg_26 55).trans rfl)))
theorem dL_law_1720 : decode cL_law 1720 = .ok (.istore 5, 2) := dk_o7 (dk_u1 (b := 54) ((dkg_26 56).trans rfl)) (dk_u1 (b := 5) ((dkg_26 57).trans rfl))
theorem dL_law_1722 : decode cL_law 1722 = .ok (.aload_n 2, 1) := dk_o22 (dk_u1 (b := 44) ((dkg_26 58).trans rfl))
theorem dL_law_1723 : decode cL_law 1723 = .ok (.aload_n 0, 1) := dk_o9 (dk_u1 (b := 42) ((dkg_26 59).trans rfl))
theorem dL_law_1724 : decode cL_law 1724 = .ok (.iload 4, 2) := dk_o8 (dk_u1 (b := 21) ((dkg_26 60).trans rfl)) (dk_u1 (b := 4) ((dkg_26 61).trans rfl))
theorem dL_law_1726 : decode cL_law 1726 = .ok (.iconst 1, 1) := dk_o17 (dk_u1 (b := 4) ((dkg_26 62).trans rfl))
theorem dL_law_1727 : decode cL_law 1727 = .ok (.iadd, 1) := dk_o18 (dk_u1 (b := 96) ((dkg_26 63).trans rfl))
theorem dL_law_1728 : decode cL_law 1728 = .ok (.iaload, 1) := dk_o14 (dk_u1 (b := 46) ((dkg_27 0).trans rfl))
theorem dL_law_1729 : decode cL_law 1729 = .ok (.invokevirtual 274, 3) := dk_o23 (dk_u1 (b := 182) ((dkg_27 1).trans rfl)) (dk_u2 (dk_u1 (b := 1) ((dkg_27 2).trans rfl)) (dk_u1 (b := 18) ((dkg_27 3).trans rfl)))
theorem dL_law_1732 : decode cL_law 1732 = .ok (.astore 6, 2) := dk_o35 (dk_u1 (b := 58) ((dkg_27 4).trans rfl)) (dk_u1 (b := 6) ((dkg_27 5).trans rfl))
theorem dL_law_1734 : decode cL_law 1734 = .ok (.goto 523, 3) := dk_o24 (dk_u1 (b := 167) ((dkg_27 6).trans rfl)) (dk_s2 (dk_u2 (dk_u1 (b := 2) ((dkg_27 7).trans rfl)) (dk_u1 (b := 11) ((dkg_27 8).trans rfl))) (by decide +kernel))
theorem dL_law_1737 : decode cL_law 1737 = .ok (.aload_n 1, 1) := dk_o16 (dk_u1 (b := 43) ((dkg_27 9).trans rfl))
theorem dL_law_1738 : decode cL_law 1738 = .ok (.aload_n 0, 1) := dk_o9 (dk_u1 (b := 42) ((dkg_27 10).trans rfl))
theorem dL_law_1739 : decode cL_law 1739 = .ok (.iload 4, 2) := dk_o8 (dk_u1 (b := 21) ((dkg_27 11).trans rfl)) (dk_u1 (b := 4) ((dkg_27 12).trans rfl))
theorem dL_law_1741 : decode cL_law 1741 = .ok (.iconst 1, 1) := dk_o17 (dk_u1 (b := 4) ((dkg_27 13).trans rfl))
theorem dL_law_1742 : decode cL_law 1742 = .ok (.iadd, 1) := dk_o18 (dk_u1 (b := 96) ((dkg_27 14).trans rfl))
theorem dL_law_1743 : decode cL_law 1743 = .ok (.iaload, 1) := dk_o14 (dk_u1 (b := 46) ((dkg_27 15).trans rfl))
theorem dL_law_1744 : decode cL_law 1744 = .ok (.aload_n 3, 1) := dk_o20 (dk_u1 (b := 45) ((dkg_27 16).trans rfl))
theorem dL_law_1745 : decode cL_law 1745 = .ok (.invokestatic 275, 3) := dk_o21 (dk_u1 (b := 184) ((dkg_27 17).trans rfl)) (dk_u2 (dk_u1 (b := 1) ((dkg_27 18).trans rfl)) (dk_u1 (b := 19) ((dkg_27 19).trans rfl)))
theorem dL_law_1748 : decode cL_law 1748 = .ok (.istore 5, 2) := dk_o7 (dk_u1 (b := 54) ((dkg_27 20).trans rfl)) (dk_u1 (b := 5) ((dkg_27 21).trans rfl))
theorem dL_law_1750 : decode cL_law 1750 = .ok (.aload_n 2, 1) := dk_o22 (dk_u1 (b := 44) ((dkg_27 22).trans rfl))
theorem dL_law_1751 : decode cL_law 1751 = .ok (.aload_n 0, 1) := dk_o9 (dk_u1 (b := 42) ((dkg_27 23).trans rfl))
theorem dL_law_1752 : decode cL_law 1752 = .ok (.iload 4, 2) := dk_o8 (dk_u1 (b := 21) ((dkg_27 24).trans rfl)) (dk_u1 (b := 4) ((dkg_27 25).trans rfl))
theorem dL_law_1754 : decode cL_law 1754 = .ok (.iconst 1, 1) := dk_o17 (dk_u1 (b := 4) ((dkg_27 26).trans rfl))
theorem dL_law_1755 : decode cL_law 1755 = .ok (.iadd, 1) := dk_o18 (dk_u1 (b := 96) ((dkg_27 27).trans rfl))
theorem dL_law_1756 : decode cL_law 1756 = .ok (.iaload, 1) := dk_o14 (dk_u1 (b := 46) ((dkg_27 28).trans rfl))
theorem dL_law_1757 : decode cL_law 1757 = .ok (.invokevirtual 277, 3) := dk_o23 (dk_u1 (b := 182) ((dkg_27 29).trans rfl)) (dk_u2 (dk_u1 (b := 1) ((dkg_27 30).trans rfl)) (dk_u1 (b := 21) ((dkg_27 31).trans rfl)))
theorem dL_law_1760 : decode cL_law 1760 = .ok (.istore 6, 2) := dk_o7 (dk_u1 (b := 54) ((dkg_27 32).trans rfl)) (dk_u1 (b := 6) ((dkg_27 33).trans rfl))
theorem dL_law_1762 : decode cL_law 1762 = .ok (.goto 495, 3) := dk_o24 (dk_u1 (b := 167) ((dkg_27 34).trans rfl)) (dk_s2 (dk_u2 (dk_u1 (b := 1) ((dkg_27 35).trans rfl)) (dk_u1 (b := 239) ((dkg_27 36).trans rfl))) (by decide +kernel))
theorem dL_law_1765 : decode cL_law 1765 = .ok (.aload_n 1, 1) := dk_o16 (dk_u1 (b := 43) ((dkg_27 37).trans rfl))
theorem dL_law_1766 : decode cL_law 1766 = .ok (.aload_n 0, 1) := dk_o9 (dk_u1 (b := 42) ((dkg_27 38).trans rfl))
theorem dL_law_1767 : decode cL_law 1767 = .ok (.iload 4, 2) := dk_o8 (dk_u1 (b := 21) ((dkg_27 39).trans rfl)) (dk_u1 (b := 4) ((dkg_27 40).trans rfl))
theorem dL_law_1769 : decode cL_law 1769 = .ok (.iconst 1, 1) := dk_o17 (dk_u1 (b := 4) ((dkg_27 41).trans rfl))
theorem dL_law_1770 : decode cL_law 1770 = .ok (.iadd, 1) := dk_o18 (dk_u1 (b := 96) ((dkg_27 42).trans rfl))
theorem dL_law_1771 : decode cL_law 1771 = .ok (.iaload, 1) := dk_o14 (dk_u1 (b := 46) ((dkg_27 43).trans rfl))
theorem dL_law_1772 : decode cL_law 1772 = .ok (.aload_n 0, 1) := dk_o9 (dk_u1 (b := 42) ((dkg_27 44).trans rfl))
theorem dL_law_1773 : decode cL_law 1773 = .ok (.iload 4, 2) := dk_o8 (dk_u1 (b := 21) ((dkg_27 45).trans rfl)) (dk_u1 (b := 4) ((dkg_27 46).trans rfl))
theorem dL_law_1775 : decode cL_law 1775 = .ok (.iconst 2, 1) := dk_o19 (dk_u1 (b := 5) ((dkg_27 47).trans rfl))
theorem dL_law_1776 : decode cL_law 1776 = .ok (.iadd, 1) := dk_o18 (dk_u1 (b := 96) ((dkg_27 48).trans rfl))
theorem dL_law_1777 : decode cL_law 1777 = .ok (.iaload, 1) := dk_o14 (dk_u1 (b := 46) ((dkg_27 49).trans rfl))
theorem dL_law_1778 : decode cL_law 1778 = .ok (.aload_n 3, 1) := dk_o20 (dk_u1 (b := 45) ((dkg_27 50).trans rfl))
theorem dL_law_1779 : decode cL_law 1779 = .ok (.invokestatic 278, 3) := dk_o21 (dk_u1 (b := 184) ((dkg_27 51).trans rfl)) (dk_u2 (dk_u1 (b := 1) ((dkg_27 52).trans rfl)) (dk_u1 (b := 22) ((dkg_27 53).trans rfl)))
theorem dL_law_1782 : decode cL_law 1782 = .ok (.istore 5, 2) := dk_o7 (dk_u1 (b := 54) ((dkg_27 54).trans rfl)) (dk_u1 (b := 5) ((dkg_27 55).trans rfl))
theorem dL_law_1784 : decode cL_law 1784 = .ok (.aload_n 2, 1) := dk_o22 (dk_u1 (b := 44) ((dkg_27 56).trans rfl))
theorem dL_law_1785 : decode cL_law 1785 = .ok (.aload_n 0, 1) := dk_o9 (dk_u1 (b := 42) ((dkg_27 57).trans rfl))
theorem dL_law_1786 : decode cL_law 1786 = .ok (.iload 4, 2) := dk_o8 (dk_u1 (b := 21) ((dkg_27 58).trans rfl)) (dk_u1 (b := 4) ((dkg_27 59).trans rfl))
theorem dL_law_1788 : decode cL_law 1788 = .ok (.iconst 1, 1) := dk_o17 (dk_u1 (b := 4) ((dkg_27 60).trans rfl))
theorem dL_law_1789 : decode cL_law 1789 = .ok (.iadd, 1) := dk_o18 (dk_u1 (b := 96) ((dkg_27 61).trans rfl))
theorem dL_law_1790 : decode cL_law 1790 = .ok (.iaload, 1) := dk_o14 (dk_u1 (b := 46) ((dkg_27 62).trans rfl))
theorem dL_law_1791 : decode cL_law 1791 = .ok (.aload_n 0, 1) := dk_o9 (dk_u1 (b := 42) ((dkg_27 63).trans rfl))
theorem dL_law_1792 : decode cL_law 1792 = .ok (.iload 4, 2) := dk_o8 (dk_u1 (b := 21) ((dkg_28 0).trans rfl)) (dk_u1 (b := 4) ((dkg_28 1).trans rfl))
theorem dL_law_1794 : decode cL_law 1794 = .ok (.iconst 2, 1) := dk_o19 (dk_u1 (b := 5) ((dkg_28 2).trans rfl))
theorem dL_law_1795 : decode cL_law 1795 = .ok (.iadd, 1) := dk_o18 (dk_u1 (b := 96) ((dkg_28 3).trans rfl))
theorem dL_law_1796 : decode cL_law 1796 = .ok (.iaload, 1) := dk_o14 (dk_u1 (b := 46) ((dkg_28 4).trans rfl))
theorem dL_law_1797 : decode cL_law 1797 = .ok (.invokevirtual 280, 3) := dk_o23 (dk_u1 (b := 182) ((dkg_28 5).trans rfl)) (dk_u2 (dk_u1 (b := 1) ((dkg_28 6).trans rfl)) (dk_u1 (b := 24) ((dkg_28 7).trans rfl)))
theorem dL_law_1800 : decode cL_law 1800 = .ok (.istore 6, 2) := dk_o7 (dk_u1 (b := 54) ((dkg_28 8).trans rfl)) (dk_u1 (b := 6) ((dkg_28 9).trans rfl))
theorem dL_law_1802 : decode cL_law 1802 = .ok (.goto 455, 3) := dk_o24 (dk_u1 (b := 167) ((dkg_28 10).trans rfl)) (dk_s2 (dk_u2 (dk_u1 (b := 1) ((dkg_28 11).trans rfl)) (dk_u1 (b := 199) ((dkg_28 12).trans rfl))) (by decide +kernel))
theorem dL_law_1805 : decode cL_law 1805 = .ok (.aload_n 1, 1) := dk_o16 (dk_u1 (b := 43) ((dkg_28 13).trans rfl))
theorem dL_law_1806 : decode cL_law 1806 = .ok (.aload_n 0, 1) := dk_o9 (dk_u1 (b := 42) ((dkg_28 14).trans rfl))
theorem dL_law_1807 : decode cL_law 1807 = .ok (.iload 4, 2) := dk_o8 (dk_u1 (b := 21) ((dkg_28 15).trans rfl)) (dk_u1 (b := 4) ((dkg_28 16).trans rfl))
theorem dL_law_1809 : decode cL_law 1809 = .ok (.iconst 1, 1) := dk_o17 (dk_u1 (b := 4) ((dkg_28 17).trans rfl))
theorem dL_law_1810 : decode cL_law 1810 = .ok (.iadd, 1) := dk_o18 (dk_u1 (b := 96) ((dkg_28 18).trans rfl))
theorem dL_law_1811 : decode cL_law 1811 = .ok (.iaload, 1) := dk_o14 (dk_u1 (b := 46) ((dkg_28 19).trans rfl))
theorem dL_law_1812 : decode cL_law 1812 = .ok (.aload_n 3, 1) := dk_o20 (dk_u1 (b := 45) ((dkg_28 20).trans rfl))
theorem dL_law_1813 : decode cL_law 1813 = .ok (.invokestatic 281, 3) := dk_o21 (dk_u1 (b := 184) ((dkg_28 21).trans rfl)) (dk_u2 (dk_u1 (b := 1) ((dkg_28 22).trans rfl)) (dk_u1 (b := 25) ((dkg_28 23).trans rfl)))
theorem dL_law_1816 : decode cL_law 1816 = .ok (.istore 5, 2) := dk_o7 (dk_u1 (b := 54) ((dkg_28 24).trans rfl)) (dk_u1 (b := 5) ((dkg_28 25).trans rfl))
theorem dL_law_1818 : decode cL_law 1818 = .ok (.aload_n 2, 1) := dk_o22 (dk_u1 (b := 44) ((dkg_28 26).trans rfl))
theorem dL_law_1819 : decode cL_law 1819 = .ok (.aload_n 0, 1) := dk_o9 (dk_u1 (b := 42) ((dkg_28 27).trans rfl))
theorem dL_law_1820 : decode cL_law 1820 = .ok (.iload 4, 2) := dk_o8 (dk_u1 (b := 21) ((dkg_28 28).trans rfl)) (dk_u1 (b := 4) ((dkg_28 29).trans rfl))
theorem dL_law_1822 : decode cL_law 1822 = .ok (.iconst 1, 1) := dk_o17 (dk_u1 (b := 4) ((dkg_28 30).trans rfl))
theorem dL_law_1823 : decode cL_law 1823 = .ok (.iadd, 1) := dk_o18 (dk_u1 (b := 96) ((dkg_28 31).trans rfl))
theorem dL_law_1824 : decode cL_law 1824 = .ok (.iaload, 1) := dk_o14 (dk_u1 (b := 46) ((dkg_28 32).trans rfl))
theorem dL_law_1825 : decode cL_law 1825 = .ok (.invokevirtual 283, 3) := dk_o23 (dk_u1 (b := 182) ((dkg_28 33).trans rfl)) (dk_u2 (dk_u1 (b := 1) ((dkg_28 34).trans rfl)) (dk_u1 (b := 27) ((dkg_28 35).trans rfl)))
theorem dL_law_1828 : decode cL_law 1828 = .ok (.istore 6, 2) := dk_o7 (dk_u1 (b := 54) ((dkg_28 36).trans rfl)) (dk_u1 (b := 6) ((dkg_28 37).trans rfl))
theorem dL_law_1830 : decode cL_law 1830 = .ok (.goto 427, 3) := dk_o24 (dk_u1 (b := 167) ((dkg_28 38).trans rfl)) (dk_s2 (dk_u2 (dk_u1 (b := 1) ((dkg_28 39).trans rfl)) (dk_u1 (b := 171) ((dkg_28 40).trans rfl))) (by decide +kernel))
theorem dL_law_1833 : decode cL_law 1833 = .ok (.aload_n 1, 1) := dk_o16 (dk_u1 (b := 43) ((dkg_28 41).trans rfl))
theorem dL_law_1834 : decode cL_law 1834 = .ok (.invokevirtual 284, 3) := dk_o23 (dk_u1 (b := 182) ((dkg_28 42).trans rfl)) (dk_u2 (dk_u1 (b := 1) ((dkg_28 43).trans rfl)) (dk_u1 (b := 28) ((dkg_28 44).trans rfl)))
theorem dL_law_1837 : decode cL_law 1837 = .ok (.pop, 1) := dk_o36 (dk_u1 (b := 87) ((dkg_28 45).trans rfl))
theorem dL_law_1838 : decode cL_law 1838 = .ok (.aload_n 2, 1) := dk_o22 (dk_u1 (b := 44) ((dkg_28 46).trans rfl))
theorem dL_law_1839 : decode cL_law 1839 = .ok (.invokevirtual 287, 3) := dk_o23 (dk_u1 (b := 182) ((dkg_28 47).trans rfl)) (dk_u2 (dk_u1 (b := 1) ((dkg_28 48).trans rfl)) (dk_u1 (b := 31) ((dkg_28 49).trans rfl)))
theorem dL_law_1842 : decode cL_law 1842 = .ok (.pop, 1) := dk_o36 (dk_u1 (b := 87) ((dkg_28 50).trans rfl))
theorem dL_law_1843 : decode cL_law 1843 = .ok (.goto 414, 3) := dk_o24 (dk_u1 (b := 167) ((dkg_28 51).trans rfl)) (dk_s2 (dk_u2 (dk_u1 (b := 1) ((dkg_28 52).trans rfl)) (dk_u1 (b := 158) ((dkg_28 53).trans rfl))) (by decide +kernel))
theorem dL_law_1846 : decode cL_law 1846 = .ok (.aload_n 1, 1) := dk_o16 (dk_u1 (b := 43) ((dkg_28 54).trans rfl))
theorem dL_law_1847 : decode cL_law 1847 = .ok (.aload_n 0, 1) := dk_o9 (dk_u1 (b := 42) ((dkg_28 55).trans rfl))
theorem dL_law_1848 : decode cL_law 1848 = .ok (.iload 4, 2) := dk_o8 (dk_u1 (b := 21) ((dkg_28 56).trans rfl)) (dk_u1 (b := 4) ((dkg_28 57).trans rfl))
theorem dL_law_1850 : decode cL_law 1850 = .ok (.iconst 1, 1) := dk_o17 (dk_u1 (b := 4) ((dkg_28 58).trans rfl))
theorem dL_law_1851 : decode cL_law 1851 = .ok (.iadd, 1) := dk_o18 (dk_u1 (b := 96) ((dkg_28 59).trans rfl))
theorem dL_law_1852 : decode cL_law 1852 = .ok (.iaload, 1) := dk_o14 (dk_u1 (b := 46) ((dkg_28 60).trans rfl))
theorem dL_law_1853 : decode cL_law 1853 = .ok (.aload_n 0, 1) := dk_o9 (dk_u1 (b := 42) ((dkg_28 61).trans rfl))
theorem dL_law_1854 : decode cL_law 1854 = .ok (.iload 4, 2) := dk_o8 (dk_u1 (b := 21) ((dkg_28 62).trans rfl)) (dk_u1 (b := 4) ((dkg_28 63).trans rfl))
theorem dL_law_1856 : decode cL_law 1856 = .ok (.iconst 2, 1) := dk_o19 (dk_u1 (b := 5) ((dkg_29 0).trans rfl))
theorem dL_law_1857 : decode cL_law 1857 = .ok (.iadd, 1) := dk_o18 (dk_u1 (b := 96) ((dkg_29 1).trans rfl))
theorem dL_law_1858 : decode cL_law 1858 = .ok (.iaload, 1) := dk_o14 (dk_u1 (b := 46) ((dkg_29 2).trans rfl))
theorem dL_law_1859 : decode cL_law 1859 = .ok (.aload_n 3, 1) := dk_o20 (dk_u1 (b := 45) ((dkg_29 3).trans rfl))
theorem dL_law_1860 : decode cL_law 1860 = .ok (.invokestatic 288, 3) := dk_o21 (dk_u1 (b := 184) ((dkg_29 4).trans rfl)) (dk_u2 (dk_u1 (b := 1) ((dkg_29 5).trans rfl)) (dk_u1 (b := 32) ((dkg_29 6).trans rfl)))
theorem dL_law_1863 : decode cL_law 1863 = .ok (.istore 5, 2) := dk_o7 (dk_u1 (b := 54) ((dkg_29 7).trans rfl)) (dk_u1 (b := 5) ((dkg_29 8).trans rfl))
theorem dL_law_1865 : decode cL_law 1865 = .ok (.aload_n 2, 1) := dk_o22 (dk_u1 (b := 44) ((dkg_29 9).trans rfl))
theorem dL_law_1866 : decode cL_law 1866 = .ok (.aload_n 0, 1) := dk_o9 (dk_u1 (b := 42) ((dkg_29 10).trans rfl))
theorem dL_law_1867 : decode cL_law 1867 = .ok (.iload 4, 2) := dk_o8 (dk_u1 (b := 21) ((dkg_29 11).trans rfl)) (dk_u1 (b := 4) ((dkg_29 12).trans rfl))
theorem dL_law_1869 : decode cL_law 1869 = .ok (.iconst 1, 1) := dk_o17 (dk_u1 (b := 4) ((dkg_29 13).trans rfl))
theorem dL_law_1870 : decode cL_law 1870 = .ok (.iadd, 1) := dk_o18 (dk_u1 (b := 96) ((dkg_29 14).trans rfl))
theorem dL_law_1871 : decode cL_law 1871 = .ok (.iaload, 1) := dk_o14 (dk_u1 (b := 46) ((dkg_29 15).trans rfl))
theorem dL_law_1872 : decode cL_law 1872 = .ok (.aload_n 0, 1) := dk_o9 (dk_u1 (b := 42) ((dkg_29 16).trans rfl))
theorem dL_law_1873 : decode cL_law 1873 = .ok (.iload 4, 2) := dk_o8 (dk_u1 (b := 21) ((dkg_29 17).trans rfl)) (dk_u1 (b := 4) ((dkg_29 18).trans rfl))
theorem dL_law_1875 : decode cL_law 1875 = .ok (.iconst 2, 1) := dk_o19 (dk_u1 (b := 5) ((dkg_29 19).trans rfl))
theorem dL_law_1876 : decode cL_law 1876 = .ok (.iadd, 1) := dk_o18 (dk_u1 (b := 96) ((dkg_29 20).trans rfl))
theorem dL_law_1877 : decode cL_law 1877 = .ok (.iaload, 1) := dk_o14 (dk_u1 (b := 46) ((dkg_29 21).trans rfl))
theorem dL_law_1878 : decode cL_law 1878 = .ok (.invokevirtual 290, 3) := dk_o23 (dk_u1 (b := 182) ((dkg_29 22).trans rfl)) (dk_u2 (dk_u1 (b := 1) ((dkg_29 23).trans rfl)) (dk_u1 (b := 34) ((dkg_29 24).trans rfl)))
theorem dL_law_1881 : decode cL_law 1881 = .ok (.istore 6, 2) := dk_o7 (dk_u1 (b := 54) ((dkg_29 25).trans rfl)) (dk_u1 (b := 6) ((dkg_29 26).trans rfl))
theorem dL_law_1883 : decode cL_law 1883 = .ok (.goto 374, 3) := dk_o24 (dk_u1 (b := 167) ((dkg_29 27).trans rfl)) (dk_s2 (dk_u2 (dk_u1 (b := 1) ((dkg_29 28).trans rfl)) (dk_u1 (b := 118) ((dkg_29 29).trans rfl))) (by decide +kernel))
theorem dL_law_1886 : decode cL_law 1886 = .ok (.aload_n 1, 1) := dk_o16 (dk_u1 (b := 43) ((dkg_29 30).trans rfl))
theorem dL_law_1887 : decode cL_law 1887 = .ok (.aload_n 0, 1) := dk_o9 (dk_u1 (b := 42) ((dkg_29 31).trans rfl))
theorem dL_law_1888 : decode cL_law 1888 = .ok (.iload 4, 2) := dk_o8 (dk_u1 (b := 21) ((dkg_29 32).trans rfl)) (dk_u1 (b := 4) ((dkg_29 33).trans rfl))
theorem dL_law_1890 : decode cL_law 1890 = .ok (.iconst 1, 1) := dk_o17 (dk_u1 (b := 4) ((dkg_29 34).trans rfl))
theorem dL_law_1891 : decode cL_law 1891 = .ok (.iadd, 1) := dk_o18 (dk_u1 (b := 96) ((dkg_29 35).trans rfl))
theorem dL_law_1892 : decode cL_law 1892 = .ok (.iaload, 1) := dk_o14 (dk_u1 (b := 46) ((dkg_29 36).trans rfl))
theorem dL_law_1893 : decode cL_law 1893 = .ok (.aload_n 0, 1) := dk_o9 (dk_u1 (b := 42) ((dkg_29 37).trans rfl))
theorem dL_law_1894 : decode cL_law 1894 = .ok (.iload 4, 2) := dk_o8 (dk_u1 (b := 21) ((dkg_29 38).trans rfl)) (dk_u1 (b := 4) ((dkg_29 39).trans rfl))
theorem dL_law_1896 : decode cL_law 1896 = .ok (.iconst 2, 1) := dk_o19 (dk_u1 (b := 5) ((dkg_29 40).trans rfl))
theorem dL_law_1897 : decode cL_law 1897 = .ok (.iadd, 1) := dk_o18 (dk_u1 (b := 96) ((dkg_29 41).trans rfl))
theorem dL_law_1898 : decode cL_law 1898 = .ok (.iaload, 1) := dk_o14 (dk_u1 (b := 46) ((dkg_29 42).trans rfl))
theorem dL_law_1899 : decode cL_law 1899 = .ok (.aload_n 0, 1) := dk_o9 (dk_u1 (b := 42) ((dkg_29 43).trans rfl))
theorem dL_law_1900 : decode cL_law 1900 = .ok (.iload 4, 2) := dk_o8 (dk_u1 (b := 21) ((dkg_29 44).trans rfl)) (dk_u1 (b := 4) ((dkg_29 45).trans rfl))
theorem dL_law_1902 : decode cL_law 1902 = .ok (.iconst 3, 1) := dk_o32 (dk_u1 (b := 6) ((dkg_29 46).trans rfl))
theorem dL_law_1903 : decode cL_law 1903 = .ok (.iadd, 1) := dk_o18 (dk_u1 (b := 96) ((dkg_29 47).trans rfl))
theorem dL_law_1904 : decode cL_law 1904 = .ok (.iaload, 1) := dk_o14 (dk_u1 (b := 46) ((dkg_29 48).trans rfl))
theorem dL_law_1905 : decode cL_law 1905 = .ok (.aload_n 3, 1) := dk_o20 (dk_u1 (b := 45) ((dkg_29 49).trans rfl))
theorem dL_law_1906 : decode cL_law 1906 = .ok (.invokestatic 291, 3) := dk_o21 (dk_u1 (b := 184) ((dkg_29 50).trans rfl)) (dk_u2 (dk_u1 (b := 1) ((dkg_29 51).trans rfl)) (dk_u1 (b := 35) ((dkg_29 52).trans rfl)))
theorem dL_law_1909 : decode cL_law 1909 = .ok (.istore 5, 2) := dk_o7 (dk_u1 (b := 54) ((dkg_29 53).trans rfl)) (dk_u1 (b := 5) ((dkg_29 54).trans rfl))
theorem dL_law_1911 : decode cL_law 1911 = .ok (.aload_n 2, 1) := dk_o22 (dk_u1 (b := 44) ((dkg_29 55).trans rfl))
theorem dL_law_1912 : decode cL_law 1912 = .ok (.aload_n 0, 1) := dk_o9 (dk_u1 (b := 42) ((dkg_29 56).trans rfl))
theorem dL_law_1913 : decode cL_law 1913 = .ok (.iload 4, 2) := dk_o8 (dk_u1 (b := 21) ((dkg_29 57).trans rfl)) (dk_u1 (b := 4) ((dkg_29 58).trans rfl))
theorem dL_law_1915 : decode cL_law 1915 = .ok (.iconst 1, 1) := dk_o17 (dk_u1 (b := 4) ((dkg_29 59).trans rfl))
theorem dL_law_1916 : decode cL_law 1916 = .ok (.iadd, 1) := dk_o18 (dk_u1 (b := 96) ((dkg_29 60).trans rfl))
theorem dL_law_1917 : decode cL_law 1917 = .ok (.iaload, 1) := dk_o14 (dk_u1 (b := 46) ((dkg_29 61).trans rfl))
theorem dL_law_1918 : decode cL_law 1918 = .ok (.aload_n 0, 1) := dk_o9 (dk_u1 (b := 42) ((dkg_29 62).trans rfl))
theorem dL_law_1919 : decode cL_law 1919 = .ok (.iload 4, 2) := dk_o8 (dk_u1 (b := 21) ((dkg_29 63).trans rfl)) (dk_u1 (b := 4) ((dkg_30 0).trans rfl))
theorem dL_law_1921 : decode cL_law 1921 = .ok (.iconst 2, 1) := dk_o19 (dk_u1 (b := 5) ((dkg_30 1).trans rfl))
theorem dL_law_1922 : decode cL_law 1922 = .ok (.iadd, 1) := dk_o18 (dk_u1 (b := 96) ((dkg_30 2).trans rfl))
theorem dL_law_1923 : decode cL_law 1923 = .ok (.iaload, 1) := dk_o14 (dk_u1 (b := 46) ((dkg_30 3).trans rfl))
theorem dL_law_1924 : decode cL_law 1924 = .ok (.aload_n 0, 1) := dk_o9 (dk_u1 (b := 42) ((dkg_30 4).trans rfl))
theorem dL_law_1925 : decode cL_law 1925 = .ok (.iload 4, 2) := dk_o8 (dk_u1 (b := 21) ((dkg_30 5).trans rfl)) (dk_u1 (b := 4) ((dkg_30 6).trans rfl))
theorem dL_law_1927 : decode cL_law 1927 = .ok (.iconst 3, 1) := dk_o32 (dk_u1 (b := 6) ((dkg_30 7).trans rfl))
theorem dL_law_1928 : decode cL_law 1928 = .ok (.iadd, 1) := dk_o18 (dk_u1 (b := 96) ((dkg_30 8).trans rfl))
theorem dL_law_1929 : decode cL_law 1929 = .ok (.iaload, 1) := dk_o14 (dk_u1 (b := 46) ((dkg_30 9).trans rfl))
theorem dL_law_1930 : decode cL_law 1930 = .ok (.invokevirtual 293, 3) := dk_o23 (dk_u1 (b := 182) ((dkg_30 10).trans rfl)) (dk_u2 (dk_u1 (b := 1) ((dkg_30 11).trans rfl)) (dk_u1 (b := 37) ((dkg_30 12).trans rfl)))
theorem dL_law_1933 : decode cL_law 1933 = .ok (.istore 6, 2) := dk_o7 (dk_u1 (b := 54) ((dkg_30 13).trans rfl)) (dk_u1 (b := 6) ((dkg_30 14).trans rfl))
theorem dL_law_1935 : decode cL_law 1935 = .ok (.goto 322, 3) := dk_o24 (dk_u1 (b := 167) ((dkg_30 15).trans rfl)) (dk_s2 (dk_u2 (dk_u1 (b := 1) ((dkg_30 16).trans rfl)) (dk_u1 (b := 66) ((dkg_30 17).trans rfl))) (by decide +kernel))
theorem dL_law_1938 : decode cL_law 1938 = .ok (.aload_n 1, 1) := dk_o16 (dk_u1 (b := 43) ((dkg_30 18).trans rfl))
theorem dL_law_1939 : decode cL_law 1939 = .ok (.aload_n 0, 1) := dk_o9 (dk_u1 (b := 42) ((dkg_30 19).trans rfl))
theorem dL_law_1940 : decode cL_law 1940 = .ok (.iload 4, 2) := dk_o8 (dk_u1 (b := 21) ((dkg_30 20).trans rfl)) (dk_u1 (b := 4) ((dkg_30 21).trans rfl))
theorem dL_law_1942 : decode cL_law 1942 = .ok (.iconst 1, 1) := dk_o17 (dk_u1 (b := 4) ((dkg_30 22).trans rfl))
theorem dL_law_1943 : decode cL_law 1943 = .ok (.iadd, 1) := dk_o18 (dk_u1 (b := 96) ((dkg_30 23).trans rfl))
theorem dL_law_1944 : decode cL_law 1944 = .ok (.iaload, 1) := dk_o14 (dk_u1 (b := 46) ((dkg_30 24).trans rfl))
theorem dL_law_1945 : decode cL_law 1945 = .ok (.aload_n 0, 1) := dk_o9 (dk_u1 (b := 42) ((dkg_30 25).trans rfl))
theorem dL_law_1946 : decode cL_law 1946 = .ok (.iload 4, 2) := dk_o8 (dk_u1 (b := 21) ((dkg_30 26).trans rfl)) (dk_u1 (b := 4) ((dkg_30 27).trans rfl))
theorem dL_law_1948 : decode cL_law 1948 = .ok (.iconst 2, 1) := dk_o19 (dk_u1 (b := 5) ((dkg_30 28).trans rfl))
theorem dL_law_1949 : decode cL_law 1949 = .ok (.iadd, 1) := dk_o18 (dk_u1 (b := 96) ((dkg_30 29).trans rfl))
theorem dL_law_1950 : decode cL_law 1950 = .ok (.iaload, 1) := dk_o14 (dk_u1 (b := 46) ((dkg_30 30).trans rfl))
theorem dL_law_1951 : decode cL_law 1951 = .ok (.aload_n 3, 1) := dk_o20 (dk_u1 (b := 45) ((dkg_30 31).trans rfl))
theorem dL_law_1952 : decode cL_law 1952 = .ok (.invokestatic 294, 3) := dk_o21 (dk_u1 (b := 184) ((dkg_30 32).trans rfl)) (dk_u2 (dk_u1 (b := 1) ((dkg_30 33).trans rfl)) (dk_u1 (b := 38) ((dkg_30 34).trans rfl)))
theorem dL_law_1955 : decode cL_law 1955 = .ok (.istore 5, 2) := dk_o7 (dk_u1 (b := 54) ((dkg_30 35).trans rfl)) (dk_u1 (b := 5) ((dkg_30 36).trans rfl))
theorem dL_law_1957 : decode cL_law 1957 = .ok (.aload_n 2, 1) := dk_o22 (dk_u1 (b := 44) ((dkg_30 37).trans rfl))
theorem dL_law_1958 : decode cL_law 1958 = .ok (.aload_n 0, 1) := dk_o9 (dk_u1 (b := 42) ((dkg_30 38).trans rfl))
theorem dL_law_1959 : decode cL_law 1959 = .ok (.iload 4, 2) := dk_o8 (dk_u1 (b := 21) ((dkg_30 39).trans rfl)) (dk_u1 (b := 4) ((dkg_30 40).trans rfl))
theorem dL_law_1961 : decode cL_law 1961 = .ok (.iconst 1, 1) := dk_o17 (dk_u1 (b := 4) ((dkg_30 41).trans rfl))
theorem dL_law_1962 : decode cL_law 1962 = .ok (.iadd, 1) := dk_o18 (dk_u1 (b := 96) ((dkg_30 42).trans rfl))
theorem dL_law_1963 : decode cL_law 1963 = .ok (.iaload, 1) := dk_o14 (dk_u1 (b := 46) ((dkg_30 43).trans rfl))
theorem dL_law_1964 : decode cL_law 1964 = .ok (.aload_n 0, 1) := dk_o9 (dk_u1 (b := 42) ((dkg_30 44).trans rfl))
theorem dL_law_1965 : decode cL_law 1965 = .ok (.iload 4, 2) := dk_o8 (dk_u1 (b := 21) ((dkg_30 45).trans rfl)) (dk_u1 (b := 4) ((dkg_30 46).trans rfl))
theorem dL_law_1967 : decode cL_law 1967 = .ok (.iconst 2, 1) := dk_o19 (dk_u1 (b := 5) ((dkg_30 47).trans rfl))
theorem dL_law_1968 : decode cL_law 1968 = .ok (.iadd, 1) := dk_o18 (dk_u1 (b := 96) ((dkg_30 48).trans rfl))
theorem dL_law_1969 : decode cL_law 1969 = .ok (.iaload, 1) := dk_o14 (dk_u1 (b := 46) ((dkg_30 49).trans rfl))
theorem dL_law_1970 : decode cL_law 1970 = .ok (.invokevirtual 296, 3) := dk_o23 (dk_u1 (b := 182) ((dkg_30 50).trans rfl)) (dk_u2 (dk_u1 (b := 1) ((dkg_30 51).trans rfl)) (dk_u1 (b := 40) ((dkg_30 52).trans rfl)))
theorem dL_law_1973 : decode cL_law 1973 = .ok (.istore 6, 2) := dk_o7 (dk_u1 (b := 54) ((dkg_30 53).trans rfl)) (dk_u1 (b := 6) ((dkg_30 54).trans rfl))
theorem dL_law_1975 : decode cL_law 1975 = .ok (.goto 282, 3) := dk_o24 (dk_u1 (b := 167) ((dkg_30 55).trans rfl)) (dk_s2 (dk_u2 (dk_u1 (b := 1) ((dkg_30 56).trans rfl)) (dk_u1 (b := 26) ((dkg_30 57).trans rfl))) (by decide +kernel))
theorem dL_law_1978 : decode cL_law 1978 = .ok (.aload_n 1, 1) := dk_o16 (dk_u1 (b := 43) ((dkg_30 58).trans rfl))
theorem dL_law_1979 : decode cL_law 1979 = .ok (.aload_n 0, 1) := dk_o9 (dk_u1 (b := 42) ((dkg_30 59).trans rfl))
theorem dL_law_1980 : decode cL_law 1980 = .ok (.iload 4, 2) := dk_o8 (dk_u1 (b := 21) ((dkg_30 60).trans rfl)) (dk_u1 (b := 4) ((dkg_30 61).trans rfl))
theorem dL_law_1982 : decode cL_law 1982 = .ok (.iconst 1, 1) := dk_o17 (dk_u1 (b := 4) ((dkg_30 62).trans rfl))
theorem dL_law_1983 : decode cL_law 1983 = .ok (.iadd, 1) := dk_o18 (dk_u1 (b := 96) ((dkg_30 63).trans rfl))
theorem dL_law_1984 : decode cL_law 1984 = .ok (.iaload, 1) := dk_o14 (dk_u1 (b := 46) ((dkg_31 0).trans rfl))
theorem dL_law_1985 : decode cL_law 1985 = .ok (.aload_n 3, 1) := dk_o20 (dk_u1 (b := 45) ((dkg_31 1).trans rfl))
theorem dL_law_1986 : decode cL_law 1986 = .ok (.invokestatic 297, 3) := dk_o21 (dk_u1 (b := 184) ((dkg_31 2).trans rfl)) (dk_u2 (dk_u1 (b := 1) ((dkg_31 3).trans rfl)) (dk_u1 (b := 41) ((dkg_31 4).trans rfl)))
theorem dL_law_1989 : decode cL_law 1989 = .ok (.istore 5, 2) := dk_o7 (dk_u1 (b := 54) ((dkg_31 5).trans rfl)) (dk_u1 (b := 5) ((dkg_31 6).trans rfl))
theorem dL_law_1991 : decode cL_law 1991 = .ok (.aload_n 2, 1) := dk_o22 (dk_u1 (b := 44) ((dkg_31 7).trans rfl))
theorem dL_law_1992 : decode cL_law 1992 = .ok (.aload_n 0, 1) := dk_o9 (dk_u1 (b := 42) ((dkg_31 8).trans rfl))
theorem dL_law_1993 : decode cL_law 1993 = .ok (.iload 4, 2) := dk_o8 (dk_u1 (b := 21) ((dkg_31 9).trans rfl)) (dk_u1 (b := 4) ((dkg_31 10).trans rfl))
theorem dL_law_1995 : decode cL_law 1995 = .ok (.iconst 1, 1) := dk_o17 (dk_u1 (b := 4) ((dkg_31 11).trans rfl))
theorem dL_law_1996 : decode cL_law 1996 = .ok (.iadd, 1) := dk_o18 (dk_u1 (b := 96) ((dkg_31 12).trans rfl))
theorem dL_law_1997 : decode cL_law 1997 = .ok (.iaload, 1) := dk_o14 (dk_u1 (b := 46) ((dkg_31 13).trans rfl))
theorem dL_law_1998 : decode cL_law 1998 = .ok (.invokevirtual 299, 3) := dk_o23 (dk_u1 (b := 182) ((dkg_31 14).trans rfl)) (dk_u2 (dk_u1 (b := 1) ((dkg_31 15).trans rfl)) (dk_u1 (b := 43) ((dkg_31 16).trans rfl)))
theorem dL_law_2001 : decode cL_law 2001 = .ok (.istore 6, 2) := dk_o7 (dk_u1 (b := 54) ((dkg_31 17).trans rfl)) (dk_u1 (b := 6) ((dkg_31 18).trans rfl))
theorem dL_law_2003 : decode cL_law 2003 = .ok (.goto 254, 3) := dk_o24 (dk_u1 (b := 167) ((dkg_31 19).trans rfl)) (dk_s2 (dk_u2 (dk_u1 (b := 0) ((dkg_31 20).trans rfl)) (dk_u1 (b := 254) ((dkg_31 21).trans rfl))) (by decide +kernel))
theorem dL_law_2006 : decode cL_law 2006 = .ok (.aload_n 1, 1) := dk_o16 (dk_u1 (b := 43) ((dkg_31 22).trans rfl))
theorem dL_law_2007 : decode cL_law 2007 = .ok (.aload_n 0, 1) := dk_o9 (dk_u1 (b := 42) ((dkg_31 23).trans rfl))
theorem dL_law_2008 : decode cL_law 2008 = .ok (.iload 4, 2) := dk_o8 (dk_u1 (b := 21) ((dkg_31 24).trans rfl)) (dk_u1 (b := 4) ((dkg_31 25).trans rfl))
theorem dL_law_2010 : decode cL_law 2010 = .ok (.iconst 1, 1) := dk_o17 (dk_u1 (b := 4) ((dkg_31 26).trans rfl))
theorem dL_law_2011 : decode cL_law 2011 = .ok (.iadd, 1) := dk_o18 (dk_u1 (b := 96) ((dkg_31 27).trans rfl))
theorem dL_law_2012 : decode cL_law 2012 = .ok (.iaload, 1) := dk_o14 (dk_u1 (b := 46) ((dkg_31 28).trans rfl))
theorem dL_law_2013 : decode cL_law 2013 = .ok (.aload_n 3, 1) := dk_o20 (dk_u1 (b := 45) ((dkg_31 29).trans rfl))
theorem dL_law_2014 : decode cL_law 2014 = .ok (.invokestatic 300, 3) := dk_o21 (dk_u1 (b := 184) ((dkg_31 30).trans rfl)) (dk_u2 (dk_u1 (b := 1) ((dkg_31 31).trans rfl)) (dk_u1 (b := 44) ((dkg_31 32).trans rfl)))
theorem dL_law_2017 : decode cL_law 2017 = .ok (.istore 5, 2) := dk_o7 (dk_u1 (b := 54) ((dkg_31 33).trans rfl)) (dk_u1 (b := 5) ((dkg_31 34).trans rfl))
theorem dL_law_2019 : decode cL_law 2019 = .ok (.aload_n 2, 1) := dk_o22 (dk_u1 (b := 44) ((dkg_31 35).trans rfl))
theorem dL_law_2020 : decode cL_law 2020 = .ok (.aload_n 0, 1) := dk_o9 (dk_u1 (b := 42) ((dkg_31 36).trans rfl))
theorem dL_law_2021 : decode cL_law 2021 = .ok (.iload 4, 2) := dk_o8 (dk_u1 (b := 21) ((dkg_31 37).trans rfl)) (dk_u1 (b := 4) ((dkg_31 38).trans rfl))
theorem dL_law_2023 : decode cL_law 2023 = .ok (.iconst 1, 1) := dk_o17 (dk_u1 (b := 4) ((dkg_31 39).trans rfl))
theorem dL_law_2024 : decode cL_law 2024 = .ok (.iadd, 1) := dk_o18 (dk_u1 (b := 96) ((dkg_31 40).trans rfl))
theorem dL_law_2025 : decode cL_law 2025 = .ok (.iaload, 1) := dk_o14 (dk_u1 (b := 46) ((dkg_31 41).trans rfl))
theorem dL_law_2026 : decode cL_law 2026 = .ok (.invokevirtual 302, 3) := dk_o23 (dk_u1 (b := 182) ((dkg_31 42).trans rfl)) (dk_u2 (dk_u1 (b := 1) ((dkg_31 43).trans rfl)) (dk_u1 (b := 46) ((dkg_31 44).trans rfl)))
theorem dL_law_2029 : decode cL_law 2029 = .ok (.astore 6, 2) := dk_o35 (dk_u1 (b := 58) ((dkg_31 45).trans rfl)) (dk_u1 (b := 6) ((dkg_31 46).trans rfl))
theorem dL_law_2031 : decode cL_law 2031 = .ok (.goto 226, 3) := dk_o24 (dk_u1 (b := 167) ((dkg_31 47).trans rfl)) (dk_s2 (dk_u2 (dk_u1 (b := 0) ((dkg_31 48).trans rfl)) (dk_u1 (b := 226) ((dkg_31 49).trans rfl))) (by decide +kernel))
theorem dL_law_2034 : decode cL_law 2034 = .ok (.aload_n 1, 1) := dk_o16 (dk_u1 (b := 43) ((dkg_31 50).trans rfl))
theorem dL_law_2035 : decode cL_law 2035 = .ok (.aload_n 0, 1) := dk_o9 (dk_u1 (b := 42) ((dkg_31 51).trans rfl))
theorem dL_law_2036 : decode cL_law 2036 = .ok (.iload 4, 2) := dk_o8 (dk_u1 (b := 21) ((dkg_31 52).trans rfl)) (dk_u1 (b := 4) ((dkg_31 53).trans rfl))
theorem dL_law_2038 : decode cL_law 2038 = .ok (.iconst 1, 1) := dk_o17 (dk_u1 (b := 4) ((dkg_31 54).trans rfl))
theorem dL_law_2039 : decode cL_law 2039 = .ok (.iadd, 1) := dk_o18 (dk_u1 (b := 96) ((dkg_31 55).trans rfl))
theorem dL_law_2040 : decode cL_law 2040 = .ok (.iaload, 1) := dk_o14 (dk_u1 (b := 46) ((dkg_31 56).trans rfl))
theorem dL_law_2041 : decode cL_law 2041 = .ok (.aload_n 0, 1) := dk_o9 (dk_u1 (b := 42) ((dkg_31 57).trans rfl))
theorem dL_law_2042 : decode cL_law 2042 = .ok (.iload 4, 2) := dk_o8 (dk_u1 (b := 21) ((dkg_31 58).trans rfl)) (dk_u1 (b := 4) ((dkg_31 59).trans rfl))
theorem dL_law_2044 : decode cL_law 2044 = .ok (.iconst 2, 1) := dk_o19 (dk_u1 (b := 5) ((dkg_31 60).trans rfl))
theorem dL_law_2045 : decode cL_law 2045 = .ok (.iadd, 1) := dk_o18 (dk_u1 (b := 96) ((dkg_31 61).trans rfl))
theorem dL_law_2046 : decode cL_law 2046 = .ok (.iaload, 1) := dk_o14 (dk_u1 (b := 46) ((dkg_31 62).trans rfl))
theorem dL_law_2047 : decode cL_law 2047 = .ok (.aload_n 3, 1) := dk_o20 (dk_u1 (b := 45) ((dkg_31 63).trans rfl))
theorem dL_law_2048 : decode cL_law 2048 = .ok (.invokestatic 303, 3) := dk_o21 (dk_u1 (b := 184) ((dkg_32 0).trans rfl)) (dk_u2 (dk_u1 (b := 1) ((dkg_32 1).trans rfl)) (dk_u1 (b := 47) ((dkg_32 2).trans rfl)))
theorem dL_law_2051 : decode cL_law 2051 = .ok (.istore 5, 2) := dk_o7 (dk_u1 (b := 54) ((dkg_32 3).trans rfl)) (dk_u1 (b := 5) ((dkg_32 4).trans rfl))
theorem dL_law_2053 : decode cL_law 2053 = .ok (.aload_n 2, 1) := dk_o22 (dk_u1 (b := 44) ((dkg_32 5).trans rfl))
theorem dL_law_2054 : decode cL_law 2054 = .ok (.aload_n 0, 1) := dk_o9 (dk_u1 (b := 42) ((dkg_32 6).trans rfl))
theorem dL_law_2055 : decode cL_law 2055 = .ok (.iload 4, 2) := dk_o8 (dk_u1 (b := 21) ((dkg_32 7).trans rfl)) (dk_u1 (b := 4) ((dkg_32 8).trans rfl))
theorem dL_law_2057 : decode cL_law 2057 = .ok (.iconst 1, 1) := dk_o17 (dk_u1 (b := 4) ((dkg_32 9).trans rfl))
theorem dL_law_2058 : decode cL_law 2058 = .ok (.iadd, 1) := dk_o18 (dk_u1 (b := 96) ((dkg_32 10).trans rfl))
theorem dL_law_2059 : decode cL_law 2059 = .ok (.iaload, 1) := dk_o14 (dk_u1 (b := 46) ((dkg_32 11).trans rfl))
theorem dL_law_2060 : decode cL_law 2060 = .ok (.aload_n 0, 1) := dk_o9 (dk_u1 (b := 42) ((dkg_32 12).trans rfl))
theorem dL_law_2061 : decode cL_law 2061 = .ok (.iload 4, 2) := dk_o8 (dk_u1 (b := 21) ((dkg_32 13).trans rfl)) (dk_u1 (b := 4) ((dkg_32 14).trans rfl))
theorem dL_law_2063 : decode cL_law 2063 = .ok (.iconst 2, 1) := dk_o19 (dk_u1 (b := 5) ((dkg_32 15).trans rfl))
theorem dL_law_2064 : decode cL_law 2064 = .ok (.iadd, 1) := dk_o18 (dk_u1 (b := 96) ((dkg_32 16).trans rfl))
theorem dL_law_2065 : decode cL_law 2065 = .ok (.iaload, 1) := dk_o14 (dk_u1 (b := 46) ((dkg_32 17).trans rfl))
theorem dL_law_2066 : decode cL_law 2066 = .ok (.invokevirtual 305, 3) := dk_o23 (dk_u1 (b := 182) ((dkg_32 18).trans rfl)) (dk_u2 (dk_u1 (b := 1) ((dkg_32 19).trans rfl)) (dk_u1 (b := 49) ((dkg_32 20).trans rfl)))
theorem dL_law_2069 : decode cL_law 2069 = .ok (.istore 6, 2) := dk_o7 (dk_u1 (b := 54) ((dkg_32 21).trans rfl)) (dk_u1 (b := 6) ((dkg_32 22).trans rfl))
theorem dL_law_2071 : decode cL_law 2071 = .ok (.goto 186, 3) := dk_o24 (dk_u1 (b := 167) ((dkg_32 23).trans rfl)) (dk_s2 (dk_u2 (dk_u1 (b := 0) ((dkg_32 24).trans rfl)) (dk_u1 (b := 186) ((dkg_32 25).trans rfl))) (by decide +kernel))
theorem dL_law_2074 : decode cL_law 2074 = .ok (.aload_n 1, 1) := dk_o16 (dk_u1 (b := 43) ((dkg_32 26).trans rfl))
theorem dL_law_2075 : decode cL_law 2075 = .ok (.aload_n 0, 1) := dk_o9 (dk_u1 (b := 42) ((dkg_32 27).trans rfl))
theorem dL_law_2076 : decode cL_law 2076 = .ok (.iload 4, 2) := dk_o8 (dk_u1 (b := 21) ((dkg_32 28).trans rfl)) (dk_u1 (b := 4) ((dkg_32 29).trans rfl))
theorem dL_law_2078 : decode cL_law 2078 = .ok (.iconst 1, 1) := dk_o17 (dk_u1 (b := 4) ((dkg_32 30).trans rfl))
theorem dL_law_2079 : decode cL_law 2079 = .ok (.iadd, 1) := dk_o18 (dk_u1 (b := 96) ((dkg_32 31).trans rfl))
theorem dL_law_2080 : decode cL_law 2080 = .ok (.iaload, 1) := dk_o14 (dk_u1 (b := 46) ((dkg_32 32).trans rfl))
theorem dL_law_2081 : decode cL_law 2081 = .ok (.aload_n 0, 1) := dk_o9 (dk_u1 (b := 42) ((dkg_32 33).trans rfl))
theorem dL_law_2082 : decode cL_law 2082 = .ok (.iload 4, 2) := dk_o8 (dk_u1 (b := 21) ((dkg_32 34).trans rfl)) (dk_u1 (b := 4) ((dkg_32 35).trans rfl))
theorem dL_law_2084 : decode cL_law 2084 = .ok (.iconst 2, 1) := dk_o19 (dk_u1 (b := 5) ((dkg_32 36).trans rfl))
theorem dL_law_2085 : decode cL_law 2085 = .ok (.iadd, 1) := dk_o18 (dk_u1 (b := 96) ((dkg_32 37).trans rfl))
theorem dL_law_2086 : decode cL_law 2086 = .ok (.iaload, 1) := dk_o14 (dk_u1 (b := 46) ((dkg_32 38).trans rfl))
theorem dL_law_2087 : decode cL_law 2087 = .ok (.aload_n 0, 1) := dk_o9 (dk_u1 (b := 42) ((dkg_32 39).trans rfl))
theorem dL_law_2088 : decode cL_law 2088 = .ok (.iload 4, 2) := dk_o8 (dk_u1 (b := 21) ((dkg_32 40).trans rfl)) (dk_u1 (b := 4) ((dkg_32 41).trans rfl))
theorem dL_law_2090 : decode cL_law 2090 = .ok (.iconst 3, 1) := dk_o32 (dk_u1 (b := 6) ((dkg_32 42).trans rfl))
theorem dL_law_2091 : decode cL_law 2091 = .ok (.iadd, 1) := dk_o18 (dk_u1 (b := 96) ((dkg_32 43).trans rfl))
theorem dL_law_2092 : decode cL_law 2092 = .ok (.iaload, 1) := dk_o14 (dk_u1 (b := 46) ((dkg_32 44).trans rfl))
theorem dL_law_2093 : decode cL_law 2093 = .ok (.aload_n 0, 1) := dk_o9 (dk_u1 (b := 42) ((dkg_32 45).trans rfl))
theorem dL_law_2094 : decode cL_law 2094 = .ok (.iload 4, 2) := dk_o8 (dk_u1 (b := 21) ((dkg_32 46).trans rfl)) (dk_u1 (b := 4) ((dkg_32 47).trans rfl))
theorem dL_law_2096 : decode cL_law 2096 = .ok (.iconst 4, 1) := dk_o33 (dk_u1 (b := 7) ((dkg_32 48).trans rfl))
theorem dL_law_2097 : decode cL_law 2097 = .ok (.iadd, 1) := dk_o18 (dk_u1 (b := 96) ((dkg_32 49).trans rfl))
theorem dL_law_2098 : decode cL_law 2098 = .ok (.iaload, 1) := dk_o14 (dk_u1 (b := 46) ((dkg_32 50).trans rfl))
theorem dL_law_2099 : decode cL_law 2099 = .ok (.aload_n 3, 1) := dk_o20 (dk_u1 (b := 45) ((dkg_32 51).trans rfl))
theorem dL_law_2100 : decode cL_law 2100 = .ok (.invokestatic 306, 3) := dk_o21 (dk_u1 (b := 184) ((dkg_32 52).trans rfl)) (dk_u2 (dk_u1 (b := 1) ((dkg_32 53).trans rfl)) (dk_u1 (b := 50) ((dkg_32 54).trans rfl)))
theorem dL_law_2103 : decode cL_law 2103 = .ok (.istore 5, 2) := dk_o7 (dk_u1 (b := 54) ((dkg_32 55).trans rfl)) (dk_u1 (b := 5) ((dkg_32 56).trans rfl))
theorem dL_law_2105 : decode cL_law 2105 = .ok (.aload_n 2, 1) := dk_o22 (dk_u1 (b := 44) ((dkg_32 57).trans rfl))
theorem dL_law_2106 : decode cL_law 2106 = .ok (.aload_n 0, 1) := dk_o9 (dk_u1 (b := 42) ((dkg_32 58).trans rfl))
theorem dL_law_2107 : decode cL_law 2107 = .ok (.iload 4, 2) := dk_o8 (dk_u1 (b := 21) ((dkg_32 59).trans rfl)) (dk_u1 (b := 4) ((dkg_32 60).trans rfl))
theorem dL_law_2109 : decode cL_law 2109 = .ok (.iconst 1, 1) := dk_o17 (dk_u1 (b := 4) ((dkg_32 61).trans rfl))
theorem dL_law_2110 : decode cL_law 2110 = .ok (.iadd, 1) := dk_o18 (dk_u1 (b := 96) ((dkg_32 62).trans rfl))
theorem dL_law_2111 : decode cL_law 2111 = .ok (.iaload, 1) := dk_o14 (dk_u1 (b := 46) ((dkg_32 63).trans rfl))
theorem dL_law_2112 : decode cL_law 2112 = .ok (.aload_n 0, 1) := dk_o9 (dk_u1 (b := 42) ((dkg_33 0).trans rfl))
theorem dL_law_2113 : decode cL_law 2113 = .ok (.iload 4, 2) := dk_o8 (dk_u1 (b := 21) ((dkg_33 1).trans rfl)) (dk_u1 (b := 4) ((dkg_33 2).trans rfl))
theorem dL_law_2115 : decode cL_law 2115 = .ok (.iconst 2, 1) := dk_o19 (dk_u1 (b := 5) ((dkg_33 3).trans rfl))
theorem dL_law_2116 : decode cL_law 2116 = .ok (.iadd, 1) := dk_o18 (dk_u1 (b := 96) ((dkg_33 4).trans rfl))
theorem dL_law_2117 : decode cL_law 2117 = .ok (.iaload, 1) := dk_o14 (dk_u1 (b := 46) ((dkg_33 5).trans rfl))
theorem dL_law_2118 : decode cL_law 2118 = .ok (.aload_n 0, 1) := dk_o9 (dk_u1 (b := 42) ((dkg_33 6).trans rfl))
theorem dL_law_2119 : decode cL_law 2119 = .ok (.iload 4, 2) := dk_o8 (dk_u1 (b := 21) ((dkg_33 7).trans rfl)) (dk_u1 (b := 4) ((dkg_33 8).trans rfl))
theorem dL_law_2121 : decode cL_law 2121 = .ok (.iconst 3, 1) := dk_o32 (dk_u1 (b := 6) ((dkg_33 9).trans rfl))
theorem dL_law_2122 : decode cL_law 2122 = .ok (.iadd, 1) := dk_o18 (dk_u1 (b := 96) ((dkg_33 10).trans rfl))
theorem dL_law_2123 : decode cL_law 2123 = .ok (.iaload, 1) := dk_o14 (dk_u1 (b := 46) ((dkg_33 11).trans rfl))
theorem dL_law_2124 : decode cL_law 2124 = .ok (.aload_n 0, 1) := dk_o9 (dk_u1 (b := 42) ((dkg_33 12).trans rfl))
theorem dL_law_2125 : decode cL_law 2125 = .ok (.iload 4, 2) := dk_o8 (dk_u1 (b := 21) ((dkg_33 13).trans rfl)) (dk_u1 (b := 4) ((dkg_33 14).trans rfl))
theorem dL_law_2127 : decode cL_law 2127 = .ok (.iconst 4, 1) := dk_o33 (dk_u1 (b := 7) ((dkg_33 15).trans rfl))
theorem dL_law_2128 : decode cL_law 2128 = .ok (.iadd, 1) := dk_o18 (dk_u1 (b := 96) ((dkg_33 16).trans rfl))
theorem dL_law_2129 : decode cL_law 2129 = .ok (.iaload, 1) := dk_o14 (dk_u1 (b := 46) ((dkg_33 17).trans rfl))
theorem dL_law_2130 : decode cL_law 2130 = .ok (.invokevirtual 308, 3) := dk_o23 (dk_u1 (b := 182) ((dkg_33 18).trans rfl)) (dk_u2 (dk_u1 (b := 1) ((dkg_33 19).trans rfl)) (dk_u1 (b := 52) ((dkg_33 20).trans rfl)))
theorem dL_law_2133 : decode cL_law 2133 = .ok (.istore 6, 2) := dk_o7 (dk_u1 (b := 54) ((dkg_33 21).trans rfl)) (dk_u1 (b := 6) ((dkg_33 22).trans rfl))
theorem dL_law_2135 : decode cL_law 2135 = .ok (.goto 122, 3) := dk_o24 (dk_u1 (b := 167) ((dkg_33 23).trans rfl)) (dk_s2 (dk_u2 (dk_u1 (b := 0) ((dkg_33 24).trans rfl)) (dk_u1 (b := 122) ((dkg_33 25).trans rfl))) (by decide +kernel))
theorem dL_law_2138 : decode cL_law 2138 = .ok (.aload_n 1, 1) := dk_o16 (dk_u1 (b := 43) ((dkg_33 26).trans rfl))
theorem dL_law_2139 : decode cL_law 2139 = .ok (.aload_n 0, 1) := dk_o9 (dk_u1 (b := 42) ((dkg_33 27).trans rfl))
theorem dL_law_2140 : decode cL_law 2140 = .ok (.iload 4, 2) := dk_o8 (dk_u1 (b := 21) ((dkg_33 28).trans rfl)) (dk_u1 (b := 4) ((dkg_33 29).trans rfl))
theorem dL_law_2142 : decode cL_law 2142 = .ok (.iconst 1, 1) := dk_o17 (dk_u1 (b := 4) ((dkg_33 30).trans rfl))
theorem dL_law_2143 : decode cL_law 2143 = .ok (.iadd, 1) := dk_o18 (dk_u1 (b := 96) ((dkg_33 31).trans rfl))
theorem dL_law_2144 : decode cL_law 2144 = .ok (.iaload, 1) := dk_o14 (dk_u1 (b := 46) ((dkg_33 32).trans rfl))
theorem dL_law_2145 : decode cL_law 2145 = .ok (.aload_n 0, 1) := dk_o9 (dk_u1 (b := 42) ((dkg_33 33).trans rfl))
theorem dL_law_2146 : decode cL_law 2146 = .ok (.iload 4, 2) := dk_o8 (dk_u1 (b := 21) ((dkg_33 34).trans rfl)) (dk_u1 (b := 4) ((dkg_33 35).trans rfl))
theorem dL_law_2148 : decode cL_law 2148 = .ok (.iconst 2, 1) := dk_o19 (dk_u1 (b := 5) ((dkg_33 36).trans rfl))
theorem dL_law_2149 : decode cL_law 2149 = .ok (.iadd, 1) := dk_o18 (dk_u1 (b := 96) ((dkg_33 37).trans rfl))
theorem dL_law_2150 : decode cL_law 2150 = .ok (.iaload, 1) := dk_o14 (dk_u1 (b := 46) ((dkg_33 38).trans rfl))
theorem dL_law_2151 : decode cL_law 2151 = .ok (.aload_n 0, 1) := dk_o9 (dk_u1 (b := 42) ((dkg_33 39).trans rfl))
theorem dL_law_2152 : decode cL_law 2152 = .ok (.iload 4, 2) := dk_o8 (dk_u1 (b := 21) ((dkg_33 40).trans rfl)) (dk_u1 (b := 4) ((dkg_33 41).trans rfl))
theorem dL_law_2154 : decode cL_law 2154 = .ok (.iconst 3, 1) := dk_o32 (dk_u1 (b := 6) ((dkg_33 42).trans rfl))
theorem dL_law_2155 : decode cL_law 2155 = .ok (.iadd, 1) := dk_o18 (dk_u1 (b := 96) ((dkg_33 43).trans rfl))
theorem dL_law_2156 : decode cL_law 2156 = .ok (.iaload, 1) := dk_o14 (dk_u1 (b := 46) ((dkg_33 44).trans rfl))
theorem dL_law_2157 : decode cL_law 2157 = .ok (.aload_n 3, 1) := dk_o20 (dk_u1 (b := 45) ((dkg_33 45).trans rfl))
theorem dL_law_2158 : decode cL_law 2158 = .ok (.invokestatic 309, 3) := dk_o21 (dk_u1 (b := 184) ((dkg_33 46).trans rfl)) (dk_u2 (dk_u1 (b := 1) ((dkg_33 47).trans rfl)) (dk_u1 (b := 53) ((dkg_33 48).trans rfl)))
theorem dL_law_2161 : decode cL_law 2161 = .ok (.istore 5, 2) := dk_o7 (dk_u1 (b := 54) ((dkg_33 49).trans rfl)) (dk_u1 (b := 5) ((dkg_33 50).trans rfl))
theorem dL_law_2163 : decode cL_law 2163 = .ok (.aload_n 2, 1) := dk_o22 (dk_u1 (b := 44) ((dkg_33 51).trans rfl))
theorem dL_law_2164 : decode cL_law 2164 = .ok (.aload_n 0, 1) := dk_o9 (dk_u1 (b := 42) ((dkg_33 52).trans rfl))
theorem dL_law_2165 : decode cL_law 2165 = .ok (.iload 4, 2) := dk_o8 (dk_u1 (b := 21) ((dkg_33 53).trans rfl)) (dk_u1 (b := 4) ((dkg_33 54).trans rfl))
theorem dL_law_2167 : decode cL_law 2167 = .ok (.iconst 1, 1) := dk_o17 (dk_u1 (b := 4) ((dkg_33 55).trans rfl))
theorem dL_law_2168 : decode cL_law 2168 = .ok (.iadd, 1) := dk_o18 (dk_u1 (b := 96) ((dkg_33 56).trans rfl))
theorem dL_law_2169 : decode cL_law 2169 = .ok (.iaload, 1) := dk_o14 (dk_u1 (b := 46) ((dkg_33 57).trans rfl))
theorem dL_law_2170 : decode cL_law 2170 = .ok (.aload_n 0, 1) := dk_o9 (dk_u1 (b := 42) ((dkg_33 58).trans rfl))
theorem dL_law_2171 : decode cL_law 2171 = .ok (.iload 4, 2) := dk_o8 (dk_u1 (b := 21) ((dkg_33 59).trans rfl)) (dk_u1 (b := 4) ((dkg_33 60).trans rfl))
theorem dL_law_2173 : decode cL_law 2173 = .ok (.iconst 2, 1) := dk_o19 (dk_u1 (b := 5) ((dkg_33 61).trans rfl))
theorem dL_law_2174 : decode cL_law 2174 = .ok (.iadd, 1) := dk_o18 (dk_u1 (b := 96) ((dkg_33 62).trans rfl))
theorem dL_law_2175 : decode cL_law 2175 = .ok (.iaload, 1) := dk_o14 (dk_u1 (b := 46) ((dkg_33 63).trans rfl))
theorem dL_law_2176 : decode cL_law 2176 = .ok (.aload_n 0, 1) := dk_o9 (dk_u1 (b := 42) ((dkg_34 0).trans rfl))
theorem dL_law_2177 : decode cL_law 2177 = .ok (.iload 4, 2) := dk_o8 (dk_u1 (b := 21) ((dkg_34 1).trans rfl)) (dk_u1 (b := 4) ((dkg_34 2).trans rfl))
theorem dL_law_2179 : decode cL_law 2179 = .ok (.iconst 3, 1) := dk_o32 (dk_u1 (b := 6) ((dkg_34 3).trans rfl))
theorem dL_law_2180 : decode cL_law 2180 = .ok (.iadd, 1) := dk_o18 (dk_u1 (b := 96) ((dkg_34 4).trans rfl))
theorem dL_law_2181 : decode cL_law 2181 = .ok (.iaload, 1) := dk_o14 (dk_u1 (b := 46) ((dkg_34 5).trans rfl))
theorem dL_law_2182 : decode cL_law 2182 = .ok (.invokevirtual 311, 3) := dk_o23 (dk_u1 (b := 182) ((dkg_34 6).trans rfl)) (dk_u2 (dk_u1 (b := 1) ((dkg_34 7).trans rfl)) (dk_u1 (b := 55) ((dkg_34 8).trans rfl)))
theorem dL_law_2185 : decode cL_law 2185 = .ok (.istore 6, 2) := dk_o7 (dk_u1 (b := 54) ((dkg_34 9).trans rfl)) (dk_u1 (b := 6) ((dkg_34 10).trans rfl))
theorem dL_law_2187 : decode cL_law 2187 = .ok (.goto 70, 3) := dk_o24 (dk_u1 (b := 167) ((dkg_34 11).trans rfl)) (dk_s2 (dk_u2 (dk_u1 (b := 0) ((dkg_34 12).trans rfl)) (dk_u1 (b := 70) ((dkg_34 13).trans rfl))) (by decide +kernel))
theorem dL_law_2190 : decode cL_law 2190 = .ok (.aload_n 1, 1) := dk_o16 (dk_u1 (b := 43) ((dkg_34 14).trans rfl))
theorem dL_law_2191 : decode cL_law 2191 = .ok (.invokevirtual 312, 3) := dk_o23 (dk_u1 (b := 182) ((dkg_34 15).trans rfl)) (dk_u2 (dk_u1 (b := 1) ((dkg_34 16).trans rfl)) (dk_u1 (b := 56) ((dkg_34 17).trans rfl)))
theorem dL_law_2194 : decode cL_law 2194 = .ok (.pop, 1) := dk_o36 (dk_u1 (b := 87) ((dkg_34 18).trans rfl))
theorem dL_law_2195 : decode cL_law 2195 = .ok (.aload_n 2, 1) := dk_o22 (dk_u1 (b := 44) ((dkg_34 19).trans rfl))
theorem dL_law_2196 : decode cL_law 2196 = .ok (.invokevirtual 315, 3) := dk_o23 (dk_u1 (b := 182) ((dkg_34 20).trans rfl)) (dk_u2 (dk_u1 (b := 1) ((dkg_34 21).trans rfl)) (dk_u1 (b := 59) ((dkg_34 22).trans rfl)))
theorem dL_law_2199 : decode cL_law 2199 = .ok (.pop, 1) := dk_o36 (dk_u1 (b := 87) ((dkg_34 23).trans rfl))
theorem dL_law_2200 : decode cL_law 2200 = .ok (.goto 57, 3) := dk_o24 (dk_u1 (b := 167) ((dkg_34 24).trans rfl)) (dk_s2 (dk_u2 (dk_u1 (b := 0) ((dkg_34 25).trans rfl)) (dk_u1 (b := 57) ((dkg_34 26).trans rfl))) (by decide +kernel))
theorem dL_law_2203 : decode cL_law 2203 = .ok (.aload_n 1, 1) := dk_o16 (dk_u1 (b := 43) ((dkg_34 27).trans rfl))
theorem dL_law_2204 : decode cL_law 2204 = .ok (.aload_n 0, 1) := dk_o9 (dk_u1 (b := 42) ((dkg_34 28).trans rfl))
theorem dL_law_2205 : decode cL_law 2205 = .ok (.iload 4, 2) := dk_o8 (dk_u1 (b := 21) ((dkg_34 29).trans rfl)) (dk_u1 (b := 4) ((dkg_34 30).trans rfl))
theorem dL_law_2207 : decode cL_law 2207 = .ok (.iconst 1, 1) := dk_o17 (dk_u1 (b := 4) ((dkg_34 31).trans rfl))
theorem dL_law_2208 : decode cL_law 2208 = .ok (.iadd, 1) := dk_o18 (dk_u1 (b := 96) ((dkg_34 32).trans rfl))
theorem dL_law_2209 : decode cL_law 2209 = .ok (.iaload, 1) := dk_o14 (dk_u1 (b := 46) ((dkg_34 33).trans rfl))
theorem dL_law_2210 : decode cL_law 2210 = .ok (.aload_n 3, 1) := dk_o20 (dk_u1 (b := 45) ((dkg_34 34).trans rfl))
theorem dL_law_2211 : decode cL_law 2211 = .ok (.invokestatic 316, 3) := dk_o21 (dk_u1 (b := 184) ((dkg_34 35).trans rfl)) (dk_u2 (dk_u1 (b := 1) ((dkg_34 36).trans rfl)) (dk_u1 (b := 60) ((dkg_34 37).trans rfl)))
theorem dL_law_2214 : decode cL_law 2214 = .ok (.istore 5, 2) := dk_o7 (dk_u1 (b := 54) ((dkg_34 38).trans rfl)) (dk_u1 (b := 5) ((dkg_34 39).trans rfl))
theorem dL_law_2216 : decode cL_law 2216 = .ok (.aload_n 2, 1) := dk_o22 (dk_u1 (b := 44) ((dkg_34 40).trans rfl))
theorem dL_law_2217 : decode cL_law 2217 = .ok (.aload_n 0, 1) := dk_o9 (dk_u1 (b := 42) ((dkg_34 41).trans rfl))
theorem dL_law_2218 : decode cL_law 2218 = .ok (.iload 4, 2) := dk_o8 (dk_u1 (b := 21) ((dkg_34 42).trans rfl)) (dk_u1 (b := 4) ((dkg_34 43).trans rfl))
theorem dL_law_2220 : decode cL_law 2220 = .ok (.iconst 1, 1) := dk_o17 (dk_u1 (b := 4) ((dkg_34 44).trans rfl))
theorem dL_law_2221 : decode cL_law 2221 = .ok (.iadd, 1) := dk_o18 (dk_u1 (b := 96) ((dkg_34 45).trans rfl))
theorem dL_law_2222 : decode cL_law 2222 = .ok (.iaload, 1) := dk_o14 (dk_u1 (b := 46) ((dkg_34 46).trans rfl))
theorem dL_law_2223 : decode cL_law 2223 = .ok (.invokevirtual 318, 3) := dk_o23 (dk_u1 (b := 182) ((dkg_34 47).trans rfl)) (dk_u2 (dk_u1 (b := 1) ((dkg_34 48).trans rfl)) (dk_u1 (b := 62) ((dkg_34 49).trans rfl)))
theorem dL_law_2226 : decode cL_law 2226 = .ok (.istore 6, 2) := dk_o7 (dk_u1 (b := 54) ((dkg_34 50).trans rfl)) (dk_u1 (b := 6) ((dkg_34 51).trans rfl))
theorem dL_law_2228 : decode cL_law 2228 = .ok (.goto 29, 3) := dk_o24 (dk_u1 (b := 167) ((dkg_34 52).trans rfl)) (dk_s2 (dk_u2 (dk_u1 (b := 0) ((dkg_34 53).trans rfl)) (dk_u1 (b := 29) ((dkg_34 54).trans rfl))) (by decide +kernel))
theorem dL_law_2231 : decode cL_law 2231 = .ok (.aload_n 1, 1) := dk_o16 (dk_u1 (b := 43) ((dkg_34 55).trans rfl))
theorem dL_law_2232 : decode cL_law 2232 = .ok (.invokevirtual 319, 3) := dk_o23 (dk_u1 (b := 182) ((dkg_34 56).trans rfl)) (dk_u2 (dk_u1 (b := 1) ((dkg_34 57).trans rfl)) (dk_u1 (b := 63) ((dkg_34 58).trans rfl)))
theorem dL_law_2235 : decode cL_law 2235 = .ok (.pop, 1) := dk_o36 (dk_u1 (b := 87) ((dkg_34 59).trans rfl))
theorem dL_law_2236 : decode cL_law 2236 = .ok (.aload_n 2, 1) := dk_o22 (dk_u1 (b := 44) ((dkg_34 60).trans rfl))
theorem dL_law_2237 : decode cL_law 2237 = .ok (.invokevirtual 323, 3) := dk_o23 (dk_u1 (b := 182) ((dkg_34 61).trans rfl)) (dk_u2 (dk_u1 (b := 1) ((dkg_34 62).trans rfl)) (dk_u1 (b := 67) ((dkg_34 63).trans rfl)))
theorem dL_law_2240 : decode cL_law 2240 = .ok (.pop, 1) := dk_o36 (dk_u1 (b := 87) ((dkg_35 0).trans rfl))
theorem dL_law_2241 : decode cL_law 2241 = .ok (.goto 16, 3) := dk_o24 (dk_u1 (b := 167) ((dkg_35 1).trans rfl)) (dk_s2 (dk_u2 (dk_u1 (b := 0) ((dkg_35 2).trans rfl)) (dk_u1 (b := 16) ((dkg_35 3).trans rfl))) (by decide +kernel))
theorem dL_law_2244 : decode cL_law 2244 = .ok (.aload_n 1, 1) := dk_o16 (dk_u1 (b := 43) ((dkg_35 4).trans rfl))
theorem dL_law_2245 : decode cL_law 2245 = .ok (.invokevirtual 324, 3) := dk_o23 (dk_u1 (b := 182) ((dkg_35 5).trans rfl)) (dk_u2 (dk_u1 (b := 1) ((dkg_35 6).trans rfl)) (dk_u1 (b := 68) ((dkg_35 7).trans rfl)))
theorem dL_law_2248 : decode cL_law 2248 = .ok (.pop2, 1) := dk_o37 (dk_u1 (b := 88) ((dkg_35 8).trans rfl))
theorem dL_law_2249 : decode cL_law 2249 = .ok (.aload_n 2, 1) := dk_o22 (dk_u1 (b := 44) ((dkg_35 9).trans rfl))
theorem dL_law_2250 : decode cL_law 2250 = .ok (.invokevirtual 328, 3) := dk_o23 (dk_u1 (b := 182) ((dkg_35 10).trans rfl)) (dk_u2 (dk_u1 (b := 1) ((dkg_35 11).trans rfl)) (dk_u1 (b := 72) ((dkg_35 12).trans rfl)))
theorem dL_law_2253 : decode cL_law 2253 = .ok (.pop2, 1) := dk_o37 (dk_u1 (b := 88) ((dkg_35 13).trans rfl))
theorem dL_law_2254 : decode cL_law 2254 = .ok (.goto 3, 3) := dk_o24 (dk_u1 (b := 167) ((dkg_35 14).trans rfl)) (dk_s2 (dk_u2 (dk_u1 (b := 0) ((dkg_35 15).trans rfl)) (dk_u1 (b := 3) ((dkg_35 16).trans rfl))) (by decide +kernel))
theorem dL_law_2257 : decode cL_law 2257 = .ok (.iinc 4 6, 3) := by decide +kernel
theorem dL_law_2260 : decode cL_law 2260 = .ok (.goto (-2233), 3) := dk_o24 (dk_u1 (b := 167) ((dkg_35 20).trans rfl)) (dk_s2 (dk_u2 (dk_u1 (b := 247) ((dkg_35 21).trans rfl)) (dk_u1 (b := 71) ((dkg_35 22).trans rfl))) (by decide +kernel))
theorem dL_law_2263 : decode cL_law 2263 = .ok (.iconst 1, 1) := dk_o17 (dk_u1 (b := 4) ((dkg_35 23).trans rfl))
theorem dL_law_2264 : decode cL_law 2264 = .ok (.ireturn, 1) := dk_o27 (dk_u1 (b := 172) ((dkg_35 24).trans rfl))
end ZM2
section ZM3
def z_strs : List (String × Nat × String) := [("Loopdefaults", 304, "the number is out of its range"), ("java/util/Arrays", 337, " > "), ("Loopdefaults", 296, "there is no such row"), ("Loopdefaults", 60, "the row is full"), ("Loopdefaults", 300, "there is no such hearer"), ("Loopdefaults", 307, "the rule is not one of these"), ("Loopdefaults", 298, "there is no such table"), ("Loopdefaults", 200, "there is no such place"), ("java/util/ArrayList", 201, "Index: "), ("java/util/ArrayList", 203, ", Size: "), ("LoopdefaultsModel", 208, ""), ("LoopdefaultsModel$Hearer", 75, " "), ("LoopdefaultsModel$Hearer", 77, ""), ("LoopdefaultsModel", 220, " "), ("LoopdefaultsModel", 232, "=")]
def z_ncs : List (String × String) := [("java/lang/IllegalArgumentException", "java/lang/IndexOutOfBoundsException"), ("java/lang/IllegalStateException", "java/lang/IndexOutOfBoundsException"), ("java/lang/IndexOutOfBoundsException", "java/lang/IllegalArgumentException"), ("java/lang/IllegalStateException", "java/lang/IllegalArgumentException"), ("java/lang/IndexOutOfBoundsException", "java/lang/IllegalStateException"), ("java/lang/IllegalArgumentException", "java/lang/IllegalStateException")]
end ZM3
section ZM4
section ZLg
theorem lwg_ap {A B : List Cond} {n : Nat} (h : A.length = n) (i : Nat) : (A ++ B)[i + n]? = B[i]? := by
  subst h
  rw [List.getElem?_append_right (Nat.le_add_left _ _), Nat.add_sub_cancel]
theorem lwg_1 (i : Nat) : lw_tbl[i + 45]? = (tables_1_1 ++ (tables_1_2 ++ (tables_1_3 ++ (tables_1_4 ++ (tables_1_5 ++ (tables_1_6 ++ (tables_1_7 ++ (tables_1_8 ++ tables_1_9))))))))[i]? := lwg_ap (A := k2_sels lw_privs) (B := tables_1) (by decide +kernel) i
theorem lwg_2 (i : Nat) : lw_tbl[i + 285]? = (tables_1_2 ++ (tables_1_3 ++ (tables_1_4 ++ (tables_1_5 ++ (tables_1_6 ++ (tables_1_7 ++ (tables_1_8 ++ tables_1_9)))))))[i]? := (lwg_1 (i + 240)).trans (lwg_ap (A := tables_1_1) (by decide +kernel) i)
theorem lwg_3 (i : Nat) : lw_tbl[i + 525]? = (tables_1_3 ++ (tables_1_4 ++ (tables_1_5 ++ (tables_1_6 ++ (tables_1_7 ++ (tables_1_8 ++ tables_1_9))))))[i]? := (lwg_2 (i + 240)).trans (lwg_ap (A := tables_1_2) (by decide +kernel) i)
theorem lwg_4 (i : Nat) : lw_tbl[i + 765]? = (tables_1_4 ++ (tables_1_5 ++ (tables_1_6 ++ (tables_1_7 ++ (tables_1_8 ++ tables_1_9)))))[i]? := (lwg_3 (i + 240)).trans (lwg_ap (A := tables_1_3) (by decide +kernel) i)
theorem lwg_5 (i : Nat) : lw_tbl[i + 1005]? = (tables_1_5 ++ (tables_1_6 ++ (tables_1_7 ++ (tables_1_8 ++ tables_1_9))))[i]? := (lwg_4 (i + 240)).trans (lwg_ap (A := tables_1_4) (by decide +kernel) i)
theorem lwg_6 (i : Nat) : lw_tbl[i + 1245]? = (tables_1_6 ++ (tables_1_7 ++ (tables_1_8 ++ tables_1_9)))[i]? := (lwg_5 (i + 240)).trans (lwg_ap (A := tables_1_5) (by decide +kernel) i)
theorem lwg_7 (i : Nat) : lw_tbl[i + 1485]? = (tables_1_7 ++ (tables_1_8 ++ tables_1_9))[i]? := (lwg_6 (i + 240)).trans (lwg_ap (A := tables_1_6) (by decide +kernel) i)
theorem lwg_8 (i : Nat) : lw_tbl[i + 1725]? = (tables_1_8 ++ tables_1_9)[i]? := (lwg_7 (i + 240)).trans (lwg_ap (A := tables_1_7) (by decide +kernel) i)
theorem lwg_9 (i : Nat) : lw_tbl[i + 1965]? = tables_1_9[i]? := (lwg_8 (i + 240)).trans (lwg_ap (A := tables_1_8) (by decide +kernel) i)
end ZLg
end ZM4
