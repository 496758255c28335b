theorem dX0_init_0 : decode cX0_init 0 = .ok (.aload_n 0, 1) := by decide +kernel
theorem dX0_init_1 : decode cX0_init 1 = .ok (.invokespecial 3, 3) := by decide +kernel
theorem dX0_init_4 : decode cX0_init 4 = .ok (.aload_n 0, 1) := by decide +kernel
theorem dX0_init_5 : decode cX0_init 5 = .ok (.bipush 10, 2) := by decide +kernel
theorem dX0_init_7 : decode cX0_init 7 = .ok (.newarray .int, 2) := by decide +kernel
theorem dX0_init_9 : decode cX0_init 9 = .ok (.putfield 9, 3) := by decide +kernel
theorem dX0_init_12 : decode cX0_init 12 = .ok (.aload_n 0, 1) := by decide +kernel
theorem dX0_init_13 : decode cX0_init 13 = .ok (.iconst (-1), 1) := by decide +kernel
theorem dX0_init_14 : decode cX0_init 14 = .ok (.putfield 15, 3) := by decide +kernel
theorem dX0_init_17 : decode cX0_init 17 = .ok (.aload_n 0, 1) := by decide +kernel
theorem dX0_init_18 : decode cX0_init 18 = .ok (.sipush (-1000), 3) := by decide +kernel
theorem dX0_init_21 : decode cX0_init 21 = .ok (.putfield 19, 3) := by decide +kernel
theorem dX0_init_24 : decode cX0_init 24 = .ok (.return_, 1) := by decide +kernel
theorem dX0_takesIn_0 : decode cX0_takesIn 0 = .ok (.aload_n 0, 1) := by decide +kernel
theorem dX0_takesIn_1 : decode cX0_takesIn 1 = .ok (.getfield 19, 3) := by decide +kernel
theorem dX0_takesIn_4 : decode cX0_takesIn 4 = .ok (.sipush (-1000), 3) := by decide +kernel
theorem dX0_takesIn_7 : decode cX0_takesIn 7 = .ok (.if_icmp .eq 13, 3) := by decide +kernel
theorem dX0_takesIn_10 : decode cX0_takesIn 10 = .ok (.iload_n 1, 1) := by decide +kernel
theorem dX0_takesIn_11 : decode cX0_takesIn 11 = .ok (.aload_n 0, 1) := by decide +kernel
theorem dX0_takesIn_12 : decode cX0_takesIn 12 = .ok (.getfield 19, 3) := by decide +kernel
theorem dX0_takesIn_15 : decode cX0_takesIn 15 = .ok (.if_icmp .ne 5, 3) := by decide +kernel
theorem dX0_takesIn_18 : decode cX0_takesIn 18 = .ok (.iconst 0, 1) := by decide +kernel
theorem dX0_takesIn_19 : decode cX0_takesIn 19 = .ok (.ireturn, 1) := by decide +kernel
theorem dX0_takesIn_20 : decode cX0_takesIn 20 = .ok (.aload_n 0, 1) := by decide +kernel
theorem dX0_takesIn_21 : decode cX0_takesIn 21 = .ok (.dup, 1) := by decide +kernel
theorem dX0_takesIn_22 : decode cX0_takesIn 22 = .ok (.getfield 22, 3) := by decide +kernel
theorem dX0_takesIn_25 : decode cX0_takesIn 25 = .ok (.iconst 1, 1) := by decide +kernel
theorem dX0_takesIn_26 : decode cX0_takesIn 26 = .ok (.iadd, 1) := by decide +kernel
theorem dX0_takesIn_27 : decode cX0_takesIn 27 = .ok (.putfield 22, 3) := by decide +kernel
theorem dX0_takesIn_30 : decode cX0_takesIn 30 = .ok (.aload_n 0, 1) := by decide +kernel
theorem dX0_takesIn_31 : decode cX0_takesIn 31 = .ok (.dup, 1) := by decide +kernel
theorem dX0_takesIn_32 : decode cX0_takesIn 32 = .ok (.getfield 25, 3) := by decide +kernel
theorem dX0_takesIn_35 : decode cX0_takesIn 35 = .ok (.iload_n 1, 1) := by decide +kernel
theorem dX0_takesIn_36 : decode cX0_takesIn 36 = .ok (.iadd, 1) := by decide +kernel
theorem dX0_takesIn_37 : decode cX0_takesIn 37 = .ok (.putfield 25, 3) := by decide +kernel
theorem dX0_takesIn_40 : decode cX0_takesIn 40 = .ok (.aload_n 0, 1) := by decide +kernel
theorem dX0_takesIn_41 : decode cX0_takesIn 41 = .ok (.iload_n 1, 1) := by decide +kernel
theorem dX0_takesIn_42 : decode cX0_takesIn 42 = .ok (.putfield 15, 3) := by decide +kernel
theorem dX0_takesIn_45 : decode cX0_takesIn 45 = .ok (.aload_n 0, 1) := by decide +kernel
theorem dX0_takesIn_46 : decode cX0_takesIn 46 = .ok (.iload_n 1, 1) := by decide +kernel
theorem dX0_takesIn_47 : decode cX0_takesIn 47 = .ok (.invokevirtual 28, 3) := by decide +kernel
theorem dX0_takesIn_50 : decode cX0_takesIn 50 = .ok (.iconst 1, 1) := by decide +kernel
theorem dX0_takesIn_51 : decode cX0_takesIn 51 = .ok (.ireturn, 1) := by decide +kernel
theorem dX0_keep_0 : decode cX0_keep 0 = .ok (.aload_n 0, 1) := by decide +kernel
theorem dX0_keep_1 : decode cX0_keep 1 = .ok (.getfield 32, 3) := by decide +kernel
theorem dX0_keep_4 : decode cX0_keep 4 = .ok (.aload_n 0, 1) := by decide +kernel
theorem dX0_keep_5 : decode cX0_keep 5 = .ok (.getfield 9, 3) := by decide +kernel
theorem dX0_keep_8 : decode cX0_keep 8 = .ok (.arraylength, 1) := by decide +kernel
theorem dX0_keep_9 : decode cX0_keep 9 = .ok (.if_icmp .lt 7, 3) := by decide +kernel
theorem dX0_keep_12 : decode cX0_keep 12 = .ok (.aload_n 0, 1) := by decide +kernel
theorem dX0_keep_13 : decode cX0_keep 13 = .ok (.invokevirtual 35, 3) := by decide +kernel
theorem dX0_keep_16 : decode cX0_keep 16 = .ok (.aload_n 0, 1) := by decide +kernel
theorem dX0_keep_17 : decode cX0_keep 17 = .ok (.getfield 32, 3) := by decide +kernel
theorem dX0_keep_20 : decode cX0_keep 20 = .ok (.ifCond .lt 35, 3) := by decide +kernel
theorem dX0_keep_23 : decode cX0_keep 23 = .ok (.aload_n 0, 1) := by decide +kernel
theorem dX0_keep_24 : decode cX0_keep 24 = .ok (.getfield 32, 3) := by decide +kernel
theorem dX0_keep_27 : decode cX0_keep 27 = .ok (.aload_n 0, 1) := by decide +kernel
theorem dX0_keep_28 : decode cX0_keep 28 = .ok (.getfield 9, 3) := by decide +kernel
theorem dX0_keep_31 : decode cX0_keep 31 = .ok (.arraylength, 1) := by decide +kernel
theorem dX0_keep_32 : decode cX0_keep 32 = .ok (.if_icmp .ge 23, 3) := by decide +kernel
theorem dX0_keep_35 : decode cX0_keep 35 = .ok (.aload_n 0, 1) := by decide +kernel
theorem dX0_keep_36 : decode cX0_keep 36 = .ok (.getfield 9, 3) := by decide +kernel
theorem dX0_keep_39 : decode cX0_keep 39 = .ok (.aload_n 0, 1) := by decide +kernel
theorem dX0_keep_40 : decode cX0_keep 40 = .ok (.getfield 32, 3) := by decide +kernel
theorem dX0_keep_43 : decode cX0_keep 43 = .ok (.iload_n 1, 1) := by decide +kernel
theorem dX0_keep_44 : decode cX0_keep 44 = .ok (.iastore, 1) := by decide +kernel
theorem dX0_keep_45 : decode cX0_keep 45 = .ok (.aload_n 0, 1) := by decide +kernel
theorem dX0_keep_46 : decode cX0_keep 46 = .ok (.dup, 1) := by decide +kernel
theorem dX0_keep_47 : decode cX0_keep 47 = .ok (.getfield 32, 3) := by decide +kernel
theorem dX0_keep_50 : decode cX0_keep 50 = .ok (.iconst 1, 1) := by decide +kernel
theorem dX0_keep_51 : decode cX0_keep 51 = .ok (.iadd, 1) := by decide +kernel
theorem dX0_keep_52 : decode cX0_keep 52 = .ok (.putfield 32, 3) := by decide +kernel
theorem dX0_keep_55 : decode cX0_keep 55 = .ok (.return_, 1) := by decide +kernel
theorem dX0_dropOldest_0 : decode cX0_dropOldest 0 = .ok (.iconst 1, 1) := by decide +kernel
theorem dX0_dropOldest_1 : decode cX0_dropOldest 1 = .ok (.istore_n 1, 1) := by decide +kernel
theorem dX0_dropOldest_2 : decode cX0_dropOldest 2 = .ok (.iload_n 1, 1) := by decide +kernel
theorem dX0_dropOldest_3 : decode cX0_dropOldest 3 = .ok (.aload_n 0, 1) := by decide +kernel
theorem dX0_dropOldest_4 : decode cX0_dropOldest 4 = .ok (.getfield 9, 3) := by decide +kernel
theorem dX0_dropOldest_7 : decode cX0_dropOldest 7 = .ok (.arraylength, 1) := by decide +kernel
theorem dX0_dropOldest_8 : decode cX0_dropOldest 8 = .ok (.if_icmp .ge 23, 3) := by decide +kernel
theorem dX0_dropOldest_11 : decode cX0_dropOldest 11 = .ok (.aload_n 0, 1) := by decide +kernel
theorem dX0_dropOldest_12 : decode cX0_dropOldest 12 = .ok (.getfield 9, 3) := by decide +kernel
theorem dX0_dropOldest_15 : decode cX0_dropOldest 15 = .ok (.iload_n 1, 1) := by decide +kernel
theorem dX0_dropOldest_16 : decode cX0_dropOldest 16 = .ok (.iconst 1, 1) := by decide +kernel
theorem dX0_dropOldest_17 : decode cX0_dropOldest 17 = .ok (.isub, 1) := by decide +kernel
theorem dX0_dropOldest_18 : decode cX0_dropOldest 18 = .ok (.aload_n 0, 1) := by decide +kernel
theorem dX0_dropOldest_19 : decode cX0_dropOldest 19 = .ok (.getfield 9, 3) := by decide +kernel
theorem dX0_dropOldest_22 : decode cX0_dropOldest 22 = .ok (.iload_n 1, 1) := by decide +kernel
theorem dX0_dropOldest_23 : decode cX0_dropOldest 23 = .ok (.iaload, 1) := by decide +kernel
theorem dX0_dropOldest_24 : decode cX0_dropOldest 24 = .ok (.iastore, 1) := by decide +kernel
theorem dX0_dropOldest_25 : decode cX0_dropOldest 25 = .ok (.iinc 1 1, 3) := by decide +kernel
theorem dX0_dropOldest_28 : decode cX0_dropOldest 28 = .ok (.goto (-26), 3) := by decide +kernel
theorem dX0_dropOldest_31 : decode cX0_dropOldest 31 = .ok (.aload_n 0, 1) := by decide +kernel
theorem dX0_dropOldest_32 : decode cX0_dropOldest 32 = .ok (.dup, 1) := by decide +kernel
theorem dX0_dropOldest_33 : decode cX0_dropOldest 33 = .ok (.getfield 32, 3) := by decide +kernel
theorem dX0_dropOldest_36 : decode cX0_dropOldest 36 = .ok (.iconst 1, 1) := by decide +kernel
theorem dX0_dropOldest_37 : decode cX0_dropOldest 37 = .ok (.isub, 1) := by decide +kernel
theorem dX0_dropOldest_38 : decode cX0_dropOldest 38 = .ok (.putfield 32, 3) := by decide +kernel
theorem dX0_dropOldest_41 : decode cX0_dropOldest 41 = .ok (.return_, 1) := by decide +kernel
theorem dX0_beginAnew_0 : decode cX0_beginAnew 0 = .ok (.aload_n 0, 1) := by decide +kernel
theorem dX0_beginAnew_1 : decode cX0_beginAnew 1 = .ok (.iconst 0, 1) := by decide +kernel
theorem dX0_beginAnew_2 : decode cX0_beginAnew 2 = .ok (.putfield 32, 3) := by decide +kernel
theorem dX0_beginAnew_5 : decode cX0_beginAnew 5 = .ok (.aload_n 0, 1) := by decide +kernel
theorem dX0_beginAnew_6 : decode cX0_beginAnew 6 = .ok (.iconst 0, 1) := by decide +kernel
theorem dX0_beginAnew_7 : decode cX0_beginAnew 7 = .ok (.putfield 22, 3) := by decide +kernel
theorem dX0_beginAnew_10 : decode cX0_beginAnew 10 = .ok (.aload_n 0, 1) := by decide +kernel
theorem dX0_beginAnew_11 : decode cX0_beginAnew 11 = .ok (.iconst 0, 1) := by decide +kernel
theorem dX0_beginAnew_12 : decode cX0_beginAnew 12 = .ok (.putfield 25, 3) := by decide +kernel
theorem dX0_beginAnew_15 : decode cX0_beginAnew 15 = .ok (.aload_n 0, 1) := by decide +kernel
theorem dX0_beginAnew_16 : decode cX0_beginAnew 16 = .ok (.iconst (-1), 1) := by decide +kernel
theorem dX0_beginAnew_17 : decode cX0_beginAnew 17 = .ok (.putfield 15, 3) := by decide +kernel
theorem dX0_beginAnew_20 : decode cX0_beginAnew 20 = .ok (.return_, 1) := by decide +kernel
theorem dX0_tells_0 : decode cX0_tells 0 = .ok (.iload_n 1, 1) := by decide +kernel
theorem dX0_tells_1 : decode cX0_tells 1 = .ok (.tableswitch 42 0 2 #[27, 32, 37], 27) := by decide +kernel
theorem dX0_tells_28 : decode cX0_tells 28 = .ok (.aload_n 0, 1) := by decide +kernel
theorem dX0_tells_29 : decode cX0_tells 29 = .ok (.getfield 22, 3) := by decide +kernel
theorem dX0_tells_32 : decode cX0_tells 32 = .ok (.ireturn, 1) := by decide +kernel
theorem dX0_tells_33 : decode cX0_tells 33 = .ok (.aload_n 0, 1) := by decide +kernel
theorem dX0_tells_34 : decode cX0_tells 34 = .ok (.getfield 25, 3) := by decide +kernel
theorem dX0_tells_37 : decode cX0_tells 37 = .ok (.ireturn, 1) := by decide +kernel
theorem dX0_tells_38 : decode cX0_tells 38 = .ok (.aload_n 0, 1) := by decide +kernel
theorem dX0_tells_39 : decode cX0_tells 39 = .ok (.getfield 15, 3) := by decide +kernel
theorem dX0_tells_42 : decode cX0_tells 42 = .ok (.ireturn, 1) := by decide +kernel
theorem dX0_tells_43 : decode cX0_tells 43 = .ok (.aload_n 0, 1) := by decide +kernel
theorem dX0_tells_44 : decode cX0_tells 44 = .ok (.getfield 19, 3) := by decide +kernel
theorem dX0_tells_47 : decode cX0_tells 47 = .ok (.ireturn, 1) := by decide +kernel
theorem dX0_recent_0 : decode cX0_recent 0 = .ok (.aload_n 0, 1) := by decide +kernel
theorem dX0_recent_1 : decode cX0_recent 1 = .ok (.getfield 9, 3) := by decide +kernel
theorem dX0_recent_4 : decode cX0_recent 4 = .ok (.aload_n 0, 1) := by decide +kernel
theorem dX0_recent_5 : decode cX0_recent 5 = .ok (.getfield 32, 3) := by decide +kernel
theorem dX0_recent_8 : decode cX0_recent 8 = .ok (.invokestatic 38, 3) := by decide +kernel
theorem dX0_recent_11 : decode cX0_recent 11 = .ok (.areturn, 1) := by decide +kernel
theorem dX1_init_0 : decode cX1_init 0 = .ok (.aload_n 0, 1) := by decide +kernel
theorem dX1_init_1 : decode cX1_init 1 = .ok (.invokespecial 3, 3) := by decide +kernel
theorem dX1_init_4 : decode cX1_init 4 = .ok (.aload_n 0, 1) := by decide +kernel
theorem dX1_init_5 : decode cX1_init 5 = .ok (.bipush 12, 2) := by decide +kernel
theorem dX1_init_7 : decode cX1_init 7 = .ok (.newarray .int, 2) := by decide +kernel
theorem dX1_init_9 : decode cX1_init 9 = .ok (.putfield 9, 3) := by decide +kernel
theorem dX1_init_12 : decode cX1_init 12 = .ok (.aload_n 0, 1) := by decide +kernel
theorem dX1_init_13 : decode cX1_init 13 = .ok (.new 15, 3) := by decide +kernel
theorem dX1_init_16 : decode cX1_init 16 = .ok (.dup, 1) := by decide +kernel
theorem dX1_init_17 : decode cX1_init 17 = .ok (.invokespecial 17, 3) := by decide +kernel
theorem dX1_init_20 : decode cX1_init 20 = .ok (.putfield 18, 3) := by decide +kernel
theorem dX1_init_23 : decode cX1_init 23 = .ok (.return_, 1) := by decide +kernel
theorem dX1_isFull_0 : decode cX1_isFull 0 = .ok (.aload_n 0, 1) := by decide +kernel
theorem dX1_isFull_1 : decode cX1_isFull 1 = .ok (.getfield 22, 3) := by decide +kernel
theorem dX1_isFull_4 : decode cX1_isFull 4 = .ok (.aload_n 0, 1) := by decide +kernel
theorem dX1_isFull_5 : decode cX1_isFull 5 = .ok (.getfield 9, 3) := by decide +kernel
theorem dX1_isFull_8 : decode cX1_isFull 8 = .ok (.arraylength, 1) := by decide +kernel
theorem dX1_isFull_9 : decode cX1_isFull 9 = .ok (.if_icmp .lt 7, 3) := by decide +kernel
theorem dX1_isFull_12 : decode cX1_isFull 12 = .ok (.iconst 1, 1) := by decide +kernel
theorem dX1_isFull_13 : decode cX1_isFull 13 = .ok (.goto 4, 3) := by decide +kernel
theorem dX1_isFull_16 : decode cX1_isFull 16 = .ok (.iconst 0, 1) := by decide +kernel
theorem dX1_isFull_17 : decode cX1_isFull 17 = .ok (.ireturn, 1) := by decide +kernel
theorem dX1_isPlace_0 : decode cX1_isPlace 0 = .ok (.iload_n 1, 1) := by decide +kernel
theorem dX1_isPlace_1 : decode cX1_isPlace 1 = .ok (.ifCond .lt 24, 3) := by decide +kernel
theorem dX1_isPlace_4 : decode cX1_isPlace 4 = .ok (.iload_n 1, 1) := by decide +kernel
theorem dX1_isPlace_5 : decode cX1_isPlace 5 = .ok (.aload_n 0, 1) := by decide +kernel
theorem dX1_isPlace_6 : decode cX1_isPlace 6 = .ok (.getfield 22, 3) := by decide +kernel
theorem dX1_isPlace_9 : decode cX1_isPlace 9 = .ok (.if_icmp .ge 16, 3) := by decide +kernel
theorem dX1_isPlace_12 : decode cX1_isPlace 12 = .ok (.iload_n 1, 1) := by decide +kernel
theorem dX1_isPlace_13 : decode cX1_isPlace 13 = .ok (.aload_n 0, 1) := by decide +kernel
theorem dX1_isPlace_14 : decode cX1_isPlace 14 = .ok (.getfield 9, 3) := by decide +kernel
theorem dX1_isPlace_17 : decode cX1_isPlace 17 = .ok (.arraylength, 1) := by decide +kernel
theorem dX1_isPlace_18 : decode cX1_isPlace 18 = .ok (.if_icmp .ge 7, 3) := by decide +kernel
theorem dX1_isPlace_21 : decode cX1_isPlace 21 = .ok (.iconst 1, 1) := by decide +kernel
theorem dX1_isPlace_22 : decode cX1_isPlace 22 = .ok (.goto 4, 3) := by decide +kernel
theorem dX1_isPlace_25 : decode cX1_isPlace 25 = .ok (.iconst 0, 1) := by decide +kernel
theorem dX1_isPlace_26 : decode cX1_isPlace 26 = .ok (.ireturn, 1) := by decide +kernel
theorem dX1_valueAt_0 : decode cX1_valueAt 0 = .ok (.aload_n 0, 1) := by decide +kernel
theorem dX1_valueAt_1 : decode cX1_valueAt 1 = .ok (.iload_n 1, 1) := by decide +kernel
theorem dX1_valueAt_2 : decode cX1_valueAt 2 = .ok (.invokevirtual 26, 3) := by decide +kernel
theorem dX1_valueAt_5 : decode cX1_valueAt 5 = .ok (.ifCond .eq 12, 3) := by decide +kernel
theorem dX1_valueAt_8 : decode cX1_valueAt 8 = .ok (.aload_n 0, 1) := by decide +kernel
theorem dX1_valueAt_9 : decode cX1_valueAt 9 = .ok (.getfield 9, 3) := by decide +kernel
theorem dX1_valueAt_12 : decode cX1_valueAt 12 = .ok (.iload_n 1, 1) := by decide +kernel
theorem dX1_valueAt_13 : decode cX1_valueAt 13 = .ok (.iaload, 1) := by decide +kernel
theorem dX1_valueAt_14 : decode cX1_valueAt 14 = .ok (.goto 4, 3) := by decide +kernel
theorem dX1_valueAt_17 : decode cX1_valueAt 17 = .ok (.iconst 0, 1) := by decide +kernel
theorem dX1_valueAt_18 : decode cX1_valueAt 18 = .ok (.ireturn, 1) := by decide +kernel
theorem dX1_setAt_0 : decode cX1_setAt 0 = .ok (.aload_n 0, 1) := by decide +kernel
theorem dX1_setAt_1 : decode cX1_setAt 1 = .ok (.iload_n 1, 1) := by decide +kernel
theorem dX1_setAt_2 : decode cX1_setAt 2 = .ok (.invokevirtual 26, 3) := by decide +kernel
theorem dX1_setAt_5 : decode cX1_setAt 5 = .ok (.ifCond .eq 10, 3) := by decide +kernel
theorem dX1_setAt_8 : decode cX1_setAt 8 = .ok (.aload_n 0, 1) := by decide +kernel
theorem dX1_setAt_9 : decode cX1_setAt 9 = .ok (.getfield 9, 3) := by decide +kernel
theorem dX1_setAt_12 : decode cX1_setAt 12 = .ok (.iload_n 1, 1) := by decide +kernel
theorem dX1_setAt_13 : decode cX1_setAt 13 = .ok (.iload_n 2, 1) := by decide +kernel
theorem dX1_setAt_14 : decode cX1_setAt 14 = .ok (.iastore, 1) := by decide +kernel
theorem dX1_setAt_15 : decode cX1_setAt 15 = .ok (.return_, 1) := by decide +kernel
theorem dX1_append_0 : decode cX1_append 0 = .ok (.aload_n 0, 1) := by decide +kernel
theorem dX1_append_1 : decode cX1_append 1 = .ok (.getfield 22, 3) := by decide +kernel
theorem dX1_append_4 : decode cX1_append 4 = .ok (.ifCond .lt 35, 3) := by decide +kernel
theorem dX1_append_7 : decode cX1_append 7 = .ok (.aload_n 0, 1) := by decide +kernel
theorem dX1_append_8 : decode cX1_append 8 = .ok (.getfield 22, 3) := by decide +kernel
theorem dX1_append_11 : decode cX1_append 11 = .ok (.aload_n 0, 1) := by decide +kernel
theorem dX1_append_12 : decode cX1_append 12 = .ok (.getfield 9, 3) := by decide +kernel
theorem dX1_append_15 : decode cX1_append 15 = .ok (.arraylength, 1) := by decide +kernel
theorem dX1_append_16 : decode cX1_append 16 = .ok (.if_icmp .ge 23, 3) := by decide +kernel
theorem dX1_append_19 : decode cX1_append 19 = .ok (.aload_n 0, 1) := by decide +kernel
theorem dX1_append_20 : decode cX1_append 20 = .ok (.getfield 9, 3) := by decide +kernel
theorem dX1_append_23 : decode cX1_append 23 = .ok (.aload_n 0, 1) := by decide +kernel
theorem dX1_append_24 : decode cX1_append 24 = .ok (.getfield 22, 3) := by decide +kernel
theorem dX1_append_27 : decode cX1_append 27 = .ok (.iload_n 1, 1) := by decide +kernel
theorem dX1_append_28 : decode cX1_append 28 = .ok (.iastore, 1) := by decide +kernel
theorem dX1_append_29 : decode cX1_append 29 = .ok (.aload_n 0, 1) := by decide +kernel
theorem dX1_append_30 : decode cX1_append 30 = .ok (.dup, 1) := by decide +kernel
theorem dX1_append_31 : decode cX1_append 31 = .ok (.getfield 22, 3) := by decide +kernel
theorem dX1_append_34 : decode cX1_append 34 = .ok (.iconst 1, 1) := by decide +kernel
theorem dX1_append_35 : decode cX1_append 35 = .ok (.iadd, 1) := by decide +kernel
theorem dX1_append_36 : decode cX1_append 36 = .ok (.putfield 22, 3) := by decide +kernel
theorem dX1_append_39 : decode cX1_append 39 = .ok (.return_, 1) := by decide +kernel
theorem dX1_shorten_0 : decode cX1_shorten 0 = .ok (.iload_n 1, 1) := by decide +kernel
theorem dX1_shorten_1 : decode cX1_shorten 1 = .ok (.ifCond .lt 21, 3) := by decide +kernel
theorem dX1_shorten_4 : decode cX1_shorten 4 = .ok (.iload_n 1, 1) := by decide +kernel
theorem dX1_shorten_5 : decode cX1_shorten 5 = .ok (.aload_n 0, 1) := by decide +kernel
theorem dX1_shorten_6 : decode cX1_shorten 6 = .ok (.getfield 22, 3) := by decide +kernel
theorem dX1_shorten_9 : decode cX1_shorten 9 = .ok (.if_icmp .gt 13, 3) := by decide +kernel
theorem dX1_shorten_12 : decode cX1_shorten 12 = .ok (.aload_n 0, 1) := by decide +kernel
theorem dX1_shorten_13 : decode cX1_shorten 13 = .ok (.dup, 1) := by decide +kernel
theorem dX1_shorten_14 : decode cX1_shorten 14 = .ok (.getfield 22, 3) := by decide +kernel
theorem dX1_shorten_17 : decode cX1_shorten 17 = .ok (.iload_n 1, 1) := by decide +kernel
theorem dX1_shorten_18 : decode cX1_shorten 18 = .ok (.isub, 1) := by decide +kernel
theorem dX1_shorten_19 : decode cX1_shorten 19 = .ok (.putfield 22, 3) := by decide +kernel
theorem dX1_shorten_22 : decode cX1_shorten 22 = .ok (.return_, 1) := by decide +kernel
theorem dX1_takeOut_0 : decode cX1_takeOut 0 = .ok (.aload_n 0, 1) := by decide +kernel
theorem dX1_takeOut_1 : decode cX1_takeOut 1 = .ok (.iload_n 1, 1) := by decide +kernel
theorem dX1_takeOut_2 : decode cX1_takeOut 2 = .ok (.invokevirtual 26, 3) := by decide +kernel
theorem dX1_takeOut_5 : decode cX1_takeOut 5 = .ok (.ifCond .ne 4, 3) := by decide +kernel
theorem dX1_takeOut_9 : decode cX1_takeOut 9 = .ok (.iload_n 1, 1) := by decide +kernel
theorem dX1_takeOut_10 : decode cX1_takeOut 10 = .ok (.iconst 1, 1) := by decide +kernel
theorem dX1_takeOut_11 : decode cX1_takeOut 11 = .ok (.iadd, 1) := by decide +kernel
theorem dX1_takeOut_12 : decode cX1_takeOut 12 = .ok (.istore_n 2, 1) := by decide +kernel
theorem dX1_takeOut_13 : decode cX1_takeOut 13 = .ok (.iload_n 2, 1) := by decide +kernel
theorem dX1_takeOut_14 : decode cX1_takeOut 14 = .ok (.aload_n 0, 1) := by decide +kernel
theorem dX1_takeOut_15 : decode cX1_takeOut 15 = .ok (.getfield 22, 3) := by decide +kernel
theorem dX1_takeOut_18 : decode cX1_takeOut 18 = .ok (.if_icmp .ge 32, 3) := by decide +kernel
theorem dX1_takeOut_21 : decode cX1_takeOut 21 = .ok (.iload_n 2, 1) := by decide +kernel
theorem dX1_takeOut_22 : decode cX1_takeOut 22 = .ok (.aload_n 0, 1) := by decide +kernel
theorem dX1_takeOut_23 : decode cX1_takeOut 23 = .ok (.getfield 9, 3) := by decide +kernel
theorem dX1_takeOut_26 : decode cX1_takeOut 26 = .ok (.arraylength, 1) := by decide +kernel
theorem dX1_takeOut_27 : decode cX1_takeOut 27 = .ok (.if_icmp .ge 23, 3) := by decide +kernel
theorem dX1_takeOut_30 : decode cX1_takeOut 30 = .ok (.aload_n 0, 1) := by decide +kernel
theorem dX1_takeOut_31 : decode cX1_takeOut 31 = .ok (.getfield 9, 3) := by decide +kernel
theorem dX1_takeOut_34 : decode cX1_takeOut 34 = .ok (.iload_n 2, 1) := by decide +kernel
theorem dX1_takeOut_35 : decode cX1_takeOut 35 = .ok (.iconst 1, 1) := by decide +kernel
theorem dX1_takeOut_36 : decode cX1_takeOut 36 = .ok (.isub, 1) := by decide +kernel
theorem dX1_takeOut_37 : decode cX1_takeOut 37 = .ok (.aload_n 0, 1) := by decide +kernel
theorem dX1_takeOut_38 : decode cX1_takeOut 38 = .ok (.getfield 9, 3) := by decide +kernel
theorem dX1_takeOut_41 : decode cX1_takeOut 41 = .ok (.iload_n 2, 1) := by decide +kernel
theorem dX1_takeOut_42 : decode cX1_takeOut 42 = .ok (.iaload, 1) := by decide +kernel
theorem dX1_takeOut_43 : decode cX1_takeOut 43 = .ok (.iastore, 1) := by decide +kernel
theorem dX1_takeOut_44 : decode cX1_takeOut 44 = .ok (.iinc 2 1, 3) := by decide +kernel
theorem dX1_takeOut_47 : decode cX1_takeOut 47 = .ok (.goto (-34), 3) := by decide +kernel
theorem dX1_takeOut_50 : decode cX1_takeOut 50 = .ok (.aload_n 0, 1) := by decide +kernel
theorem dX1_takeOut_51 : decode cX1_takeOut 51 = .ok (.dup, 1) := by decide +kernel
theorem dX1_takeOut_52 : decode cX1_takeOut 52 = .ok (.getfield 22, 3) := by decide +kernel
theorem dX1_takeOut_55 : decode cX1_takeOut 55 = .ok (.iconst 1, 1) := by decide +kernel
theorem dX1_takeOut_56 : decode cX1_takeOut 56 = .ok (.isub, 1) := by decide +kernel
theorem dX1_takeOut_57 : decode cX1_takeOut 57 = .ok (.putfield 22, 3) := by decide +kernel
theorem dX1_takeOut_60 : decode cX1_takeOut 60 = .ok (.return_, 1) := by decide +kernel
theorem dX1_become_0 : decode cX1_become 0 = .ok (.aload_n 0, 1) := by decide +kernel
theorem dX1_become_1 : decode cX1_become 1 = .ok (.getfield 9, 3) := by decide +kernel
theorem dX1_become_4 : decode cX1_become 4 = .ok (.aload_n 1, 1) := by decide +kernel
theorem dX1_become_5 : decode cX1_become 5 = .ok (.getfield 9, 3) := by decide +kernel
theorem dX1_become_8 : decode cX1_become 8 = .ok (.invokestatic 30, 3) := by decide +kernel
theorem dX1_become_11 : decode cX1_become 11 = .ok (.aload_n 0, 1) := by decide +kernel
theorem dX1_become_12 : decode cX1_become 12 = .ok (.aload_n 1, 1) := by decide +kernel
theorem dX1_become_13 : decode cX1_become 13 = .ok (.getfield 22, 3) := by decide +kernel
theorem dX1_become_16 : decode cX1_become 16 = .ok (.putfield 22, 3) := by decide +kernel
theorem dX1_become_19 : decode cX1_become 19 = .ok (.return_, 1) := by decide +kernel
theorem dX2_init_0 : decode cX2_init 0 = .ok (.aload_n 0, 1) := by decide +kernel
theorem dX2_init_1 : decode cX2_init 1 = .ok (.aload_n 1, 1) := by decide +kernel
theorem dX2_init_2 : decode cX2_init 2 = .ok (.getfield 3, 3) := by decide +kernel
theorem dX2_init_5 : decode cX2_init 5 = .ok (.invokespecial 9, 3) := by decide +kernel
theorem dX2_init_8 : decode cX2_init 8 = .ok (.aload_n 0, 1) := by decide +kernel
theorem dX2_init_9 : decode cX2_init 9 = .ok (.aload_n 1, 1) := by decide +kernel
theorem dX2_init_10 : decode cX2_init 10 = .ok (.putfield 15, 3) := by decide +kernel
theorem dX2_init_13 : decode cX2_init 13 = .ok (.return_, 1) := by decide +kernel
theorem dX2_isMore_0 : decode cX2_isMore 0 = .ok (.aload_n 0, 1) := by decide +kernel
theorem dX2_isMore_1 : decode cX2_isMore 1 = .ok (.getfield 21, 3) := by decide +kernel
theorem dX2_isMore_4 : decode cX2_isMore 4 = .ok (.aload_n 0, 1) := by decide +kernel
theorem dX2_isMore_5 : decode cX2_isMore 5 = .ok (.getfield 15, 3) := by decide +kernel
theorem dX2_isMore_8 : decode cX2_isMore 8 = .ok (.getfield 25, 3) := by decide +kernel
theorem dX2_isMore_11 : decode cX2_isMore 11 = .ok (.if_icmp .ge 7, 3) := by decide +kernel
theorem dX2_isMore_14 : decode cX2_isMore 14 = .ok (.iconst 1, 1) := by decide +kernel
theorem dX2_isMore_15 : decode cX2_isMore 15 = .ok (.goto 4, 3) := by decide +kernel
theorem dX2_isMore_18 : decode cX2_isMore 18 = .ok (.iconst 0, 1) := by decide +kernel
theorem dX2_isMore_19 : decode cX2_isMore 19 = .ok (.ireturn, 1) := by decide +kernel
theorem dX2_next_0 : decode cX2_next 0 = .ok (.aload_n 0, 1) := by decide +kernel
theorem dX2_next_1 : decode cX2_next 1 = .ok (.aload_n 0, 1) := by decide +kernel
theorem dX2_next_2 : decode cX2_next 2 = .ok (.getfield 15, 3) := by decide +kernel
theorem dX2_next_5 : decode cX2_next 5 = .ok (.aload_n 0, 1) := by decide +kernel
theorem dX2_next_6 : decode cX2_next 6 = .ok (.getfield 21, 3) := by decide +kernel
theorem dX2_next_9 : decode cX2_next 9 = .ok (.invokevirtual 28, 3) := by decide +kernel
theorem dX2_next_12 : decode cX2_next 12 = .ok (.putfield 32, 3) := by decide +kernel
theorem dX2_next_15 : decode cX2_next 15 = .ok (.aload_n 0, 1) := by decide +kernel
theorem dX2_next_16 : decode cX2_next 16 = .ok (.dup, 1) := by decide +kernel
theorem dX2_next_17 : decode cX2_next 17 = .ok (.getfield 21, 3) := by decide +kernel
theorem dX2_next_20 : decode cX2_next 20 = .ok (.iconst 1, 1) := by decide +kernel
theorem dX2_next_21 : decode cX2_next 21 = .ok (.iadd, 1) := by decide +kernel
theorem dX2_next_22 : decode cX2_next 22 = .ok (.putfield 21, 3) := by decide +kernel
theorem dX2_next_25 : decode cX2_next 25 = .ok (.aload_n 0, 1) := by decide +kernel
theorem dX2_next_26 : decode cX2_next 26 = .ok (.getfield 32, 3) := by decide +kernel
theorem dX2_next_29 : decode cX2_next 29 = .ok (.ireturn, 1) := by decide +kernel
theorem dX2_putInPlace_0 : decode cX2_putInPlace 0 = .ok (.aload_n 0, 1) := by decide +kernel
theorem dX2_putInPlace_1 : decode cX2_putInPlace 1 = .ok (.getfield 15, 3) := by decide +kernel
theorem dX2_putInPlace_4 : decode cX2_putInPlace 4 = .ok (.getfield 35, 3) := by decide +kernel
theorem dX2_putInPlace_7 : decode cX2_putInPlace 7 = .ok (.ifCond .eq 5, 3) := by decide +kernel
theorem dX2_putInPlace_10 : decode cX2_putInPlace 10 = .ok (.iconst 0, 1) := by decide +kernel
theorem dX2_putInPlace_11 : decode cX2_putInPlace 11 = .ok (.ireturn, 1) := by decide +kernel
theorem dX2_putInPlace_12 : decode cX2_putInPlace 12 = .ok (.aload_n 0, 1) := by decide +kernel
theorem dX2_putInPlace_13 : decode cX2_putInPlace 13 = .ok (.getfield 39, 3) := by decide +kernel
theorem dX2_putInPlace_16 : decode cX2_putInPlace 16 = .ok (.iconst 3, 1) := by decide +kernel
theorem dX2_putInPlace_17 : decode cX2_putInPlace 17 = .ok (.invokevirtual 40, 3) := by decide +kernel
theorem dX2_putInPlace_20 : decode cX2_putInPlace 20 = .ok (.aload_n 0, 1) := by decide +kernel
theorem dX2_putInPlace_21 : decode cX2_putInPlace 21 = .ok (.getfield 15, 3) := by decide +kernel
theorem dX2_putInPlace_24 : decode cX2_putInPlace 24 = .ok (.aload_n 0, 1) := by decide +kernel
theorem dX2_putInPlace_25 : decode cX2_putInPlace 25 = .ok (.getfield 21, 3) := by decide +kernel
theorem dX2_putInPlace_28 : decode cX2_putInPlace 28 = .ok (.iconst 1, 1) := by decide +kernel
theorem dX2_putInPlace_29 : decode cX2_putInPlace 29 = .ok (.isub, 1) := by decide +kernel
theorem dX2_putInPlace_30 : decode cX2_putInPlace 30 = .ok (.iload_n 1, 1) := by decide +kernel
theorem dX2_putInPlace_31 : decode cX2_putInPlace 31 = .ok (.invokevirtual 46, 3) := by decide +kernel
theorem dX2_putInPlace_34 : decode cX2_putInPlace 34 = .ok (.iconst 1, 1) := by decide +kernel
theorem dX2_putInPlace_35 : decode cX2_putInPlace 35 = .ok (.ireturn, 1) := by decide +kernel
theorem dX2_takeAway_0 : decode cX2_takeAway 0 = .ok (.aload_n 0, 1) := by decide +kernel
theorem dX2_takeAway_1 : decode cX2_takeAway 1 = .ok (.getfield 15, 3) := by decide +kernel
theorem dX2_takeAway_4 : decode cX2_takeAway 4 = .ok (.getfield 35, 3) := by decide +kernel
theorem dX2_takeAway_7 : decode cX2_takeAway 7 = .ok (.ifCond .eq 5, 3) := by decide +kernel
theorem dX2_takeAway_10 : decode cX2_takeAway 10 = .ok (.iconst 0, 1) := by decide +kernel
theorem dX2_takeAway_11 : decode cX2_takeAway 11 = .ok (.ireturn, 1) := by decide +kernel
theorem dX2_takeAway_12 : decode cX2_takeAway 12 = .ok (.aload_n 0, 1) := by decide +kernel
theorem dX2_takeAway_13 : decode cX2_takeAway 13 = .ok (.getfield 39, 3) := by decide +kernel
theorem dX2_takeAway_16 : decode cX2_takeAway 16 = .ok (.iconst 4, 1) := by decide +kernel
theorem dX2_takeAway_17 : decode cX2_takeAway 17 = .ok (.invokevirtual 40, 3) := by decide +kernel
theorem dX2_takeAway_20 : decode cX2_takeAway 20 = .ok (.aload_n 0, 1) := by decide +kernel
theorem dX2_takeAway_21 : decode cX2_takeAway 21 = .ok (.dup, 1) := by decide +kernel
theorem dX2_takeAway_22 : decode cX2_takeAway 22 = .ok (.getfield 21, 3) := by decide +kernel
theorem dX2_takeAway_25 : decode cX2_takeAway 25 = .ok (.iconst 1, 1) := by decide +kernel
theorem dX2_takeAway_26 : decode cX2_takeAway 26 = .ok (.isub, 1) := by decide +kernel
theorem dX2_takeAway_27 : decode cX2_takeAway 27 = .ok (.putfield 21, 3) := by decide +kernel
theorem dX2_takeAway_30 : decode cX2_takeAway 30 = .ok (.aload_n 0, 1) := by decide +kernel
theorem dX2_takeAway_31 : decode cX2_takeAway 31 = .ok (.getfield 15, 3) := by decide +kernel
theorem dX2_takeAway_34 : decode cX2_takeAway 34 = .ok (.aload_n 0, 1) := by decide +kernel
theorem dX2_takeAway_35 : decode cX2_takeAway 35 = .ok (.getfield 21, 3) := by decide +kernel
theorem dX2_takeAway_38 : decode cX2_takeAway 38 = .ok (.invokevirtual 50, 3) := by decide +kernel
theorem dX2_takeAway_41 : decode cX2_takeAway 41 = .ok (.iconst 1, 1) := by decide +kernel
theorem dX2_takeAway_42 : decode cX2_takeAway 42 = .ok (.ireturn, 1) := by decide +kernel
theorem dX3_init_0 : decode cX3_init 0 = .ok (.aload_n 0, 1) := by decide +kernel
theorem dX3_init_1 : decode cX3_init 1 = .ok (.new 1, 3) := by decide +kernel
theorem dX3_init_4 : decode cX3_init 4 = .ok (.dup, 1) := by decide +kernel
theorem dX3_init_5 : decode cX3_init 5 = .ok (.invokespecial 3, 3) := by decide +kernel
theorem dX3_init_8 : decode cX3_init 8 = .ok (.invokespecial 7, 3) := by decide +kernel
theorem dX3_init_11 : decode cX3_init 11 = .ok (.aload_n 0, 1) := by decide +kernel
theorem dX3_init_12 : decode cX3_init 12 = .ok (.iload_n 1, 1) := by decide +kernel
theorem dX3_init_13 : decode cX3_init 13 = .ok (.putfield 12, 3) := by decide +kernel
theorem dX3_init_16 : decode cX3_init 16 = .ok (.aload_n 0, 1) := by decide +kernel
theorem dX3_init_17 : decode cX3_init 17 = .ok (.iload_n 2, 1) := by decide +kernel
theorem dX3_init_18 : decode cX3_init 18 = .ok (.putfield 18, 3) := by decide +kernel
theorem dX3_init_21 : decode cX3_init 21 = .ok (.aload_n 0, 1) := by decide +kernel
theorem dX3_init_22 : decode cX3_init 22 = .ok (.iload_n 3, 1) := by decide +kernel
theorem dX3_init_23 : decode cX3_init 23 = .ok (.putfield 21, 3) := by decide +kernel
theorem dX3_init_26 : decode cX3_init 26 = .ok (.return_, 1) := by decide +kernel
theorem dX3_isMore_0 : decode cX3_isMore 0 = .ok (.aload_n 0, 1) := by decide +kernel
theorem dX3_isMore_1 : decode cX3_isMore 1 = .ok (.getfield 12, 3) := by decide +kernel
theorem dX3_isMore_4 : decode cX3_isMore 4 = .ok (.aload_n 0, 1) := by decide +kernel
theorem dX3_isMore_5 : decode cX3_isMore 5 = .ok (.getfield 18, 3) := by decide +kernel
theorem dX3_isMore_8 : decode cX3_isMore 8 = .ok (.if_icmp .gt 7, 3) := by decide +kernel
theorem dX3_isMore_11 : decode cX3_isMore 11 = .ok (.iconst 1, 1) := by decide +kernel
theorem dX3_isMore_12 : decode cX3_isMore 12 = .ok (.goto 4, 3) := by decide +kernel
theorem dX3_isMore_15 : decode cX3_isMore 15 = .ok (.iconst 0, 1) := by decide +kernel
theorem dX3_isMore_16 : decode cX3_isMore 16 = .ok (.ireturn, 1) := by decide +kernel
theorem dX3_next_0 : decode cX3_next 0 = .ok (.aload_n 0, 1) := by decide +kernel
theorem dX3_next_1 : decode cX3_next 1 = .ok (.aload_n 0, 1) := by decide +kernel
theorem dX3_next_2 : decode cX3_next 2 = .ok (.getfield 12, 3) := by decide +kernel
theorem dX3_next_5 : decode cX3_next 5 = .ok (.putfield 24, 3) := by decide +kernel
theorem dX3_next_8 : decode cX3_next 8 = .ok (.aload_n 0, 1) := by decide +kernel
theorem dX3_next_9 : decode cX3_next 9 = .ok (.dup, 1) := by decide +kernel
theorem dX3_next_10 : decode cX3_next 10 = .ok (.getfield 12, 3) := by decide +kernel
theorem dX3_next_13 : decode cX3_next 13 = .ok (.aload_n 0, 1) := by decide +kernel
theorem dX3_next_14 : decode cX3_next 14 = .ok (.getfield 21, 3) := by decide +kernel
theorem dX3_next_17 : decode cX3_next 17 = .ok (.iadd, 1) := by decide +kernel
theorem dX3_next_18 : decode cX3_next 18 = .ok (.putfield 12, 3) := by decide +kernel
theorem dX3_next_21 : decode cX3_next 21 = .ok (.aload_n 0, 1) := by decide +kernel
theorem dX3_next_22 : decode cX3_next 22 = .ok (.getfield 24, 3) := by decide +kernel
theorem dX3_next_25 : decode cX3_next 25 = .ok (.ireturn, 1) := by decide +kernel
theorem dX4_init_0 : decode cX4_init 0 = .ok (.aload_n 0, 1) := by decide +kernel
theorem dX4_init_1 : decode cX4_init 1 = .ok (.invokespecial 3, 3) := by decide +kernel
theorem dX4_init_4 : decode cX4_init 4 = .ok (.aload_n 0, 1) := by decide +kernel
theorem dX4_init_5 : decode cX4_init 5 = .ok (.bipush 20, 2) := by decide +kernel
theorem dX4_init_7 : decode cX4_init 7 = .ok (.newarray .int, 2) := by decide +kernel
theorem dX4_init_9 : decode cX4_init 9 = .ok (.putfield 9, 3) := by decide +kernel
theorem dX4_init_12 : decode cX4_init 12 = .ok (.aload_n 0, 1) := by decide +kernel
theorem dX4_init_13 : decode cX4_init 13 = .ok (.bipush 20, 2) := by decide +kernel
theorem dX4_init_15 : decode cX4_init 15 = .ok (.newarray .int, 2) := by decide +kernel
theorem dX4_init_17 : decode cX4_init 17 = .ok (.putfield 15, 3) := by decide +kernel
theorem dX4_init_20 : decode cX4_init 20 = .ok (.aload_n 0, 1) := by decide +kernel
theorem dX4_init_21 : decode cX4_init 21 = .ok (.new 18, 3) := by decide +kernel
theorem dX4_init_24 : decode cX4_init 24 = .ok (.dup, 1) := by decide +kernel
theorem dX4_init_25 : decode cX4_init 25 = .ok (.invokespecial 20, 3) := by decide +kernel
theorem dX4_init_28 : decode cX4_init 28 = .ok (.putfield 21, 3) := by decide +kernel
theorem dX4_init_31 : decode cX4_init 31 = .ok (.aload_n 0, 1) := by decide +kernel
theorem dX4_init_32 : decode cX4_init 32 = .ok (.iload_n 1, 1) := by decide +kernel
theorem dX4_init_33 : decode cX4_init 33 = .ok (.putfield 25, 3) := by decide +kernel
theorem dX4_init_36 : decode cX4_init 36 = .ok (.iconst 0, 1) := by decide +kernel
theorem dX4_init_37 : decode cX4_init 37 = .ok (.istore_n 2, 1) := by decide +kernel
theorem dX4_init_38 : decode cX4_init 38 = .ok (.iload_n 2, 1) := by decide +kernel
theorem dX4_init_39 : decode cX4_init 39 = .ok (.aload_n 0, 1) := by decide +kernel
theorem dX4_init_40 : decode cX4_init 40 = .ok (.getfield 9, 3) := by decide +kernel
theorem dX4_init_43 : decode cX4_init 43 = .ok (.arraylength, 1) := by decide +kernel
theorem dX4_init_44 : decode cX4_init 44 = .ok (.if_icmp .ge 18, 3) := by decide +kernel
theorem dX4_init_47 : decode cX4_init 47 = .ok (.aload_n 0, 1) := by decide +kernel
theorem dX4_init_48 : decode cX4_init 48 = .ok (.getfield 9, 3) := by decide +kernel
theorem dX4_init_51 : decode cX4_init 51 = .ok (.iload_n 2, 1) := by decide +kernel
theorem dX4_init_52 : decode cX4_init 52 = .ok (.sipush (-1000), 3) := by decide +kernel
theorem dX4_init_55 : decode cX4_init 55 = .ok (.iastore, 1) := by decide +kernel
theorem dX4_init_56 : decode cX4_init 56 = .ok (.iinc 2 1, 3) := by decide +kernel
theorem dX4_init_59 : decode cX4_init 59 = .ok (.goto (-21), 3) := by decide +kernel
theorem dX4_init_62 : decode cX4_init 62 = .ok (.return_, 1) := by decide +kernel
theorem dX4_look_0 : decode cX4_look 0 = .ok (.iload_n 1, 1) := by decide +kernel
theorem dX4_look_1 : decode cX4_look 1 = .ok (.ifCond .lt 21, 3) := by decide +kernel
theorem dX4_look_4 : decode cX4_look 4 = .ok (.iload_n 1, 1) := by decide +kernel
theorem dX4_look_5 : decode cX4_look 5 = .ok (.aload_n 0, 1) := by decide +kernel
theorem dX4_look_6 : decode cX4_look 6 = .ok (.getfield 9, 3) := by decide +kernel
theorem dX4_look_9 : decode cX4_look 9 = .ok (.arraylength, 1) := by decide +kernel
theorem dX4_look_10 : decode cX4_look 10 = .ok (.if_icmp .ge 12, 3) := by decide +kernel
theorem dX4_look_13 : decode cX4_look 13 = .ok (.aload_n 0, 1) := by decide +kernel
theorem dX4_look_14 : decode cX4_look 14 = .ok (.getfield 9, 3) := by decide +kernel
theorem dX4_look_17 : decode cX4_look 17 = .ok (.iload_n 1, 1) := by decide +kernel
theorem dX4_look_18 : decode cX4_look 18 = .ok (.iaload, 1) := by decide +kernel
theorem dX4_look_19 : decode cX4_look 19 = .ok (.goto 6, 3) := by decide +kernel
theorem dX4_look_22 : decode cX4_look 22 = .ok (.sipush (-1000), 3) := by decide +kernel
theorem dX4_look_25 : decode cX4_look 25 = .ok (.ireturn, 1) := by decide +kernel
theorem dX4_keyAt_0 : decode cX4_keyAt 0 = .ok (.iload_n 1, 1) := by decide +kernel
theorem dX4_keyAt_1 : decode cX4_keyAt 1 = .ok (.ifCond .lt 29, 3) := by decide +kernel
theorem dX4_keyAt_4 : decode cX4_keyAt 4 = .ok (.iload_n 1, 1) := by decide +kernel
theorem dX4_keyAt_5 : decode cX4_keyAt 5 = .ok (.aload_n 0, 1) := by decide +kernel
theorem dX4_keyAt_6 : decode cX4_keyAt 6 = .ok (.getfield 29, 3) := by decide +kernel
theorem dX4_keyAt_9 : decode cX4_keyAt 9 = .ok (.if_icmp .ge 21, 3) := by decide +kernel
theorem dX4_keyAt_12 : decode cX4_keyAt 12 = .ok (.iload_n 1, 1) := by decide +kernel
theorem dX4_keyAt_13 : decode cX4_keyAt 13 = .ok (.aload_n 0, 1) := by decide +kernel
theorem dX4_keyAt_14 : decode cX4_keyAt 14 = .ok (.getfield 15, 3) := by decide +kernel
theorem dX4_keyAt_17 : decode cX4_keyAt 17 = .ok (.arraylength, 1) := by decide +kernel
theorem dX4_keyAt_18 : decode cX4_keyAt 18 = .ok (.if_icmp .ge 12, 3) := by decide +kernel
theorem dX4_keyAt_21 : decode cX4_keyAt 21 = .ok (.aload_n 0, 1) := by decide +kernel
theorem dX4_keyAt_22 : decode cX4_keyAt 22 = .ok (.getfield 15, 3) := by decide +kernel
theorem dX4_keyAt_25 : decode cX4_keyAt 25 = .ok (.iload_n 1, 1) := by decide +kernel
theorem dX4_keyAt_26 : decode cX4_keyAt 26 = .ok (.iaload, 1) := by decide +kernel
theorem dX4_keyAt_27 : decode cX4_keyAt 27 = .ok (.goto 4, 3) := by decide +kernel
theorem dX4_keyAt_30 : decode cX4_keyAt 30 = .ok (.iconst 0, 1) := by decide +kernel
theorem dX4_keyAt_31 : decode cX4_keyAt 31 = .ok (.ireturn, 1) := by decide +kernel
theorem dX4_store_0 : decode cX4_store 0 = .ok (.aload_n 0, 1) := by decide +kernel
theorem dX4_store_1 : decode cX4_store 1 = .ok (.getfield 21, 3) := by decide +kernel
theorem dX4_store_4 : decode cX4_store 4 = .ok (.iconst 5, 1) := by decide +kernel
theorem dX4_store_5 : decode cX4_store 5 = .ok (.invokevirtual 33, 3) := by decide +kernel
theorem dX4_store_8 : decode cX4_store 8 = .ok (.aload_n 0, 1) := by decide +kernel
theorem dX4_store_9 : decode cX4_store 9 = .ok (.iload_n 1, 1) := by decide +kernel
theorem dX4_store_10 : decode cX4_store 10 = .ok (.invokevirtual 37, 3) := by decide +kernel
theorem dX4_store_13 : decode cX4_store 13 = .ok (.istore_n 3, 1) := by decide +kernel
theorem dX4_store_14 : decode cX4_store 14 = .ok (.iload_n 3, 1) := by decide +kernel
theorem dX4_store_15 : decode cX4_store 15 = .ok (.sipush (-1000), 3) := by decide +kernel
theorem dX4_store_18 : decode cX4_store 18 = .ok (.if_icmp .ne 8, 3) := by decide +kernel
theorem dX4_store_21 : decode cX4_store 21 = .ok (.aload_n 0, 1) := by decide +kernel
theorem dX4_store_22 : decode cX4_store 22 = .ok (.iload_n 1, 1) := by decide +kernel
theorem dX4_store_23 : decode cX4_store 23 = .ok (.invokevirtual 41, 3) := by decide +kernel
theorem dX4_store_26 : decode cX4_store 26 = .ok (.aload_n 0, 1) := by decide +kernel
theorem dX4_store_27 : decode cX4_store 27 = .ok (.iload_n 1, 1) := by decide +kernel
theorem dX4_store_28 : decode cX4_store 28 = .ok (.iload_n 2, 1) := by decide +kernel
theorem dX4_store_29 : decode cX4_store 29 = .ok (.invokevirtual 44, 3) := by decide +kernel
theorem dX4_store_32 : decode cX4_store 32 = .ok (.iload_n 3, 1) := by decide +kernel
theorem dX4_store_33 : decode cX4_store 33 = .ok (.ireturn, 1) := by decide +kernel
theorem dX4_setValue_0 : decode cX4_setValue 0 = .ok (.iload_n 1, 1) := by decide +kernel
theorem dX4_setValue_1 : decode cX4_setValue 1 = .ok (.ifCond .lt 19, 3) := by decide +kernel
theorem dX4_setValue_4 : decode cX4_setValue 4 = .ok (.iload_n 1, 1) := by decide +kernel
theorem dX4_setValue_5 : decode cX4_setValue 5 = .ok (.aload_n 0, 1) := by decide +kernel
theorem dX4_setValue_6 : decode cX4_setValue 6 = .ok (.getfield 9, 3) := by decide +kernel
theorem dX4_setValue_9 : decode cX4_setValue 9 = .ok (.arraylength, 1) := by decide +kernel
theorem dX4_setValue_10 : decode cX4_setValue 10 = .ok (.if_icmp .ge 10, 3) := by decide +kernel
theorem dX4_setValue_13 : decode cX4_setValue 13 = .ok (.aload_n 0, 1) := by decide +kernel
theorem dX4_setValue_14 : decode cX4_setValue 14 = .ok (.getfield 9, 3) := by decide +kernel
theorem dX4_setValue_17 : decode cX4_setValue 17 = .ok (.iload_n 1, 1) := by decide +kernel
theorem dX4_setValue_18 : decode cX4_setValue 18 = .ok (.iload_n 2, 1) := by decide +kernel
theorem dX4_setValue_19 : decode cX4_setValue 19 = .ok (.iastore, 1) := by decide +kernel
theorem dX4_setValue_20 : decode cX4_setValue 20 = .ok (.return_, 1) := by decide +kernel
theorem dX4_sendAway_0 : decode cX4_sendAway 0 = .ok (.aload_n 0, 1) := by decide +kernel
theorem dX4_sendAway_1 : decode cX4_sendAway 1 = .ok (.getfield 21, 3) := by decide +kernel
theorem dX4_sendAway_4 : decode cX4_sendAway 4 = .ok (.bipush 6, 2) := by decide +kernel
theorem dX4_sendAway_6 : decode cX4_sendAway 6 = .ok (.invokevirtual 33, 3) := by decide +kernel
theorem dX4_sendAway_9 : decode cX4_sendAway 9 = .ok (.aload_n 0, 1) := by decide +kernel
theorem dX4_sendAway_10 : decode cX4_sendAway 10 = .ok (.iload_n 1, 1) := by decide +kernel
theorem dX4_sendAway_11 : decode cX4_sendAway 11 = .ok (.invokevirtual 37, 3) := by decide +kernel
theorem dX4_sendAway_14 : decode cX4_sendAway 14 = .ok (.istore_n 2, 1) := by decide +kernel
theorem dX4_sendAway_15 : decode cX4_sendAway 15 = .ok (.iload_n 2, 1) := by decide +kernel
theorem dX4_sendAway_16 : decode cX4_sendAway 16 = .ok (.sipush (-1000), 3) := by decide +kernel
theorem dX4_sendAway_19 : decode cX4_sendAway 19 = .ok (.if_icmp .eq 16, 3) := by decide +kernel
theorem dX4_sendAway_22 : decode cX4_sendAway 22 = .ok (.aload_n 0, 1) := by decide +kernel
theorem dX4_sendAway_23 : decode cX4_sendAway 23 = .ok (.iload_n 1, 1) := by decide +kernel
theorem dX4_sendAway_24 : decode cX4_sendAway 24 = .ok (.invokevirtual 48, 3) := by decide +kernel
theorem dX4_sendAway_27 : decode cX4_sendAway 27 = .ok (.aload_n 0, 1) := by decide +kernel
theorem dX4_sendAway_28 : decode cX4_sendAway 28 = .ok (.iload_n 1, 1) := by decide +kernel
theorem dX4_sendAway_29 : decode cX4_sendAway 29 = .ok (.sipush (-1000), 3) := by decide +kernel
theorem dX4_sendAway_32 : decode cX4_sendAway 32 = .ok (.invokevirtual 44, 3) := by decide +kernel
theorem dX4_sendAway_35 : decode cX4_sendAway 35 = .ok (.iload_n 2, 1) := by decide +kernel
theorem dX4_sendAway_36 : decode cX4_sendAway 36 = .ok (.ireturn, 1) := by decide +kernel
theorem dX4_addKey_0 : decode cX4_addKey 0 = .ok (.aload_n 0, 1) := by decide +kernel
theorem dX4_addKey_1 : decode cX4_addKey 1 = .ok (.getfield 29, 3) := by decide +kernel
theorem dX4_addKey_4 : decode cX4_addKey 4 = .ok (.ifCond .lt 15, 3) := by decide +kernel
theorem dX4_addKey_7 : decode cX4_addKey 7 = .ok (.aload_n 0, 1) := by decide +kernel
theorem dX4_addKey_8 : decode cX4_addKey 8 = .ok (.getfield 29, 3) := by decide +kernel
theorem dX4_addKey_11 : decode cX4_addKey 11 = .ok (.aload_n 0, 1) := by decide +kernel
theorem dX4_addKey_12 : decode cX4_addKey 12 = .ok (.getfield 15, 3) := by decide +kernel
theorem dX4_addKey_15 : decode cX4_addKey 15 = .ok (.arraylength, 1) := by decide +kernel
theorem dX4_addKey_16 : decode cX4_addKey 16 = .ok (.if_icmp .lt 4, 3) := by decide +kernel
theorem dX4_addKey_20 : decode cX4_addKey 20 = .ok (.aload_n 0, 1) := by decide +kernel
theorem dX4_addKey_21 : decode cX4_addKey 21 = .ok (.getfield 29, 3) := by decide +kernel
theorem dX4_addKey_24 : decode cX4_addKey 24 = .ok (.istore_n 2, 1) := by decide +kernel
theorem dX4_addKey_25 : decode cX4_addKey 25 = .ok (.aload_n 0, 1) := by decide +kernel
theorem dX4_addKey_26 : decode cX4_addKey 26 = .ok (.getfield 25, 3) := by decide +kernel
theorem dX4_addKey_29 : decode cX4_addKey 29 = .ok (.ifCond .eq 39, 3) := by decide +kernel
theorem dX4_addKey_32 : decode cX4_addKey 32 = .ok (.iload_n 2, 1) := by decide +kernel
theorem dX4_addKey_33 : decode cX4_addKey 33 = .ok (.ifCond .le 35, 3) := by decide +kernel
theorem dX4_addKey_36 : decode cX4_addKey 36 = .ok (.aload_n 0, 1) := by decide +kernel
theorem dX4_addKey_37 : decode cX4_addKey 37 = .ok (.getfield 15, 3) := by decide +kernel
theorem dX4_addKey_40 : decode cX4_addKey 40 = .ok (.iload_n 2, 1) := by decide +kernel
theorem dX4_addKey_41 : decode cX4_addKey 41 = .ok (.iconst 1, 1) := by decide +kernel
theorem dX4_addKey_42 : decode cX4_addKey 42 = .ok (.isub, 1) := by decide +kernel
theorem dX4_addKey_43 : decode cX4_addKey 43 = .ok (.iaload, 1) := by decide +kernel
theorem dX4_addKey_44 : decode cX4_addKey 44 = .ok (.iload_n 1, 1) := by decide +kernel
theorem dX4_addKey_45 : decode cX4_addKey 45 = .ok (.if_icmp .le 23, 3) := by decide +kernel
theorem dX4_addKey_48 : decode cX4_addKey 48 = .ok (.aload_n 0, 1) := by decide +kernel
theorem dX4_addKey_49 : decode cX4_addKey 49 = .ok (.getfield 15, 3) := by decide +kernel
theorem dX4_addKey_52 : decode cX4_addKey 52 = .ok (.iload_n 2, 1) := by decide +kernel
theorem dX4_addKey_53 : decode cX4_addKey 53 = .ok (.aload_n 0, 1) := by decide +kernel
theorem dX4_addKey_54 : decode cX4_addKey 54 = .ok (.getfield 15, 3) := by decide +kernel
theorem dX4_addKey_57 : decode cX4_addKey 57 = .ok (.iload_n 2, 1) := by decide +kernel
theorem dX4_addKey_58 : decode cX4_addKey 58 = .ok (.iconst 1, 1) := by decide +kernel
theorem dX4_addKey_59 : decode cX4_addKey 59 = .ok (.isub, 1) := by decide +kernel
theorem dX4_addKey_60 : decode cX4_addKey 60 = .ok (.iaload, 1) := by decide +kernel
theorem dX4_addKey_61 : decode cX4_addKey 61 = .ok (.iastore, 1) := by decide +kernel
theorem dX4_addKey_62 : decode cX4_addKey 62 = .ok (.iinc 2 (-1), 3) := by decide +kernel
theorem dX4_addKey_65 : decode cX4_addKey 65 = .ok (.goto (-40), 3) := by decide +kernel
theorem dX4_addKey_68 : decode cX4_addKey 68 = .ok (.aload_n 0, 1) := by decide +kernel
theorem dX4_addKey_69 : decode cX4_addKey 69 = .ok (.getfield 15, 3) := by decide +kernel
theorem dX4_addKey_72 : decode cX4_addKey 72 = .ok (.iload_n 2, 1) := by decide +kernel
theorem dX4_addKey_73 : decode cX4_addKey 73 = .ok (.iload_n 1, 1) := by decide +kernel
theorem dX4_addKey_74 : decode cX4_addKey 74 = .ok (.iastore, 1) := by decide +kernel
theorem dX4_addKey_75 : decode cX4_addKey 75 = .ok (.aload_n 0, 1) := by decide +kernel
theorem dX4_addKey_76 : decode cX4_addKey 76 = .ok (.dup, 1) := by decide +kernel
theorem dX4_addKey_77 : decode cX4_addKey 77 = .ok (.getfield 29, 3) := by decide +kernel
theorem dX4_addKey_80 : decode cX4_addKey 80 = .ok (.iconst 1, 1) := by decide +kernel
theorem dX4_addKey_81 : decode cX4_addKey 81 = .ok (.iadd, 1) := by decide +kernel
theorem dX4_addKey_82 : decode cX4_addKey 82 = .ok (.putfield 29, 3) := by decide +kernel
theorem dX4_addKey_85 : decode cX4_addKey 85 = .ok (.return_, 1) := by decide +kernel
theorem dX4_takeKey_0 : decode cX4_takeKey 0 = .ok (.iconst 0, 1) := by decide +kernel
theorem dX4_takeKey_1 : decode cX4_takeKey 1 = .ok (.istore_n 2, 1) := by decide +kernel
theorem dX4_takeKey_2 : decode cX4_takeKey 2 = .ok (.iconst 0, 1) := by decide +kernel
theorem dX4_takeKey_3 : decode cX4_takeKey 3 = .ok (.istore_n 3, 1) := by decide +kernel
theorem dX4_takeKey_4 : decode cX4_takeKey 4 = .ok (.iload_n 3, 1) := by decide +kernel
theorem dX4_takeKey_5 : decode cX4_takeKey 5 = .ok (.aload_n 0, 1) := by decide +kernel
theorem dX4_takeKey_6 : decode cX4_takeKey 6 = .ok (.getfield 29, 3) := by decide +kernel
theorem dX4_takeKey_9 : decode cX4_takeKey 9 = .ok (.if_icmp .ge 43, 3) := by decide +kernel
theorem dX4_takeKey_12 : decode cX4_takeKey 12 = .ok (.iload_n 3, 1) := by decide +kernel
theorem dX4_takeKey_13 : decode cX4_takeKey 13 = .ok (.aload_n 0, 1) := by decide +kernel
theorem dX4_takeKey_14 : decode cX4_takeKey 14 = .ok (.getfield 15, 3) := by decide +kernel
theorem dX4_takeKey_17 : decode cX4_takeKey 17 = .ok (.arraylength, 1) := by decide +kernel
theorem dX4_takeKey_18 : decode cX4_takeKey 18 = .ok (.if_icmp .ge 34, 3) := by decide +kernel
theorem dX4_takeKey_21 : decode cX4_takeKey 21 = .ok (.aload_n 0, 1) := by decide +kernel
theorem dX4_takeKey_22 : decode cX4_takeKey 22 = .ok (.getfield 15, 3) := by decide +kernel
theorem dX4_takeKey_25 : decode cX4_takeKey 25 = .ok (.iload_n 3, 1) := by decide +kernel
theorem dX4_takeKey_26 : decode cX4_takeKey 26 = .ok (.iaload, 1) := by decide +kernel
theorem dX4_takeKey_27 : decode cX4_takeKey 27 = .ok (.iload_n 1, 1) := by decide +kernel
theorem dX4_takeKey_28 : decode cX4_takeKey 28 = .ok (.if_icmp .eq 18, 3) := by decide +kernel
theorem dX4_takeKey_31 : decode cX4_takeKey 31 = .ok (.aload_n 0, 1) := by decide +kernel
theorem dX4_takeKey_32 : decode cX4_takeKey 32 = .ok (.getfield 15, 3) := by decide +kernel
theorem dX4_takeKey_35 : decode cX4_takeKey 35 = .ok (.iload_n 2, 1) := by decide +kernel
theorem dX4_takeKey_36 : decode cX4_takeKey 36 = .ok (.aload_n 0, 1) := by decide +kernel
theorem dX4_takeKey_37 : decode cX4_takeKey 37 = .ok (.getfield 15, 3) := by decide +kernel
theorem dX4_takeKey_40 : decode cX4_takeKey 40 = .ok (.iload_n 3, 1) := by decide +kernel
theorem dX4_takeKey_41 : decode cX4_takeKey 41 = .ok (.iaload, 1) := by decide +kernel
theorem dX4_takeKey_42 : decode cX4_takeKey 42 = .ok (.iastore, 1) := by decide +kernel
theorem dX4_takeKey_43 : decode cX4_takeKey 43 = .ok (.iinc 2 1, 3) := by decide +kernel
theorem dX4_takeKey_46 : decode cX4_takeKey 46 = .ok (.iinc 3 1, 3) := by decide +kernel
theorem dX4_takeKey_49 : decode cX4_takeKey 49 = .ok (.goto (-45), 3) := by decide +kernel
theorem dX4_takeKey_52 : decode cX4_takeKey 52 = .ok (.aload_n 0, 1) := by decide +kernel
theorem dX4_takeKey_53 : decode cX4_takeKey 53 = .ok (.iload_n 2, 1) := by decide +kernel
theorem dX4_takeKey_54 : decode cX4_takeKey 54 = .ok (.putfield 29, 3) := by decide +kernel
theorem dX4_takeKey_57 : decode cX4_takeKey 57 = .ok (.return_, 1) := by decide +kernel
theorem dX4_makeEmpty_0 : decode cX4_makeEmpty 0 = .ok (.aload_n 0, 1) := by decide +kernel
theorem dX4_makeEmpty_1 : decode cX4_makeEmpty 1 = .ok (.getfield 29, 3) := by decide +kernel
theorem dX4_makeEmpty_4 : decode cX4_makeEmpty 4 = .ok (.istore_n 1, 1) := by decide +kernel
theorem dX4_makeEmpty_5 : decode cX4_makeEmpty 5 = .ok (.aload_n 0, 1) := by decide +kernel
theorem dX4_makeEmpty_6 : decode cX4_makeEmpty 6 = .ok (.iconst 0, 1) := by decide +kernel
theorem dX4_makeEmpty_7 : decode cX4_makeEmpty 7 = .ok (.putfield 29, 3) := by decide +kernel
theorem dX4_makeEmpty_10 : decode cX4_makeEmpty 10 = .ok (.iconst 0, 1) := by decide +kernel
theorem dX4_makeEmpty_11 : decode cX4_makeEmpty 11 = .ok (.istore_n 2, 1) := by decide +kernel
theorem dX4_makeEmpty_12 : decode cX4_makeEmpty 12 = .ok (.iload_n 2, 1) := by decide +kernel
theorem dX4_makeEmpty_13 : decode cX4_makeEmpty 13 = .ok (.aload_n 0, 1) := by decide +kernel
theorem dX4_makeEmpty_14 : decode cX4_makeEmpty 14 = .ok (.getfield 9, 3) := by decide +kernel
theorem dX4_makeEmpty_17 : decode cX4_makeEmpty 17 = .ok (.arraylength, 1) := by decide +kernel
theorem dX4_makeEmpty_18 : decode cX4_makeEmpty 18 = .ok (.if_icmp .ge 18, 3) := by decide +kernel
theorem dX4_makeEmpty_21 : decode cX4_makeEmpty 21 = .ok (.aload_n 0, 1) := by decide +kernel
theorem dX4_makeEmpty_22 : decode cX4_makeEmpty 22 = .ok (.getfield 9, 3) := by decide +kernel
theorem dX4_makeEmpty_25 : decode cX4_makeEmpty 25 = .ok (.iload_n 2, 1) := by decide +kernel
theorem dX4_makeEmpty_26 : decode cX4_makeEmpty 26 = .ok (.sipush (-1000), 3) := by decide +kernel
theorem dX4_makeEmpty_29 : decode cX4_makeEmpty 29 = .ok (.iastore, 1) := by decide +kernel
theorem dX4_makeEmpty_30 : decode cX4_makeEmpty 30 = .ok (.iinc 2 1, 3) := by decide +kernel
theorem dX4_makeEmpty_33 : decode cX4_makeEmpty 33 = .ok (.goto (-21), 3) := by decide +kernel
theorem dX4_makeEmpty_36 : decode cX4_makeEmpty 36 = .ok (.iload_n 1, 1) := by decide +kernel
theorem dX4_makeEmpty_37 : decode cX4_makeEmpty 37 = .ok (.ireturn, 1) := by decide +kernel
theorem dX4_become_0 : decode cX4_become 0 = .ok (.aload_n 0, 1) := by decide +kernel
theorem dX4_become_1 : decode cX4_become 1 = .ok (.getfield 9, 3) := by decide +kernel
theorem dX4_become_4 : decode cX4_become 4 = .ok (.aload_n 1, 1) := by decide +kernel
theorem dX4_become_5 : decode cX4_become 5 = .ok (.getfield 9, 3) := by decide +kernel
theorem dX4_become_8 : decode cX4_become 8 = .ok (.invokestatic 51, 3) := by decide +kernel
theorem dX4_become_11 : decode cX4_become 11 = .ok (.aload_n 0, 1) := by decide +kernel
theorem dX4_become_12 : decode cX4_become 12 = .ok (.getfield 15, 3) := by decide +kernel
theorem dX4_become_15 : decode cX4_become 15 = .ok (.aload_n 1, 1) := by decide +kernel
theorem dX4_become_16 : decode cX4_become 16 = .ok (.getfield 15, 3) := by decide +kernel
theorem dX4_become_19 : decode cX4_become 19 = .ok (.invokestatic 51, 3) := by decide +kernel
theorem dX4_become_22 : decode cX4_become 22 = .ok (.aload_n 0, 1) := by decide +kernel
theorem dX4_become_23 : decode cX4_become 23 = .ok (.aload_n 1, 1) := by decide +kernel
theorem dX4_become_24 : decode cX4_become 24 = .ok (.getfield 29, 3) := by decide +kernel
theorem dX4_become_27 : decode cX4_become 27 = .ok (.putfield 29, 3) := by decide +kernel
theorem dX4_become_30 : decode cX4_become 30 = .ok (.aload_n 0, 1) := by decide +kernel
theorem dX4_become_31 : decode cX4_become 31 = .ok (.getfield 25, 3) := by decide +kernel
theorem dX4_become_34 : decode cX4_become 34 = .ok (.ifCond .eq 7, 3) := by decide +kernel
theorem dX4_become_37 : decode cX4_become 37 = .ok (.aload_n 0, 1) := by decide +kernel
theorem dX4_become_38 : decode cX4_become 38 = .ok (.invokevirtual 55, 3) := by decide +kernel
theorem dX4_become_41 : decode cX4_become 41 = .ok (.return_, 1) := by decide +kernel
theorem dX4_sortKeys_0 : decode cX4_sortKeys 0 = .ok (.iconst 0, 1) := by decide +kernel
theorem dX4_sortKeys_1 : decode cX4_sortKeys 1 = .ok (.istore_n 1, 1) := by decide +kernel
theorem dX4_sortKeys_2 : decode cX4_sortKeys 2 = .ok (.iconst 0, 1) := by decide +kernel
theorem dX4_sortKeys_3 : decode cX4_sortKeys 3 = .ok (.istore_n 2, 1) := by decide +kernel
theorem dX4_sortKeys_4 : decode cX4_sortKeys 4 = .ok (.iload_n 2, 1) := by decide +kernel
theorem dX4_sortKeys_5 : decode cX4_sortKeys 5 = .ok (.aload_n 0, 1) := by decide +kernel
theorem dX4_sortKeys_6 : decode cX4_sortKeys 6 = .ok (.getfield 9, 3) := by decide +kernel
theorem dX4_sortKeys_9 : decode cX4_sortKeys 9 = .ok (.arraylength, 1) := by decide +kernel
theorem dX4_sortKeys_10 : decode cX4_sortKeys 10 = .ok (.if_icmp .ge 40, 3) := by decide +kernel
theorem dX4_sortKeys_13 : decode cX4_sortKeys 13 = .ok (.iload_n 1, 1) := by decide +kernel
theorem dX4_sortKeys_14 : decode cX4_sortKeys 14 = .ok (.aload_n 0, 1) := by decide +kernel
theorem dX4_sortKeys_15 : decode cX4_sortKeys 15 = .ok (.getfield 15, 3) := by decide +kernel
theorem dX4_sortKeys_18 : decode cX4_sortKeys 18 = .ok (.arraylength, 1) := by decide +kernel
theorem dX4_sortKeys_19 : decode cX4_sortKeys 19 = .ok (.if_icmp .ge 31, 3) := by decide +kernel
theorem dX4_sortKeys_22 : decode cX4_sortKeys 22 = .ok (.aload_n 0, 1) := by decide +kernel
theorem dX4_sortKeys_23 : decode cX4_sortKeys 23 = .ok (.getfield 9, 3) := by decide +kernel
theorem dX4_sortKeys_26 : decode cX4_sortKeys 26 = .ok (.iload_n 2, 1) := by decide +kernel
theorem dX4_sortKeys_27 : decode cX4_sortKeys 27 = .ok (.iaload, 1) := by decide +kernel
theorem dX4_sortKeys_28 : decode cX4_sortKeys 28 = .ok (.sipush (-1000), 3) := by decide +kernel
theorem dX4_sortKeys_31 : decode cX4_sortKeys 31 = .ok (.if_icmp .eq 13, 3) := by decide +kernel
theorem dX4_sortKeys_34 : decode cX4_sortKeys 34 = .ok (.aload_n 0, 1) := by decide +kernel
theorem dX4_sortKeys_35 : decode cX4_sortKeys 35 = .ok (.getfield 15, 3) := by decide +kernel
theorem dX4_sortKeys_38 : decode cX4_sortKeys 38 = .ok (.iload_n 1, 1) := by decide +kernel
theorem dX4_sortKeys_39 : decode cX4_sortKeys 39 = .ok (.iload_n 2, 1) := by decide +kernel
theorem dX4_sortKeys_40 : decode cX4_sortKeys 40 = .ok (.iastore, 1) := by decide +kernel
theorem dX4_sortKeys_41 : decode cX4_sortKeys 41 = .ok (.iinc 1 1, 3) := by decide +kernel
theorem dX4_sortKeys_44 : decode cX4_sortKeys 44 = .ok (.iinc 2 1, 3) := by decide +kernel
theorem dX4_sortKeys_47 : decode cX4_sortKeys 47 = .ok (.goto (-43), 3) := by decide +kernel
theorem dX4_sortKeys_50 : decode cX4_sortKeys 50 = .ok (.return_, 1) := by decide +kernel
theorem dX4_hasPairsOf_0 : decode cX4_hasPairsOf 0 = .ok (.iconst 0, 1) := by decide +kernel
theorem dX4_hasPairsOf_1 : decode cX4_hasPairsOf 1 = .ok (.istore_n 2, 1) := by decide +kernel
theorem dX4_hasPairsOf_2 : decode cX4_hasPairsOf 2 = .ok (.iload_n 2, 1) := by decide +kernel
theorem dX4_hasPairsOf_3 : decode cX4_hasPairsOf 3 = .ok (.aload_n 0, 1) := by decide +kernel
theorem dX4_hasPairsOf_4 : decode cX4_hasPairsOf 4 = .ok (.getfield 9, 3) := by decide +kernel
theorem dX4_hasPairsOf_7 : decode cX4_hasPairsOf 7 = .ok (.arraylength, 1) := by decide +kernel
theorem dX4_hasPairsOf_8 : decode cX4_hasPairsOf 8 = .ok (.if_icmp .ge 25, 3) := by decide +kernel
theorem dX4_hasPairsOf_11 : decode cX4_hasPairsOf 11 = .ok (.aload_n 0, 1) := by decide +kernel
theorem dX4_hasPairsOf_12 : decode cX4_hasPairsOf 12 = .ok (.getfield 9, 3) := by decide +kernel
theorem dX4_hasPairsOf_15 : decode cX4_hasPairsOf 15 = .ok (.iload_n 2, 1) := by decide +kernel
theorem dX4_hasPairsOf_16 : decode cX4_hasPairsOf 16 = .ok (.iaload, 1) := by decide +kernel
theorem dX4_hasPairsOf_17 : decode cX4_hasPairsOf 17 = .ok (.aload_n 1, 1) := by decide +kernel
theorem dX4_hasPairsOf_18 : decode cX4_hasPairsOf 18 = .ok (.iload_n 2, 1) := by decide +kernel
theorem dX4_hasPairsOf_19 : decode cX4_hasPairsOf 19 = .ok (.invokevirtual 37, 3) := by decide +kernel
theorem dX4_hasPairsOf_22 : decode cX4_hasPairsOf 22 = .ok (.if_icmp .eq 5, 3) := by decide +kernel
theorem dX4_hasPairsOf_25 : decode cX4_hasPairsOf 25 = .ok (.iconst 0, 1) := by decide +kernel
theorem dX4_hasPairsOf_26 : decode cX4_hasPairsOf 26 = .ok (.ireturn, 1) := by decide +kernel
theorem dX4_hasPairsOf_27 : decode cX4_hasPairsOf 27 = .ok (.iinc 2 1, 3) := by decide +kernel
theorem dX4_hasPairsOf_30 : decode cX4_hasPairsOf 30 = .ok (.goto (-28), 3) := by decide +kernel
theorem dX4_hasPairsOf_33 : decode cX4_hasPairsOf 33 = .ok (.iconst 1, 1) := by decide +kernel
theorem dX4_hasPairsOf_34 : decode cX4_hasPairsOf 34 = .ok (.ireturn, 1) := by decide +kernel
theorem dX4_reckonAbsent_0 : decode cX4_reckonAbsent 0 = .ok (.aload_n 0, 1) := by decide +kernel
theorem dX4_reckonAbsent_1 : decode cX4_reckonAbsent 1 = .ok (.iload_n 1, 1) := by decide +kernel
theorem dX4_reckonAbsent_2 : decode cX4_reckonAbsent 2 = .ok (.invokevirtual 37, 3) := by decide +kernel
theorem dX4_reckonAbsent_5 : decode cX4_reckonAbsent 5 = .ok (.istore 4, 2) := by decide +kernel
theorem dX4_reckonAbsent_7 : decode cX4_reckonAbsent 7 = .ok (.iload 4, 2) := by decide +kernel
theorem dX4_reckonAbsent_9 : decode cX4_reckonAbsent 9 = .ok (.sipush (-1000), 3) := by decide +kernel
theorem dX4_reckonAbsent_12 : decode cX4_reckonAbsent 12 = .ok (.if_icmp .eq 6, 3) := by decide +kernel
theorem dX4_reckonAbsent_15 : decode cX4_reckonAbsent 15 = .ok (.iload 4, 2) := by decide +kernel
theorem dX4_reckonAbsent_17 : decode cX4_reckonAbsent 17 = .ok (.ireturn, 1) := by decide +kernel
theorem dX4_reckonAbsent_18 : decode cX4_reckonAbsent 18 = .ok (.iload_n 2, 1) := by decide +kernel
theorem dX4_reckonAbsent_19 : decode cX4_reckonAbsent 19 = .ok (.iload_n 1, 1) := by decide +kernel
theorem dX4_reckonAbsent_20 : decode cX4_reckonAbsent 20 = .ok (.iload 4, 2) := by decide +kernel
theorem dX4_reckonAbsent_22 : decode cX4_reckonAbsent 22 = .ok (.iload_n 3, 1) := by decide +kernel
theorem dX4_reckonAbsent_23 : decode cX4_reckonAbsent 23 = .ok (.invokestatic 58, 3) := by decide +kernel
theorem dX4_reckonAbsent_26 : decode cX4_reckonAbsent 26 = .ok (.istore 5, 2) := by decide +kernel
theorem dX4_reckonAbsent_28 : decode cX4_reckonAbsent 28 = .ok (.iload 5, 2) := by decide +kernel
theorem dX4_reckonAbsent_30 : decode cX4_reckonAbsent 30 = .ok (.sipush (-1000), 3) := by decide +kernel
theorem dX4_reckonAbsent_33 : decode cX4_reckonAbsent 33 = .ok (.if_icmp .eq 19, 3) := by decide +kernel
theorem dX4_reckonAbsent_36 : decode cX4_reckonAbsent 36 = .ok (.iload 5, 2) := by decide +kernel
theorem dX4_reckonAbsent_38 : decode cX4_reckonAbsent 38 = .ok (.sipush (-1001), 3) := by decide +kernel
theorem dX4_reckonAbsent_41 : decode cX4_reckonAbsent 41 = .ok (.if_icmp .eq 11, 3) := by decide +kernel
theorem dX4_reckonAbsent_44 : decode cX4_reckonAbsent 44 = .ok (.aload_n 0, 1) := by decide +kernel
theorem dX4_reckonAbsent_45 : decode cX4_reckonAbsent 45 = .ok (.iload_n 1, 1) := by decide +kernel
theorem dX4_reckonAbsent_46 : decode cX4_reckonAbsent 46 = .ok (.iload 5, 2) := by decide +kernel
theorem dX4_reckonAbsent_48 : decode cX4_reckonAbsent 48 = .ok (.invokevirtual 62, 3) := by decide +kernel
theorem dX4_reckonAbsent_51 : decode cX4_reckonAbsent 51 = .ok (.pop, 1) := by decide +kernel
theorem dX4_reckonAbsent_52 : decode cX4_reckonAbsent 52 = .ok (.iload 5, 2) := by decide +kernel
theorem dX4_reckonAbsent_54 : decode cX4_reckonAbsent 54 = .ok (.ireturn, 1) := by decide +kernel
theorem dX4_reckonPresent_0 : decode cX4_reckonPresent 0 = .ok (.aload_n 0, 1) := by decide +kernel
theorem dX4_reckonPresent_1 : decode cX4_reckonPresent 1 = .ok (.iload_n 1, 1) := by decide +kernel
theorem dX4_reckonPresent_2 : decode cX4_reckonPresent 2 = .ok (.invokevirtual 37, 3) := by decide +kernel
theorem dX4_reckonPresent_5 : decode cX4_reckonPresent 5 = .ok (.sipush (-1000), 3) := by decide +kernel
theorem dX4_reckonPresent_8 : decode cX4_reckonPresent 8 = .ok (.if_icmp .ne 9, 3) := by decide +kernel
theorem dX4_reckonPresent_11 : decode cX4_reckonPresent 11 = .ok (.sipush (-1000), 3) := by decide +kernel
theorem dX4_reckonPresent_14 : decode cX4_reckonPresent 14 = .ok (.goto 10, 3) := by decide +kernel
theorem dX4_reckonPresent_17 : decode cX4_reckonPresent 17 = .ok (.aload_n 0, 1) := by decide +kernel
theorem dX4_reckonPresent_18 : decode cX4_reckonPresent 18 = .ok (.iload_n 1, 1) := by decide +kernel
theorem dX4_reckonPresent_19 : decode cX4_reckonPresent 19 = .ok (.iload_n 2, 1) := by decide +kernel
theorem dX4_reckonPresent_20 : decode cX4_reckonPresent 20 = .ok (.iload_n 3, 1) := by decide +kernel
theorem dX4_reckonPresent_21 : decode cX4_reckonPresent 21 = .ok (.invokevirtual 66, 3) := by decide +kernel
theorem dX4_reckonPresent_24 : decode cX4_reckonPresent 24 = .ok (.ireturn, 1) := by decide +kernel
theorem dX4_reckon_0 : decode cX4_reckon 0 = .ok (.aload_n 0, 1) := by decide +kernel
theorem dX4_reckon_1 : decode cX4_reckon 1 = .ok (.iload_n 1, 1) := by decide +kernel
theorem dX4_reckon_2 : decode cX4_reckon 2 = .ok (.invokevirtual 37, 3) := by decide +kernel
theorem dX4_reckon_5 : decode cX4_reckon 5 = .ok (.istore 4, 2) := by decide +kernel
theorem dX4_reckon_7 : decode cX4_reckon 7 = .ok (.iload_n 2, 1) := by decide +kernel
theorem dX4_reckon_8 : decode cX4_reckon 8 = .ok (.iload_n 1, 1) := by decide +kernel
theorem dX4_reckon_9 : decode cX4_reckon 9 = .ok (.iload 4, 2) := by decide +kernel
theorem dX4_reckon_11 : decode cX4_reckon 11 = .ok (.iload_n 3, 1) := by decide +kernel
theorem dX4_reckon_12 : decode cX4_reckon 12 = .ok (.invokestatic 58, 3) := by decide +kernel
theorem dX4_reckon_15 : decode cX4_reckon 15 = .ok (.istore 5, 2) := by decide +kernel
theorem dX4_reckon_17 : decode cX4_reckon 17 = .ok (.iload 5, 2) := by decide +kernel
theorem dX4_reckon_19 : decode cX4_reckon 19 = .ok (.sipush (-1001), 3) := by decide +kernel
theorem dX4_reckon_22 : decode cX4_reckon 22 = .ok (.if_icmp .ne 7, 3) := by decide +kernel
theorem dX4_reckon_25 : decode cX4_reckon 25 = .ok (.sipush (-1001), 3) := by decide +kernel
theorem dX4_reckon_28 : decode cX4_reckon 28 = .ok (.ireturn, 1) := by decide +kernel
theorem dX4_reckon_29 : decode cX4_reckon 29 = .ok (.iload 5, 2) := by decide +kernel
theorem dX4_reckon_31 : decode cX4_reckon 31 = .ok (.sipush (-1000), 3) := by decide +kernel
theorem dX4_reckon_34 : decode cX4_reckon 34 = .ok (.if_icmp .eq 14, 3) := by decide +kernel
theorem dX4_reckon_37 : decode cX4_reckon 37 = .ok (.aload_n 0, 1) := by decide +kernel
theorem dX4_reckon_38 : decode cX4_reckon 38 = .ok (.iload_n 1, 1) := by decide +kernel
theorem dX4_reckon_39 : decode cX4_reckon 39 = .ok (.iload 5, 2) := by decide +kernel
theorem dX4_reckon_41 : decode cX4_reckon 41 = .ok (.invokevirtual 62, 3) := by decide +kernel
theorem dX4_reckon_44 : decode cX4_reckon 44 = .ok (.pop, 1) := by decide +kernel
theorem dX4_reckon_45 : decode cX4_reckon 45 = .ok (.goto 17, 3) := by decide +kernel
theorem dX4_reckon_48 : decode cX4_reckon 48 = .ok (.iload 4, 2) := by decide +kernel
theorem dX4_reckon_50 : decode cX4_reckon 50 = .ok (.sipush (-1000), 3) := by decide +kernel
theorem dX4_reckon_53 : decode cX4_reckon 53 = .ok (.if_icmp .eq 9, 3) := by decide +kernel
theorem dX4_reckon_56 : decode cX4_reckon 56 = .ok (.aload_n 0, 1) := by decide +kernel
theorem dX4_reckon_57 : decode cX4_reckon 57 = .ok (.iload_n 1, 1) := by decide +kernel
theorem dX4_reckon_58 : decode cX4_reckon 58 = .ok (.invokevirtual 70, 3) := by decide +kernel
theorem dX4_reckon_61 : decode cX4_reckon 61 = .ok (.pop, 1) := by decide +kernel
theorem dX4_reckon_62 : decode cX4_reckon 62 = .ok (.iload 5, 2) := by decide +kernel
theorem dX4_reckon_64 : decode cX4_reckon 64 = .ok (.ireturn, 1) := by decide +kernel
theorem dX4_join_0 : decode cX4_join 0 = .ok (.aload_n 0, 1) := by decide +kernel
theorem dX4_join_1 : decode cX4_join 1 = .ok (.iload_n 1, 1) := by decide +kernel
theorem dX4_join_2 : decode cX4_join 2 = .ok (.invokevirtual 37, 3) := by decide +kernel
theorem dX4_join_5 : decode cX4_join 5 = .ok (.sipush (-1000), 3) := by decide +kernel
theorem dX4_join_8 : decode cX4_join 8 = .ok (.if_icmp .eq 11, 3) := by decide +kernel
theorem dX4_join_11 : decode cX4_join 11 = .ok (.aload_n 0, 1) := by decide +kernel
theorem dX4_join_12 : decode cX4_join 12 = .ok (.iload_n 1, 1) := by decide +kernel
theorem dX4_join_13 : decode cX4_join 13 = .ok (.iload_n 3, 1) := by decide +kernel
theorem dX4_join_14 : decode cX4_join 14 = .ok (.iload_n 2, 1) := by decide +kernel
theorem dX4_join_15 : decode cX4_join 15 = .ok (.invokevirtual 66, 3) := by decide +kernel
theorem dX4_join_18 : decode cX4_join 18 = .ok (.ireturn, 1) := by decide +kernel
theorem dX4_join_19 : decode cX4_join 19 = .ok (.aload_n 0, 1) := by decide +kernel
theorem dX4_join_20 : decode cX4_join 20 = .ok (.iload_n 1, 1) := by decide +kernel
theorem dX4_join_21 : decode cX4_join 21 = .ok (.iload_n 2, 1) := by decide +kernel
theorem dX4_join_22 : decode cX4_join 22 = .ok (.invokevirtual 62, 3) := by decide +kernel
theorem dX4_join_25 : decode cX4_join 25 = .ok (.pop, 1) := by decide +kernel
theorem dX4_join_26 : decode cX4_join 26 = .ok (.iload_n 2, 1) := by decide +kernel
theorem dX4_join_27 : decode cX4_join 27 = .ok (.ireturn, 1) := by decide +kernel
theorem dX4_pairs_0 : decode cX4_pairs 0 = .ok (.new 73, 3) := by decide +kernel
theorem dX4_pairs_3 : decode cX4_pairs 3 = .ok (.dup, 1) := by decide +kernel
theorem dX4_pairs_4 : decode cX4_pairs 4 = .ok (.invokespecial 75, 3) := by decide +kernel
theorem dX4_pairs_7 : decode cX4_pairs 7 = .ok (.astore_n 1, 1) := by decide +kernel
theorem dX4_pairs_8 : decode cX4_pairs 8 = .ok (.iconst 0, 1) := by decide +kernel
theorem dX4_pairs_9 : decode cX4_pairs 9 = .ok (.istore_n 2, 1) := by decide +kernel
theorem dX4_pairs_10 : decode cX4_pairs 10 = .ok (.iload_n 2, 1) := by decide +kernel
theorem dX4_pairs_11 : decode cX4_pairs 11 = .ok (.aload_n 0, 1) := by decide +kernel
theorem dX4_pairs_12 : decode cX4_pairs 12 = .ok (.getfield 29, 3) := by decide +kernel
theorem dX4_pairs_15 : decode cX4_pairs 15 = .ok (.if_icmp .ge 45, 3) := by decide +kernel
theorem dX4_pairs_18 : decode cX4_pairs 18 = .ok (.iload_n 2, 1) := by decide +kernel
theorem dX4_pairs_19 : decode cX4_pairs 19 = .ok (.ifCond .le 10, 3) := by decide +kernel
theorem dX4_pairs_22 : decode cX4_pairs 22 = .ok (.aload_n 1, 1) := by decide +kernel
theorem dX4_pairs_23 : decode cX4_pairs 23 = .ok (.bipush 32, 2) := by decide +kernel
theorem dX4_pairs_25 : decode cX4_pairs 25 = .ok (.invokevirtual 76, 3) := by decide +kernel
theorem dX4_pairs_28 : decode cX4_pairs 28 = .ok (.pop, 1) := by decide +kernel
theorem dX4_pairs_29 : decode cX4_pairs 29 = .ok (.aload_n 0, 1) := by decide +kernel
theorem dX4_pairs_30 : decode cX4_pairs 30 = .ok (.iload_n 2, 1) := by decide +kernel
theorem dX4_pairs_31 : decode cX4_pairs 31 = .ok (.invokevirtual 80, 3) := by decide +kernel
theorem dX4_pairs_34 : decode cX4_pairs 34 = .ok (.istore_n 3, 1) := by decide +kernel
theorem dX4_pairs_35 : decode cX4_pairs 35 = .ok (.aload_n 1, 1) := by decide +kernel
theorem dX4_pairs_36 : decode cX4_pairs 36 = .ok (.iload_n 3, 1) := by decide +kernel
theorem dX4_pairs_37 : decode cX4_pairs 37 = .ok (.invokevirtual 83, 3) := by decide +kernel
theorem dX4_pairs_40 : decode cX4_pairs 40 = .ok (.bipush 61, 2) := by decide +kernel
theorem dX4_pairs_42 : decode cX4_pairs 42 = .ok (.invokevirtual 76, 3) := by decide +kernel
theorem dX4_pairs_45 : decode cX4_pairs 45 = .ok (.aload_n 0, 1) := by decide +kernel
theorem dX4_pairs_46 : decode cX4_pairs 46 = .ok (.iload_n 3, 1) := by decide +kernel
theorem dX4_pairs_47 : decode cX4_pairs 47 = .ok (.invokevirtual 37, 3) := by decide +kernel
theorem dX4_pairs_50 : decode cX4_pairs 50 = .ok (.invokevirtual 83, 3) := by decide +kernel
theorem dX4_pairs_53 : decode cX4_pairs 53 = .ok (.pop, 1) := by decide +kernel
theorem dX4_pairs_54 : decode cX4_pairs 54 = .ok (.iinc 2 1, 3) := by decide +kernel
theorem dX4_pairs_57 : decode cX4_pairs 57 = .ok (.goto (-47), 3) := by decide +kernel
theorem dX4_pairs_60 : decode cX4_pairs 60 = .ok (.aload_n 1, 1) := by decide +kernel
theorem dX4_pairs_61 : decode cX4_pairs 61 = .ok (.invokevirtual 86, 3) := by decide +kernel
theorem dX4_pairs_64 : decode cX4_pairs 64 = .ok (.areturn, 1) := by decide +kernel
theorem dX5_init_0 : decode cX5_init 0 = .ok (.aload_n 0, 1) := by decide +kernel
theorem dX5_init_1 : decode cX5_init 1 = .ok (.aload_n 1, 1) := by decide +kernel
theorem dX5_init_2 : decode cX5_init 2 = .ok (.getfield 3, 3) := by decide +kernel
theorem dX5_init_5 : decode cX5_init 5 = .ok (.invokespecial 9, 3) := by decide +kernel
theorem dX5_init_8 : decode cX5_init 8 = .ok (.aload_n 0, 1) := by decide +kernel
theorem dX5_init_9 : decode cX5_init 9 = .ok (.aload_n 1, 1) := by decide +kernel
theorem dX5_init_10 : decode cX5_init 10 = .ok (.putfield 15, 3) := by decide +kernel
theorem dX5_init_13 : decode cX5_init 13 = .ok (.return_, 1) := by decide +kernel
theorem dX5_isMore_0 : decode cX5_isMore 0 = .ok (.aload_n 0, 1) := by decide +kernel
theorem dX5_isMore_1 : decode cX5_isMore 1 = .ok (.getfield 21, 3) := by decide +kernel
theorem dX5_isMore_4 : decode cX5_isMore 4 = .ok (.aload_n 0, 1) := by decide +kernel
theorem dX5_isMore_5 : decode cX5_isMore 5 = .ok (.getfield 15, 3) := by decide +kernel
theorem dX5_isMore_8 : decode cX5_isMore 8 = .ok (.getfield 25, 3) := by decide +kernel
theorem dX5_isMore_11 : decode cX5_isMore 11 = .ok (.if_icmp .ge 7, 3) := by decide +kernel
theorem dX5_isMore_14 : decode cX5_isMore 14 = .ok (.iconst 1, 1) := by decide +kernel
theorem dX5_isMore_15 : decode cX5_isMore 15 = .ok (.goto 4, 3) := by decide +kernel
theorem dX5_isMore_18 : decode cX5_isMore 18 = .ok (.iconst 0, 1) := by decide +kernel
theorem dX5_isMore_19 : decode cX5_isMore 19 = .ok (.ireturn, 1) := by decide +kernel
theorem dX5_next_0 : decode cX5_next 0 = .ok (.aload_n 0, 1) := by decide +kernel
theorem dX5_next_1 : decode cX5_next 1 = .ok (.aload_n 0, 1) := by decide +kernel
theorem dX5_next_2 : decode cX5_next 2 = .ok (.getfield 15, 3) := by decide +kernel
theorem dX5_next_5 : decode cX5_next 5 = .ok (.aload_n 0, 1) := by decide +kernel
theorem dX5_next_6 : decode cX5_next 6 = .ok (.getfield 21, 3) := by decide +kernel
theorem dX5_next_9 : decode cX5_next 9 = .ok (.invokevirtual 28, 3) := by decide +kernel
theorem dX5_next_12 : decode cX5_next 12 = .ok (.putfield 32, 3) := by decide +kernel
theorem dX5_next_15 : decode cX5_next 15 = .ok (.aload_n 0, 1) := by decide +kernel
theorem dX5_next_16 : decode cX5_next 16 = .ok (.aload_n 0, 1) := by decide +kernel
theorem dX5_next_17 : decode cX5_next 17 = .ok (.getfield 15, 3) := by decide +kernel
theorem dX5_next_20 : decode cX5_next 20 = .ok (.aload_n 0, 1) := by decide +kernel
theorem dX5_next_21 : decode cX5_next 21 = .ok (.getfield 32, 3) := by decide +kernel
theorem dX5_next_24 : decode cX5_next 24 = .ok (.invokevirtual 35, 3) := by decide +kernel
theorem dX5_next_27 : decode cX5_next 27 = .ok (.putfield 38, 3) := by decide +kernel
theorem dX5_next_30 : decode cX5_next 30 = .ok (.aload_n 0, 1) := by decide +kernel
theorem dX5_next_31 : decode cX5_next 31 = .ok (.dup, 1) := by decide +kernel
theorem dX5_next_32 : decode cX5_next 32 = .ok (.getfield 21, 3) := by decide +kernel
theorem dX5_next_35 : decode cX5_next 35 = .ok (.iconst 1, 1) := by decide +kernel
theorem dX5_next_36 : decode cX5_next 36 = .ok (.iadd, 1) := by decide +kernel
theorem dX5_next_37 : decode cX5_next 37 = .ok (.putfield 21, 3) := by decide +kernel
theorem dX5_next_40 : decode cX5_next 40 = .ok (.sipush 1000, 3) := by decide +kernel
theorem dX5_next_43 : decode cX5_next 43 = .ok (.aload_n 0, 1) := by decide +kernel
theorem dX5_next_44 : decode cX5_next 44 = .ok (.getfield 32, 3) := by decide +kernel
theorem dX5_next_47 : decode cX5_next 47 = .ok (.imul, 1) := by decide +kernel
theorem dX5_next_48 : decode cX5_next 48 = .ok (.aload_n 0, 1) := by decide +kernel
theorem dX5_next_49 : decode cX5_next 49 = .ok (.getfield 38, 3) := by decide +kernel
theorem dX5_next_52 : decode cX5_next 52 = .ok (.iadd, 1) := by decide +kernel
theorem dX5_next_53 : decode cX5_next 53 = .ok (.ireturn, 1) := by decide +kernel
theorem dX5_putInPlace_0 : decode cX5_putInPlace 0 = .ok (.aload_n 0, 1) := by decide +kernel
theorem dX5_putInPlace_1 : decode cX5_putInPlace 1 = .ok (.getfield 41, 3) := by decide +kernel
theorem dX5_putInPlace_4 : decode cX5_putInPlace 4 = .ok (.iconst 3, 1) := by decide +kernel
theorem dX5_putInPlace_5 : decode cX5_putInPlace 5 = .ok (.invokevirtual 42, 3) := by decide +kernel
theorem dX5_putInPlace_8 : decode cX5_putInPlace 8 = .ok (.aload_n 0, 1) := by decide +kernel
theorem dX5_putInPlace_9 : decode cX5_putInPlace 9 = .ok (.getfield 15, 3) := by decide +kernel
theorem dX5_putInPlace_12 : decode cX5_putInPlace 12 = .ok (.aload_n 0, 1) := by decide +kernel
theorem dX5_putInPlace_13 : decode cX5_putInPlace 13 = .ok (.getfield 32, 3) := by decide +kernel
theorem dX5_putInPlace_16 : decode cX5_putInPlace 16 = .ok (.iload_n 1, 1) := by decide +kernel
theorem dX5_putInPlace_17 : decode cX5_putInPlace 17 = .ok (.invokevirtual 48, 3) := by decide +kernel
theorem dX5_putInPlace_20 : decode cX5_putInPlace 20 = .ok (.iconst 1, 1) := by decide +kernel
theorem dX5_putInPlace_21 : decode cX5_putInPlace 21 = .ok (.ireturn, 1) := by decide +kernel
theorem dX6_init_0 : decode cX6_init 0 = .ok (.aload_n 0, 1) := by decide +kernel
theorem dX6_init_1 : decode cX6_init 1 = .ok (.invokespecial 3, 3) := by decide +kernel
theorem dX6_init_4 : decode cX6_init 4 = .ok (.aload_n 0, 1) := by decide +kernel
theorem dX6_init_5 : decode cX6_init 5 = .ok (.bipush 7, 2) := by decide +kernel
theorem dX6_init_7 : decode cX6_init 7 = .ok (.newarray .int, 2) := by decide +kernel
theorem dX6_init_9 : decode cX6_init 9 = .ok (.putfield 9, 3) := by decide +kernel
theorem dX6_init_12 : decode cX6_init 12 = .ok (.return_, 1) := by decide +kernel
theorem dX6_add_0 : decode cX6_add 0 = .ok (.iload_n 1, 1) := by decide +kernel
theorem dX6_add_1 : decode cX6_add 1 = .ok (.ifCond .lt 22, 3) := by decide +kernel
theorem dX6_add_4 : decode cX6_add 4 = .ok (.iload_n 1, 1) := by decide +kernel
theorem dX6_add_5 : decode cX6_add 5 = .ok (.aload_n 0, 1) := by decide +kernel
theorem dX6_add_6 : decode cX6_add 6 = .ok (.getfield 9, 3) := by decide +kernel
theorem dX6_add_9 : decode cX6_add 9 = .ok (.arraylength, 1) := by decide +kernel
theorem dX6_add_10 : decode cX6_add 10 = .ok (.if_icmp .ge 13, 3) := by decide +kernel
theorem dX6_add_13 : decode cX6_add 13 = .ok (.aload_n 0, 1) := by decide +kernel
theorem dX6_add_14 : decode cX6_add 14 = .ok (.getfield 9, 3) := by decide +kernel
theorem dX6_add_17 : decode cX6_add 17 = .ok (.iload_n 1, 1) := by decide +kernel
theorem dX6_add_18 : decode cX6_add 18 = .ok (.dup2, 1) := by decide +kernel
theorem dX6_add_19 : decode cX6_add 19 = .ok (.iaload, 1) := by decide +kernel
theorem dX6_add_20 : decode cX6_add 20 = .ok (.iconst 1, 1) := by decide +kernel
theorem dX6_add_21 : decode cX6_add 21 = .ok (.iadd, 1) := by decide +kernel
theorem dX6_add_22 : decode cX6_add 22 = .ok (.iastore, 1) := by decide +kernel
theorem dX6_add_23 : decode cX6_add 23 = .ok (.return_, 1) := by decide +kernel
theorem dX6_of_0 : decode cX6_of 0 = .ok (.iload_n 1, 1) := by decide +kernel
theorem dX6_of_1 : decode cX6_of 1 = .ok (.ifCond .lt 21, 3) := by decide +kernel
theorem dX6_of_4 : decode cX6_of 4 = .ok (.iload_n 1, 1) := by decide +kernel
theorem dX6_of_5 : decode cX6_of 5 = .ok (.aload_n 0, 1) := by decide +kernel
theorem dX6_of_6 : decode cX6_of 6 = .ok (.getfield 9, 3) := by decide +kernel
theorem dX6_of_9 : decode cX6_of 9 = .ok (.arraylength, 1) := by decide +kernel
theorem dX6_of_10 : decode cX6_of 10 = .ok (.if_icmp .ge 12, 3) := by decide +kernel
theorem dX6_of_13 : decode cX6_of 13 = .ok (.aload_n 0, 1) := by decide +kernel
theorem dX6_of_14 : decode cX6_of 14 = .ok (.getfield 9, 3) := by decide +kernel
theorem dX6_of_17 : decode cX6_of 17 = .ok (.iload_n 1, 1) := by decide +kernel
theorem dX6_of_18 : decode cX6_of 18 = .ok (.iaload, 1) := by decide +kernel
theorem dX6_of_19 : decode cX6_of 19 = .ok (.goto 4, 3) := by decide +kernel
theorem dX6_of_22 : decode cX6_of 22 = .ok (.iconst 0, 1) := by decide +kernel
theorem dX6_of_23 : decode cX6_of 23 = .ok (.ireturn, 1) := by decide +kernel
theorem dX6_startAnew_0 : decode cX6_startAnew 0 = .ok (.iconst 0, 1) := by decide +kernel
theorem dX6_startAnew_1 : decode cX6_startAnew 1 = .ok (.istore_n 1, 1) := by decide +kernel
theorem dX6_startAnew_2 : decode cX6_startAnew 2 = .ok (.iconst 0, 1) := by decide +kernel
theorem dX6_startAnew_3 : decode cX6_startAnew 3 = .ok (.istore_n 2, 1) := by decide +kernel
theorem dX6_startAnew_4 : decode cX6_startAnew 4 = .ok (.iload_n 2, 1) := by decide +kernel
theorem dX6_startAnew_5 : decode cX6_startAnew 5 = .ok (.aload_n 0, 1) := by decide +kernel
theorem dX6_startAnew_6 : decode cX6_startAnew 6 = .ok (.getfield 9, 3) := by decide +kernel
theorem dX6_startAnew_9 : decode cX6_startAnew 9 = .ok (.arraylength, 1) := by decide +kernel
theorem dX6_startAnew_10 : decode cX6_startAnew 10 = .ok (.if_icmp .ge 25, 3) := by decide +kernel
theorem dX6_startAnew_13 : decode cX6_startAnew 13 = .ok (.iload_n 1, 1) := by decide +kernel
theorem dX6_startAnew_14 : decode cX6_startAnew 14 = .ok (.aload_n 0, 1) := by decide +kernel
theorem dX6_startAnew_15 : decode cX6_startAnew 15 = .ok (.getfield 9, 3) := by decide +kernel
theorem dX6_startAnew_18 : decode cX6_startAnew 18 = .ok (.iload_n 2, 1) := by decide +kernel
theorem dX6_startAnew_19 : decode cX6_startAnew 19 = .ok (.iaload, 1) := by decide +kernel
theorem dX6_startAnew_20 : decode cX6_startAnew 20 = .ok (.iadd, 1) := by decide +kernel
theorem dX6_startAnew_21 : decode cX6_startAnew 21 = .ok (.istore_n 1, 1) := by decide +kernel
theorem dX6_startAnew_22 : decode cX6_startAnew 22 = .ok (.aload_n 0, 1) := by decide +kernel
theorem dX6_startAnew_23 : decode cX6_startAnew 23 = .ok (.getfield 9, 3) := by decide +kernel
theorem dX6_startAnew_26 : decode cX6_startAnew 26 = .ok (.iload_n 2, 1) := by decide +kernel
theorem dX6_startAnew_27 : decode cX6_startAnew 27 = .ok (.iconst 0, 1) := by decide +kernel
theorem dX6_startAnew_28 : decode cX6_startAnew 28 = .ok (.iastore, 1) := by decide +kernel
theorem dX6_startAnew_29 : decode cX6_startAnew 29 = .ok (.iinc 2 1, 3) := by decide +kernel
theorem dX6_startAnew_32 : decode cX6_startAnew 32 = .ok (.goto (-28), 3) := by decide +kernel
theorem dX6_startAnew_35 : decode cX6_startAnew 35 = .ok (.iload_n 1, 1) := by decide +kernel
theorem dX6_startAnew_36 : decode cX6_startAnew 36 = .ok (.ireturn, 1) := by decide +kernel
theorem dX7_init_0 : decode cX7_init 0 = .ok (.aload_n 0, 1) := by decide +kernel
theorem dX7_init_1 : decode cX7_init 1 = .ok (.invokespecial 3, 3) := by decide +kernel
theorem dX7_init_4 : decode cX7_init 4 = .ok (.aload_n 0, 1) := by decide +kernel
theorem dX7_init_5 : decode cX7_init 5 = .ok (.aload_n 1, 1) := by decide +kernel
theorem dX7_init_6 : decode cX7_init 6 = .ok (.putfield 9, 3) := by decide +kernel
theorem dX7_init_9 : decode cX7_init 9 = .ok (.aload_n 1, 1) := by decide +kernel
theorem dX7_init_10 : decode cX7_init 10 = .ok (.iconst 0, 1) := by decide +kernel
theorem dX7_init_11 : decode cX7_init 11 = .ok (.invokevirtual 15, 3) := by decide +kernel
theorem dX7_init_14 : decode cX7_init 14 = .ok (.return_, 1) := by decide +kernel
theorem dX7_ask_0 : decode cX7_ask 0 = .ok (.aload_n 0, 1) := by decide +kernel
theorem dX7_ask_1 : decode cX7_ask 1 = .ok (.getfield 9, 3) := by decide +kernel
theorem dX7_ask_4 : decode cX7_ask 4 = .ok (.iconst 1, 1) := by decide +kernel
theorem dX7_ask_5 : decode cX7_ask 5 = .ok (.invokevirtual 15, 3) := by decide +kernel
theorem dX7_ask_8 : decode cX7_ask 8 = .ok (.aload_n 0, 1) := by decide +kernel
theorem dX7_ask_9 : decode cX7_ask 9 = .ok (.invokevirtual 21, 3) := by decide +kernel
theorem dX7_ask_12 : decode cX7_ask 12 = .ok (.ireturn, 1) := by decide +kernel
theorem dX7_give_0 : decode cX7_give 0 = .ok (.aload_n 0, 1) := by decide +kernel
theorem dX7_give_1 : decode cX7_give 1 = .ok (.getfield 9, 3) := by decide +kernel
theorem dX7_give_4 : decode cX7_give 4 = .ok (.iconst 2, 1) := by decide +kernel
theorem dX7_give_5 : decode cX7_give 5 = .ok (.invokevirtual 15, 3) := by decide +kernel
theorem dX7_give_8 : decode cX7_give 8 = .ok (.aload_n 0, 1) := by decide +kernel
theorem dX7_give_9 : decode cX7_give 9 = .ok (.invokevirtual 25, 3) := by decide +kernel
theorem dX7_give_12 : decode cX7_give 12 = .ok (.ireturn, 1) := by decide +kernel
theorem dX8_init_0 : decode cX8_init 0 = .ok (.aload_n 0, 1) := by decide +kernel
theorem dX8_init_1 : decode cX8_init 1 = .ok (.invokespecial 1, 3) := by decide +kernel
theorem dX8_init_4 : decode cX8_init 4 = .ok (.aload_n 0, 1) := by decide +kernel
theorem dX8_init_5 : decode cX8_init 5 = .ok (.iconst 2, 1) := by decide +kernel
theorem dX8_init_6 : decode cX8_init 6 = .ok (.anewarray 7, 3) := by decide +kernel
theorem dX8_init_9 : decode cX8_init 9 = .ok (.dup, 1) := by decide +kernel
theorem dX8_init_10 : decode cX8_init 10 = .ok (.iconst 0, 1) := by decide +kernel
theorem dX8_init_11 : decode cX8_init 11 = .ok (.new 7, 3) := by decide +kernel
theorem dX8_init_14 : decode cX8_init 14 = .ok (.dup, 1) := by decide +kernel
theorem dX8_init_15 : decode cX8_init 15 = .ok (.invokespecial 9, 3) := by decide +kernel
theorem dX8_init_18 : decode cX8_init 18 = .ok (.aastore, 1) := by decide +kernel
theorem dX8_init_19 : decode cX8_init 19 = .ok (.dup, 1) := by decide +kernel
theorem dX8_init_20 : decode cX8_init 20 = .ok (.iconst 1, 1) := by decide +kernel
theorem dX8_init_21 : decode cX8_init 21 = .ok (.new 7, 3) := by decide +kernel
theorem dX8_init_24 : decode cX8_init 24 = .ok (.dup, 1) := by decide +kernel
theorem dX8_init_25 : decode cX8_init 25 = .ok (.invokespecial 9, 3) := by decide +kernel
theorem dX8_init_28 : decode cX8_init 28 = .ok (.aastore, 1) := by decide +kernel
theorem dX8_init_29 : decode cX8_init 29 = .ok (.putfield 10, 3) := by decide +kernel
theorem dX8_init_32 : decode cX8_init 32 = .ok (.aload_n 0, 1) := by decide +kernel
theorem dX8_init_33 : decode cX8_init 33 = .ok (.new 16, 3) := by decide +kernel
theorem dX8_init_36 : decode cX8_init 36 = .ok (.dup, 1) := by decide +kernel
theorem dX8_init_37 : decode cX8_init 37 = .ok (.iconst 0, 1) := by decide +kernel
theorem dX8_init_38 : decode cX8_init 38 = .ok (.invokespecial 18, 3) := by decide +kernel
theorem dX8_init_41 : decode cX8_init 41 = .ok (.putfield 21, 3) := by decide +kernel
theorem dX8_init_44 : decode cX8_init 44 = .ok (.aload_n 0, 1) := by decide +kernel
theorem dX8_init_45 : decode cX8_init 45 = .ok (.iconst 3, 1) := by decide +kernel
theorem dX8_init_46 : decode cX8_init 46 = .ok (.anewarray 16, 3) := by decide +kernel
theorem dX8_init_49 : decode cX8_init 49 = .ok (.dup, 1) := by decide +kernel
theorem dX8_init_50 : decode cX8_init 50 = .ok (.iconst 0, 1) := by decide +kernel
theorem dX8_init_51 : decode cX8_init 51 = .ok (.aload_n 0, 1) := by decide +kernel
theorem dX8_init_52 : decode cX8_init 52 = .ok (.getfield 21, 3) := by decide +kernel
theorem dX8_init_55 : decode cX8_init 55 = .ok (.aastore, 1) := by decide +kernel
theorem dX8_init_56 : decode cX8_init 56 = .ok (.dup, 1) := by decide +kernel
theorem dX8_init_57 : decode cX8_init 57 = .ok (.iconst 1, 1) := by decide +kernel
theorem dX8_init_58 : decode cX8_init 58 = .ok (.new 16, 3) := by decide +kernel
theorem dX8_init_61 : decode cX8_init 61 = .ok (.dup, 1) := by decide +kernel
theorem dX8_init_62 : decode cX8_init 62 = .ok (.iconst 0, 1) := by decide +kernel
theorem dX8_init_63 : decode cX8_init 63 = .ok (.invokespecial 18, 3) := by decide +kernel
theorem dX8_init_66 : decode cX8_init 66 = .ok (.aastore, 1) := by decide +kernel
theorem dX8_init_67 : decode cX8_init 67 = .ok (.dup, 1) := by decide +kernel
theorem dX8_init_68 : decode cX8_init 68 = .ok (.iconst 2, 1) := by decide +kernel
theorem dX8_init_69 : decode cX8_init 69 = .ok (.new 16, 3) := by decide +kernel
theorem dX8_init_72 : decode cX8_init 72 = .ok (.dup, 1) := by decide +kernel
theorem dX8_init_73 : decode cX8_init 73 = .ok (.iconst 1, 1) := by decide +kernel
theorem dX8_init_74 : decode cX8_init 74 = .ok (.invokespecial 18, 3) := by decide +kernel
theorem dX8_init_77 : decode cX8_init 77 = .ok (.aastore, 1) := by decide +kernel
theorem dX8_init_78 : decode cX8_init 78 = .ok (.putfield 25, 3) := by decide +kernel
theorem dX8_init_81 : decode cX8_init 81 = .ok (.aload_n 0, 1) := by decide +kernel
theorem dX8_init_82 : decode cX8_init 82 = .ok (.iconst 2, 1) := by decide +kernel
theorem dX8_init_83 : decode cX8_init 83 = .ok (.anewarray 29, 3) := by decide +kernel
theorem dX8_init_86 : decode cX8_init 86 = .ok (.dup, 1) := by decide +kernel
theorem dX8_init_87 : decode cX8_init 87 = .ok (.iconst 0, 1) := by decide +kernel
theorem dX8_init_88 : decode cX8_init 88 = .ok (.new 29, 3) := by decide +kernel
theorem dX8_init_91 : decode cX8_init 91 = .ok (.dup, 1) := by decide +kernel
theorem dX8_init_92 : decode cX8_init 92 = .ok (.invokespecial 31, 3) := by decide +kernel
theorem dX8_init_95 : decode cX8_init 95 = .ok (.aastore, 1) := by decide +kernel
theorem dX8_init_96 : decode cX8_init 96 = .ok (.dup, 1) := by decide +kernel
theorem dX8_init_97 : decode cX8_init 97 = .ok (.iconst 1, 1) := by decide +kernel
theorem dX8_init_98 : decode cX8_init 98 = .ok (.new 29, 3) := by decide +kernel
theorem dX8_init_101 : decode cX8_init 101 = .ok (.dup, 1) := by decide +kernel
theorem dX8_init_102 : decode cX8_init 102 = .ok (.invokespecial 31, 3) := by decide +kernel
theorem dX8_init_105 : decode cX8_init 105 = .ok (.aastore, 1) := by decide +kernel
theorem dX8_init_106 : decode cX8_init 106 = .ok (.putfield 32, 3) := by decide +kernel
theorem dX8_init_109 : decode cX8_init 109 = .ok (.aload_n 0, 1) := by decide +kernel
theorem dX8_init_110 : decode cX8_init 110 = .ok (.new 7, 3) := by decide +kernel
theorem dX8_init_113 : decode cX8_init 113 = .ok (.dup, 1) := by decide +kernel
theorem dX8_init_114 : decode cX8_init 114 = .ok (.invokespecial 9, 3) := by decide +kernel
theorem dX8_init_117 : decode cX8_init 117 = .ok (.putfield 36, 3) := by decide +kernel
theorem dX8_init_120 : decode cX8_init 120 = .ok (.aload_n 0, 1) := by decide +kernel
theorem dX8_init_121 : decode cX8_init 121 = .ok (.new 16, 3) := by decide +kernel
theorem dX8_init_124 : decode cX8_init 124 = .ok (.dup, 1) := by decide +kernel
theorem dX8_init_125 : decode cX8_init 125 = .ok (.iconst 0, 1) := by decide +kernel
theorem dX8_init_126 : decode cX8_init 126 = .ok (.invokespecial 18, 3) := by decide +kernel
theorem dX8_init_129 : decode cX8_init 129 = .ok (.putfield 40, 3) := by decide +kernel
theorem dX8_init_132 : decode cX8_init 132 = .ok (.aload_n 0, 1) := by decide +kernel
theorem dX8_init_133 : decode cX8_init 133 = .ok (.iconst 3, 1) := by decide +kernel
theorem dX8_init_134 : decode cX8_init 134 = .ok (.anewarray 16, 3) := by decide +kernel
theorem dX8_init_137 : decode cX8_init 137 = .ok (.dup, 1) := by decide +kernel
theorem dX8_init_138 : decode cX8_init 138 = .ok (.iconst 0, 1) := by decide +kernel
theorem dX8_init_139 : decode cX8_init 139 = .ok (.aload_n 0, 1) := by decide +kernel
theorem dX8_init_140 : decode cX8_init 140 = .ok (.getfield 40, 3) := by decide +kernel
theorem dX8_init_143 : decode cX8_init 143 = .ok (.aastore, 1) := by decide +kernel
theorem dX8_init_144 : decode cX8_init 144 = .ok (.dup, 1) := by decide +kernel
theorem dX8_init_145 : decode cX8_init 145 = .ok (.iconst 1, 1) := by decide +kernel
theorem dX8_init_146 : decode cX8_init 146 = .ok (.new 16, 3) := by decide +kernel
theorem dX8_init_149 : decode cX8_init 149 = .ok (.dup, 1) := by decide +kernel
theorem dX8_init_150 : decode cX8_init 150 = .ok (.iconst 0, 1) := by decide +kernel
theorem dX8_init_151 : decode cX8_init 151 = .ok (.invokespecial 18, 3) := by decide +kernel
theorem dX8_init_154 : decode cX8_init 154 = .ok (.aastore, 1) := by decide +kernel
theorem dX8_init_155 : decode cX8_init 155 = .ok (.dup, 1) := by decide +kernel
theorem dX8_init_156 : decode cX8_init 156 = .ok (.iconst 2, 1) := by decide +kernel
theorem dX8_init_157 : decode cX8_init 157 = .ok (.new 16, 3) := by decide +kernel
theorem dX8_init_160 : decode cX8_init 160 = .ok (.dup, 1) := by decide +kernel
theorem dX8_init_161 : decode cX8_init 161 = .ok (.iconst 1, 1) := by decide +kernel
theorem dX8_init_162 : decode cX8_init 162 = .ok (.invokespecial 18, 3) := by decide +kernel
theorem dX8_init_165 : decode cX8_init 165 = .ok (.aastore, 1) := by decide +kernel
theorem dX8_init_166 : decode cX8_init 166 = .ok (.putfield 43, 3) := by decide +kernel
theorem dX8_init_169 : decode cX8_init 169 = .ok (.return_, 1) := by decide +kernel
theorem dX8_type_0 : decode cX8_type 0 = .ok (.aload_n 0, 1) := by decide +kernel
theorem dX8_type_1 : decode cX8_type 1 = .ok (.iload_n 1, 1) := by decide +kernel
theorem dX8_type_2 : decode cX8_type 2 = .ok (.invokevirtual 46, 3) := by decide +kernel
theorem dX8_type_5 : decode cX8_type 5 = .ok (.astore_n 3, 1) := by decide +kernel
theorem dX8_type_6 : decode cX8_type 6 = .ok (.iload_n 2, 1) := by decide +kernel
theorem dX8_type_7 : decode cX8_type 7 = .ok (.invokestatic 50, 3) := by decide +kernel
theorem dX8_type_10 : decode cX8_type 10 = .ok (.aload_n 3, 1) := by decide +kernel
theorem dX8_type_11 : decode cX8_type 11 = .ok (.invokevirtual 54, 3) := by decide +kernel
theorem dX8_type_14 : decode cX8_type 14 = .ok (.ifCond .eq 13, 3) := by decide +kernel
theorem dX8_type_17 : decode cX8_type 17 = .ok (.new 58, 3) := by decide +kernel
theorem dX8_type_20 : decode cX8_type 20 = .ok (.dup, 1) := by decide +kernel
theorem dX8_type_21 : decode cX8_type 21 = .ok (.ldc 60, 2) := by decide +kernel
theorem dX8_type_23 : decode cX8_type 23 = .ok (.invokespecial 62, 3) := by decide +kernel
theorem dX8_type_26 : decode cX8_type 26 = .ok (.athrow, 1) := by decide +kernel
theorem dX8_type_27 : decode cX8_type 27 = .ok (.aload_n 3, 1) := by decide +kernel
theorem dX8_type_28 : decode cX8_type 28 = .ok (.iload_n 2, 1) := by decide +kernel
theorem dX8_type_29 : decode cX8_type 29 = .ok (.invokevirtual 65, 3) := by decide +kernel
theorem dX8_type_32 : decode cX8_type 32 = .ok (.aload_n 3, 1) := by decide +kernel
theorem dX8_type_33 : decode cX8_type 33 = .ok (.getfield 68, 3) := by decide +kernel
theorem dX8_type_36 : decode cX8_type 36 = .ok (.ireturn, 1) := by decide +kernel
theorem dX8_drop_0 : decode cX8_drop 0 = .ok (.aload_n 0, 1) := by decide +kernel
theorem dX8_drop_1 : decode cX8_drop 1 = .ok (.iload_n 1, 1) := by decide +kernel
theorem dX8_drop_2 : decode cX8_drop 2 = .ok (.invokevirtual 46, 3) := by decide +kernel
theorem dX8_drop_5 : decode cX8_drop 5 = .ok (.astore_n 3, 1) := by decide +kernel
theorem dX8_drop_6 : decode cX8_drop 6 = .ok (.iload_n 2, 1) := by decide +kernel
theorem dX8_drop_7 : decode cX8_drop 7 = .ok (.iconst 1, 1) := by decide +kernel
theorem dX8_drop_8 : decode cX8_drop 8 = .ok (.aload_n 3, 1) := by decide +kernel
theorem dX8_drop_9 : decode cX8_drop 9 = .ok (.getfield 68, 3) := by decide +kernel
theorem dX8_drop_12 : decode cX8_drop 12 = .ok (.invokestatic 72, 3) := by decide +kernel
theorem dX8_drop_15 : decode cX8_drop 15 = .ok (.aload_n 3, 1) := by decide +kernel
theorem dX8_drop_16 : decode cX8_drop 16 = .ok (.iload_n 2, 1) := by decide +kernel
theorem dX8_drop_17 : decode cX8_drop 17 = .ok (.invokevirtual 76, 3) := by decide +kernel
theorem dX8_drop_20 : decode cX8_drop 20 = .ok (.aload_n 3, 1) := by decide +kernel
theorem dX8_drop_21 : decode cX8_drop 21 = .ok (.getfield 68, 3) := by decide +kernel
theorem dX8_drop_24 : decode cX8_drop 24 = .ok (.ireturn, 1) := by decide +kernel
theorem dX8_fix_0 : decode cX8_fix 0 = .ok (.aload_n 0, 1) := by decide +kernel
theorem dX8_fix_1 : decode cX8_fix 1 = .ok (.iload_n 1, 1) := by decide +kernel
theorem dX8_fix_2 : decode cX8_fix 2 = .ok (.invokevirtual 46, 3) := by decide +kernel
theorem dX8_fix_5 : decode cX8_fix 5 = .ok (.astore_n 3, 1) := by decide +kernel
theorem dX8_fix_6 : decode cX8_fix 6 = .ok (.aload_n 3, 1) := by decide +kernel
theorem dX8_fix_7 : decode cX8_fix 7 = .ok (.getfield 79, 3) := by decide +kernel
theorem dX8_fix_10 : decode cX8_fix 10 = .ok (.invokestatic 83, 3) := by decide +kernel
theorem dX8_fix_13 : decode cX8_fix 13 = .ok (.istore 4, 2) := by decide +kernel
theorem dX8_fix_15 : decode cX8_fix 15 = .ok (.aload_n 3, 1) := by decide +kernel
theorem dX8_fix_16 : decode cX8_fix 16 = .ok (.iload_n 2, 1) := by decide +kernel
theorem dX8_fix_17 : decode cX8_fix 17 = .ok (.putfield 79, 3) := by decide +kernel
theorem dX8_fix_20 : decode cX8_fix 20 = .ok (.iload 4, 2) := by decide +kernel
theorem dX8_fix_22 : decode cX8_fix 22 = .ok (.ireturn, 1) := by decide +kernel
theorem dX8_hear_0 : decode cX8_hear 0 = .ok (.aload_n 0, 1) := by decide +kernel
theorem dX8_hear_1 : decode cX8_hear 1 = .ok (.iload_n 1, 1) := by decide +kernel
theorem dX8_hear_2 : decode cX8_hear 2 = .ok (.invokevirtual 46, 3) := by decide +kernel
theorem dX8_hear_5 : decode cX8_hear 5 = .ok (.astore_n 3, 1) := by decide +kernel
theorem dX8_hear_6 : decode cX8_hear 6 = .ok (.aload_n 0, 1) := by decide +kernel
theorem dX8_hear_7 : decode cX8_hear 7 = .ok (.iload_n 2, 1) := by decide +kernel
theorem dX8_hear_8 : decode cX8_hear 8 = .ok (.invokevirtual 87, 3) := by decide +kernel
theorem dX8_hear_11 : decode cX8_hear 11 = .ok (.astore 4, 2) := by decide +kernel
theorem dX8_hear_13 : decode cX8_hear 13 = .ok (.aload_n 0, 1) := by decide +kernel
theorem dX8_hear_14 : decode cX8_hear 14 = .ok (.new 91, 3) := by decide +kernel
theorem dX8_hear_17 : decode cX8_hear 17 = .ok (.dup, 1) := by decide +kernel
theorem dX8_hear_18 : decode cX8_hear 18 = .ok (.aload_n 3, 1) := by decide +kernel
theorem dX8_hear_19 : decode cX8_hear 19 = .ok (.invokespecial 93, 3) := by decide +kernel
theorem dX8_hear_22 : decode cX8_hear 22 = .ok (.aload 4, 2) := by decide +kernel
theorem dX8_hear_24 : decode cX8_hear 24 = .ok (.invokestatic 96, 3) := by decide +kernel
theorem dX8_hear_27 : decode cX8_hear 27 = .ok (.invokevirtual 100, 3) := by decide +kernel
theorem dX8_hear_30 : decode cX8_hear 30 = .ok (.ireturn, 1) := by decide +kernel
theorem dX8_rest_0 : decode cX8_rest 0 = .ok (.aload_n 0, 1) := by decide +kernel
theorem dX8_rest_1 : decode cX8_rest 1 = .ok (.iload_n 1, 1) := by decide +kernel
theorem dX8_rest_2 : decode cX8_rest 2 = .ok (.invokevirtual 46, 3) := by decide +kernel
theorem dX8_rest_5 : decode cX8_rest 5 = .ok (.astore 4, 2) := by decide +kernel
theorem dX8_rest_7 : decode cX8_rest 7 = .ok (.aload_n 0, 1) := by decide +kernel
theorem dX8_rest_8 : decode cX8_rest 8 = .ok (.iload_n 3, 1) := by decide +kernel
theorem dX8_rest_9 : decode cX8_rest 9 = .ok (.invokevirtual 87, 3) := by decide +kernel
theorem dX8_rest_12 : decode cX8_rest 12 = .ok (.astore 5, 2) := by decide +kernel
theorem dX8_rest_14 : decode cX8_rest 14 = .ok (.iload_n 2, 1) := by decide +kernel
theorem dX8_rest_15 : decode cX8_rest 15 = .ok (.iconst 0, 1) := by decide +kernel
theorem dX8_rest_16 : decode cX8_rest 16 = .ok (.aload 4, 2) := by decide +kernel
theorem dX8_rest_18 : decode cX8_rest 18 = .ok (.getfield 68, 3) := by decide +kernel
theorem dX8_rest_21 : decode cX8_rest 21 = .ok (.invokestatic 72, 3) := by decide +kernel
theorem dX8_rest_24 : decode cX8_rest 24 = .ok (.new 91, 3) := by decide +kernel
theorem dX8_rest_27 : decode cX8_rest 27 = .ok (.dup, 1) := by decide +kernel
theorem dX8_rest_28 : decode cX8_rest 28 = .ok (.aload 4, 2) := by decide +kernel
theorem dX8_rest_30 : decode cX8_rest 30 = .ok (.invokespecial 93, 3) := by decide +kernel
theorem dX8_rest_33 : decode cX8_rest 33 = .ok (.astore 6, 2) := by decide +kernel
theorem dX8_rest_35 : decode cX8_rest 35 = .ok (.aload 6, 2) := by decide +kernel
theorem dX8_rest_37 : decode cX8_rest 37 = .ok (.iload_n 2, 1) := by decide +kernel
theorem dX8_rest_38 : decode cX8_rest 38 = .ok (.invokestatic 104, 3) := by decide +kernel
theorem dX8_rest_41 : decode cX8_rest 41 = .ok (.aload_n 0, 1) := by decide +kernel
theorem dX8_rest_42 : decode cX8_rest 42 = .ok (.aload 6, 2) := by decide +kernel
theorem dX8_rest_44 : decode cX8_rest 44 = .ok (.aload 5, 2) := by decide +kernel
theorem dX8_rest_46 : decode cX8_rest 46 = .ok (.invokestatic 96, 3) := by decide +kernel
theorem dX8_rest_49 : decode cX8_rest 49 = .ok (.invokevirtual 100, 3) := by decide +kernel
theorem dX8_rest_52 : decode cX8_rest 52 = .ok (.ireturn, 1) := by decide +kernel
theorem dX8_removeIf_0 : decode cX8_removeIf 0 = .ok (.aload_n 0, 1) := by decide +kernel
theorem dX8_removeIf_1 : decode cX8_removeIf 1 = .ok (.iload_n 1, 1) := by decide +kernel
theorem dX8_removeIf_2 : decode cX8_removeIf 2 = .ok (.invokevirtual 46, 3) := by decide +kernel
theorem dX8_removeIf_5 : decode cX8_removeIf 5 = .ok (.astore 4, 2) := by decide +kernel
theorem dX8_removeIf_7 : decode cX8_removeIf 7 = .ok (.iload_n 2, 1) := by decide +kernel
theorem dX8_removeIf_8 : decode cX8_removeIf 8 = .ok (.iconst 0, 1) := by decide +kernel
theorem dX8_removeIf_9 : decode cX8_removeIf 9 = .ok (.iconst 5, 1) := by decide +kernel
theorem dX8_removeIf_10 : decode cX8_removeIf 10 = .ok (.invokestatic 72, 3) := by decide +kernel
theorem dX8_removeIf_13 : decode cX8_removeIf 13 = .ok (.iload_n 3, 1) := by decide +kernel
theorem dX8_removeIf_14 : decode cX8_removeIf 14 = .ok (.invokestatic 50, 3) := by decide +kernel
theorem dX8_removeIf_17 : decode cX8_removeIf 17 = .ok (.aload_n 0, 1) := by decide +kernel
theorem dX8_removeIf_18 : decode cX8_removeIf 18 = .ok (.new 91, 3) := by decide +kernel
theorem dX8_removeIf_21 : decode cX8_removeIf 21 = .ok (.dup, 1) := by decide +kernel
theorem dX8_removeIf_22 : decode cX8_removeIf 22 = .ok (.aload 4, 2) := by decide +kernel
theorem dX8_removeIf_24 : decode cX8_removeIf 24 = .ok (.invokespecial 93, 3) := by decide +kernel
theorem dX8_removeIf_27 : decode cX8_removeIf 27 = .ok (.iload_n 2, 1) := by decide +kernel
theorem dX8_removeIf_28 : decode cX8_removeIf 28 = .ok (.iload_n 3, 1) := by decide +kernel
theorem dX8_removeIf_29 : decode cX8_removeIf 29 = .ok (.invokestatic 108, 3) := by decide +kernel
theorem dX8_removeIf_32 : decode cX8_removeIf 32 = .ok (.invokevirtual 100, 3) := by decide +kernel
theorem dX8_removeIf_35 : decode cX8_removeIf 35 = .ok (.ireturn, 1) := by decide +kernel
theorem dX8_replaceAll_0 : decode cX8_replaceAll 0 = .ok (.aload_n 0, 1) := by decide +kernel
theorem dX8_replaceAll_1 : decode cX8_replaceAll 1 = .ok (.iload_n 1, 1) := by decide +kernel
theorem dX8_replaceAll_2 : decode cX8_replaceAll 2 = .ok (.invokevirtual 46, 3) := by decide +kernel
theorem dX8_replaceAll_5 : decode cX8_replaceAll 5 = .ok (.astore 4, 2) := by decide +kernel
theorem dX8_replaceAll_7 : decode cX8_replaceAll 7 = .ok (.iload_n 2, 1) := by decide +kernel
theorem dX8_replaceAll_8 : decode cX8_replaceAll 8 = .ok (.ifCond .eq 13, 3) := by decide +kernel
theorem dX8_replaceAll_11 : decode cX8_replaceAll 11 = .ok (.iload_n 2, 1) := by decide +kernel
theorem dX8_replaceAll_12 : decode cX8_replaceAll 12 = .ok (.iconst 1, 1) := by decide +kernel
theorem dX8_replaceAll_13 : decode cX8_replaceAll 13 = .ok (.if_icmp .eq 8, 3) := by decide +kernel
theorem dX8_replaceAll_16 : decode cX8_replaceAll 16 = .ok (.iload_n 2, 1) := by decide +kernel
theorem dX8_replaceAll_17 : decode cX8_replaceAll 17 = .ok (.iconst 4, 1) := by decide +kernel
theorem dX8_replaceAll_18 : decode cX8_replaceAll 18 = .ok (.if_icmp .ne 7, 3) := by decide +kernel
theorem dX8_replaceAll_21 : decode cX8_replaceAll 21 = .ok (.iconst 1, 1) := by decide +kernel
theorem dX8_replaceAll_22 : decode cX8_replaceAll 22 = .ok (.goto 4, 3) := by decide +kernel
theorem dX8_replaceAll_25 : decode cX8_replaceAll 25 = .ok (.iconst 0, 1) := by decide +kernel
theorem dX8_replaceAll_26 : decode cX8_replaceAll 26 = .ok (.invokestatic 112, 3) := by decide +kernel
theorem dX8_replaceAll_29 : decode cX8_replaceAll 29 = .ok (.iload_n 3, 1) := by decide +kernel
theorem dX8_replaceAll_30 : decode cX8_replaceAll 30 = .ok (.invokestatic 50, 3) := by decide +kernel
theorem dX8_replaceAll_33 : decode cX8_replaceAll 33 = .ok (.new 91, 3) := by decide +kernel
theorem dX8_replaceAll_36 : decode cX8_replaceAll 36 = .ok (.dup, 1) := by decide +kernel
theorem dX8_replaceAll_37 : decode cX8_replaceAll 37 = .ok (.aload 4, 2) := by decide +kernel
theorem dX8_replaceAll_39 : decode cX8_replaceAll 39 = .ok (.invokespecial 93, 3) := by decide +kernel
theorem dX8_replaceAll_42 : decode cX8_replaceAll 42 = .ok (.iload_n 2, 1) := by decide +kernel
theorem dX8_replaceAll_43 : decode cX8_replaceAll 43 = .ok (.iload_n 3, 1) := by decide +kernel
theorem dX8_replaceAll_44 : decode cX8_replaceAll 44 = .ok (.invokestatic 115, 3) := by decide +kernel
theorem dX8_replaceAll_47 : decode cX8_replaceAll 47 = .ok (.istore 5, 2) := by decide +kernel
theorem dX8_replaceAll_49 : decode cX8_replaceAll 49 = .ok (.iload 5, 2) := by decide +kernel
theorem dX8_replaceAll_51 : decode cX8_replaceAll 51 = .ok (.ifCond .eq 11, 3) := by decide +kernel
theorem dX8_replaceAll_54 : decode cX8_replaceAll 54 = .ok (.aload 4, 2) := by decide +kernel
theorem dX8_replaceAll_56 : decode cX8_replaceAll 56 = .ok (.getfield 68, 3) := by decide +kernel
theorem dX8_replaceAll_59 : decode cX8_replaceAll 59 = .ok (.goto 7, 3) := by decide +kernel
theorem dX8_replaceAll_62 : decode cX8_replaceAll 62 = .ok (.aload_n 0, 1) := by decide +kernel
theorem dX8_replaceAll_63 : decode cX8_replaceAll 63 = .ok (.invokevirtual 119, 3) := by decide +kernel
theorem dX8_replaceAll_66 : decode cX8_replaceAll 66 = .ok (.ireturn, 1) := by decide +kernel
theorem dX8_copy_0 : decode cX8_copy 0 = .ok (.aload_n 0, 1) := by decide +kernel
theorem dX8_copy_1 : decode cX8_copy 1 = .ok (.iload_n 1, 1) := by decide +kernel
theorem dX8_copy_2 : decode cX8_copy 2 = .ok (.invokevirtual 46, 3) := by decide +kernel
theorem dX8_copy_5 : decode cX8_copy 5 = .ok (.astore_n 2, 1) := by decide +kernel
theorem dX8_copy_6 : decode cX8_copy 6 = .ok (.aload_n 2, 1) := by decide +kernel
theorem dX8_copy_7 : decode cX8_copy 7 = .ok (.aload_n 0, 1) := by decide +kernel
theorem dX8_copy_8 : decode cX8_copy 8 = .ok (.iconst 1, 1) := by decide +kernel
theorem dX8_copy_9 : decode cX8_copy 9 = .ok (.iload_n 1, 1) := by decide +kernel
theorem dX8_copy_10 : decode cX8_copy 10 = .ok (.isub, 1) := by decide +kernel
theorem dX8_copy_11 : decode cX8_copy 11 = .ok (.invokevirtual 46, 3) := by decide +kernel
theorem dX8_copy_14 : decode cX8_copy 14 = .ok (.invokevirtual 123, 3) := by decide +kernel
theorem dX8_copy_17 : decode cX8_copy 17 = .ok (.aload_n 2, 1) := by decide +kernel
theorem dX8_copy_18 : decode cX8_copy 18 = .ok (.getfield 68, 3) := by decide +kernel
theorem dX8_copy_21 : decode cX8_copy 21 = .ok (.ireturn, 1) := by decide +kernel
theorem dX8_put_0 : decode cX8_put 0 = .ok (.aload_n 0, 1) := by decide +kernel
theorem dX8_put_1 : decode cX8_put 1 = .ok (.iload_n 1, 1) := by decide +kernel
theorem dX8_put_2 : decode cX8_put 2 = .ok (.iload_n 2, 1) := by decide +kernel
theorem dX8_put_3 : decode cX8_put 3 = .ok (.invokevirtual 126, 3) := by decide +kernel
theorem dX8_put_6 : decode cX8_put 6 = .ok (.astore 4, 2) := by decide +kernel
theorem dX8_put_8 : decode cX8_put 8 = .ok (.iload_n 3, 1) := by decide +kernel
theorem dX8_put_9 : decode cX8_put 9 = .ok (.invokestatic 50, 3) := by decide +kernel
theorem dX8_put_12 : decode cX8_put 12 = .ok (.aload 4, 2) := by decide +kernel
theorem dX8_put_14 : decode cX8_put 14 = .ok (.iload_n 2, 1) := by decide +kernel
theorem dX8_put_15 : decode cX8_put 15 = .ok (.iload_n 3, 1) := by decide +kernel
theorem dX8_put_16 : decode cX8_put 16 = .ok (.invokevirtual 130, 3) := by decide +kernel
theorem dX8_put_19 : decode cX8_put 19 = .ok (.ireturn, 1) := by decide +kernel
theorem dX8_remove_0 : decode cX8_remove 0 = .ok (.aload_n 0, 1) := by decide +kernel
theorem dX8_remove_1 : decode cX8_remove 1 = .ok (.iload_n 1, 1) := by decide +kernel
theorem dX8_remove_2 : decode cX8_remove 2 = .ok (.iload_n 2, 1) := by decide +kernel
theorem dX8_remove_3 : decode cX8_remove 3 = .ok (.invokevirtual 126, 3) := by decide +kernel
theorem dX8_remove_6 : decode cX8_remove 6 = .ok (.iload_n 2, 1) := by decide +kernel
theorem dX8_remove_7 : decode cX8_remove 7 = .ok (.invokevirtual 134, 3) := by decide +kernel
theorem dX8_remove_10 : decode cX8_remove 10 = .ok (.ireturn, 1) := by decide +kernel
theorem dX8_putIfAbsent_0 : decode cX8_putIfAbsent 0 = .ok (.aload_n 0, 1) := by decide +kernel
theorem dX8_putIfAbsent_1 : decode cX8_putIfAbsent 1 = .ok (.iload_n 1, 1) := by decide +kernel
theorem dX8_putIfAbsent_2 : decode cX8_putIfAbsent 2 = .ok (.iload_n 2, 1) := by decide +kernel
theorem dX8_putIfAbsent_3 : decode cX8_putIfAbsent 3 = .ok (.invokevirtual 126, 3) := by decide +kernel
theorem dX8_putIfAbsent_6 : decode cX8_putIfAbsent 6 = .ok (.astore 4, 2) := by decide +kernel
theorem dX8_putIfAbsent_8 : decode cX8_putIfAbsent 8 = .ok (.iload_n 3, 1) := by decide +kernel
theorem dX8_putIfAbsent_9 : decode cX8_putIfAbsent 9 = .ok (.invokestatic 50, 3) := by decide +kernel
theorem dX8_putIfAbsent_12 : decode cX8_putIfAbsent 12 = .ok (.aload 4, 2) := by decide +kernel
theorem dX8_putIfAbsent_14 : decode cX8_putIfAbsent 14 = .ok (.iload_n 2, 1) := by decide +kernel
theorem dX8_putIfAbsent_15 : decode cX8_putIfAbsent 15 = .ok (.invokevirtual 137, 3) := by decide +kernel
theorem dX8_putIfAbsent_18 : decode cX8_putIfAbsent 18 = .ok (.istore 5, 2) := by decide +kernel
theorem dX8_putIfAbsent_20 : decode cX8_putIfAbsent 20 = .ok (.iload 5, 2) := by decide +kernel
theorem dX8_putIfAbsent_22 : decode cX8_putIfAbsent 22 = .ok (.sipush (-1000), 3) := by decide +kernel
theorem dX8_putIfAbsent_25 : decode cX8_putIfAbsent 25 = .ok (.if_icmp .ne 13, 3) := by decide +kernel
theorem dX8_putIfAbsent_28 : decode cX8_putIfAbsent 28 = .ok (.aload 4, 2) := by decide +kernel
theorem dX8_putIfAbsent_30 : decode cX8_putIfAbsent 30 = .ok (.iload_n 2, 1) := by decide +kernel
theorem dX8_putIfAbsent_31 : decode cX8_putIfAbsent 31 = .ok (.iload_n 3, 1) := by decide +kernel
theorem dX8_putIfAbsent_32 : decode cX8_putIfAbsent 32 = .ok (.invokevirtual 130, 3) := by decide +kernel
theorem dX8_putIfAbsent_35 : decode cX8_putIfAbsent 35 = .ok (.goto 5, 3) := by decide +kernel
theorem dX8_putIfAbsent_38 : decode cX8_putIfAbsent 38 = .ok (.iload 5, 2) := by decide +kernel
theorem dX8_putIfAbsent_40 : decode cX8_putIfAbsent 40 = .ok (.ireturn, 1) := by decide +kernel
theorem dX8_replace_0 : decode cX8_replace 0 = .ok (.aload_n 0, 1) := by decide +kernel
theorem dX8_replace_1 : decode cX8_replace 1 = .ok (.iload_n 1, 1) := by decide +kernel
theorem dX8_replace_2 : decode cX8_replace 2 = .ok (.iload_n 2, 1) := by decide +kernel
theorem dX8_replace_3 : decode cX8_replace 3 = .ok (.invokevirtual 126, 3) := by decide +kernel
theorem dX8_replace_6 : decode cX8_replace 6 = .ok (.astore 4, 2) := by decide +kernel
theorem dX8_replace_8 : decode cX8_replace 8 = .ok (.iload_n 3, 1) := by decide +kernel
theorem dX8_replace_9 : decode cX8_replace 9 = .ok (.invokestatic 50, 3) := by decide +kernel
theorem dX8_replace_12 : decode cX8_replace 12 = .ok (.aload 4, 2) := by decide +kernel
theorem dX8_replace_14 : decode cX8_replace 14 = .ok (.iload_n 2, 1) := by decide +kernel
theorem dX8_replace_15 : decode cX8_replace 15 = .ok (.invokevirtual 137, 3) := by decide +kernel
theorem dX8_replace_18 : decode cX8_replace 18 = .ok (.sipush (-1000), 3) := by decide +kernel
theorem dX8_replace_21 : decode cX8_replace 21 = .ok (.if_icmp .ne 9, 3) := by decide +kernel
theorem dX8_replace_24 : decode cX8_replace 24 = .ok (.sipush (-1000), 3) := by decide +kernel
theorem dX8_replace_27 : decode cX8_replace 27 = .ok (.goto 10, 3) := by decide +kernel
theorem dX8_replace_30 : decode cX8_replace 30 = .ok (.aload 4, 2) := by decide +kernel
theorem dX8_replace_32 : decode cX8_replace 32 = .ok (.iload_n 2, 1) := by decide +kernel
theorem dX8_replace_33 : decode cX8_replace 33 = .ok (.iload_n 3, 1) := by decide +kernel
theorem dX8_replace_34 : decode cX8_replace 34 = .ok (.invokevirtual 130, 3) := by decide +kernel
theorem dX8_replace_37 : decode cX8_replace 37 = .ok (.ireturn, 1) := by decide +kernel
theorem dX8_replaceIf_0 : decode cX8_replaceIf 0 = .ok (.aload_n 0, 1) := by decide +kernel
theorem dX8_replaceIf_1 : decode cX8_replaceIf 1 = .ok (.iload_n 1, 1) := by decide +kernel
theorem dX8_replaceIf_2 : decode cX8_replaceIf 2 = .ok (.iload_n 2, 1) := by decide +kernel
theorem dX8_replaceIf_3 : decode cX8_replaceIf 3 = .ok (.invokevirtual 126, 3) := by decide +kernel
theorem dX8_replaceIf_6 : decode cX8_replaceIf 6 = .ok (.astore 5, 2) := by decide +kernel
theorem dX8_replaceIf_8 : decode cX8_replaceIf 8 = .ok (.iload_n 3, 1) := by decide +kernel
theorem dX8_replaceIf_9 : decode cX8_replaceIf 9 = .ok (.invokestatic 50, 3) := by decide +kernel
theorem dX8_replaceIf_12 : decode cX8_replaceIf 12 = .ok (.iload 4, 2) := by decide +kernel
theorem dX8_replaceIf_14 : decode cX8_replaceIf 14 = .ok (.invokestatic 50, 3) := by decide +kernel
theorem dX8_replaceIf_17 : decode cX8_replaceIf 17 = .ok (.aload 5, 2) := by decide +kernel
theorem dX8_replaceIf_19 : decode cX8_replaceIf 19 = .ok (.iload_n 2, 1) := by decide +kernel
theorem dX8_replaceIf_20 : decode cX8_replaceIf 20 = .ok (.invokevirtual 137, 3) := by decide +kernel
theorem dX8_replaceIf_23 : decode cX8_replaceIf 23 = .ok (.iload_n 3, 1) := by decide +kernel
theorem dX8_replaceIf_24 : decode cX8_replaceIf 24 = .ok (.if_icmp .eq 5, 3) := by decide +kernel
theorem dX8_replaceIf_27 : decode cX8_replaceIf 27 = .ok (.iconst 0, 1) := by decide +kernel
theorem dX8_replaceIf_28 : decode cX8_replaceIf 28 = .ok (.ireturn, 1) := by decide +kernel
theorem dX8_replaceIf_29 : decode cX8_replaceIf 29 = .ok (.aload 5, 2) := by decide +kernel
theorem dX8_replaceIf_31 : decode cX8_replaceIf 31 = .ok (.iload_n 2, 1) := by decide +kernel
theorem dX8_replaceIf_32 : decode cX8_replaceIf 32 = .ok (.iload 4, 2) := by decide +kernel
theorem dX8_replaceIf_34 : decode cX8_replaceIf 34 = .ok (.invokevirtual 130, 3) := by decide +kernel
theorem dX8_replaceIf_37 : decode cX8_replaceIf 37 = .ok (.pop, 1) := by decide +kernel
theorem dX8_replaceIf_38 : decode cX8_replaceIf 38 = .ok (.iconst 1, 1) := by decide +kernel
theorem dX8_replaceIf_39 : decode cX8_replaceIf 39 = .ok (.ireturn, 1) := by decide +kernel
theorem dX8_removePair_0 : decode cX8_removePair 0 = .ok (.aload_n 0, 1) := by decide +kernel
theorem dX8_removePair_1 : decode cX8_removePair 1 = .ok (.iload_n 1, 1) := by decide +kernel
theorem dX8_removePair_2 : decode cX8_removePair 2 = .ok (.iload_n 2, 1) := by decide +kernel
theorem dX8_removePair_3 : decode cX8_removePair 3 = .ok (.invokevirtual 126, 3) := by decide +kernel
theorem dX8_removePair_6 : decode cX8_removePair 6 = .ok (.astore 4, 2) := by decide +kernel
theorem dX8_removePair_8 : decode cX8_removePair 8 = .ok (.iload_n 3, 1) := by decide +kernel
theorem dX8_removePair_9 : decode cX8_removePair 9 = .ok (.invokestatic 50, 3) := by decide +kernel
theorem dX8_removePair_12 : decode cX8_removePair 12 = .ok (.aload 4, 2) := by decide +kernel
theorem dX8_removePair_14 : decode cX8_removePair 14 = .ok (.iload_n 2, 1) := by decide +kernel
theorem dX8_removePair_15 : decode cX8_removePair 15 = .ok (.invokevirtual 137, 3) := by decide +kernel
theorem dX8_removePair_18 : decode cX8_removePair 18 = .ok (.iload_n 3, 1) := by decide +kernel
theorem dX8_removePair_19 : decode cX8_removePair 19 = .ok (.if_icmp .eq 5, 3) := by decide +kernel
theorem dX8_removePair_22 : decode cX8_removePair 22 = .ok (.iconst 0, 1) := by decide +kernel
theorem dX8_removePair_23 : decode cX8_removePair 23 = .ok (.ireturn, 1) := by decide +kernel
theorem dX8_removePair_24 : decode cX8_removePair 24 = .ok (.aload 4, 2) := by decide +kernel
theorem dX8_removePair_26 : decode cX8_removePair 26 = .ok (.iload_n 2, 1) := by decide +kernel
theorem dX8_removePair_27 : decode cX8_removePair 27 = .ok (.invokevirtual 134, 3) := by decide +kernel
theorem dX8_removePair_30 : decode cX8_removePair 30 = .ok (.pop, 1) := by decide +kernel
theorem dX8_removePair_31 : decode cX8_removePair 31 = .ok (.iconst 1, 1) := by decide +kernel
theorem dX8_removePair_32 : decode cX8_removePair 32 = .ok (.ireturn, 1) := by decide +kernel
theorem dX8_computeIfAbsent_0 : decode cX8_computeIfAbsent 0 = .ok (.aload_n 0, 1) := by decide +kernel
theorem dX8_computeIfAbsent_1 : decode cX8_computeIfAbsent 1 = .ok (.iload_n 1, 1) := by decide +kernel
theorem dX8_computeIfAbsent_2 : decode cX8_computeIfAbsent 2 = .ok (.iload_n 2, 1) := by decide +kernel
theorem dX8_computeIfAbsent_3 : decode cX8_computeIfAbsent 3 = .ok (.iload_n 3, 1) := by decide +kernel
theorem dX8_computeIfAbsent_4 : decode cX8_computeIfAbsent 4 = .ok (.iload 4, 2) := by decide +kernel
theorem dX8_computeIfAbsent_6 : decode cX8_computeIfAbsent 6 = .ok (.invokevirtual 140, 3) := by decide +kernel
theorem dX8_computeIfAbsent_9 : decode cX8_computeIfAbsent 9 = .ok (.astore 5, 2) := by decide +kernel
theorem dX8_computeIfAbsent_11 : decode cX8_computeIfAbsent 11 = .ok (.aload_n 0, 1) := by decide +kernel
theorem dX8_computeIfAbsent_12 : decode cX8_computeIfAbsent 12 = .ok (.aload 5, 2) := by decide +kernel
theorem dX8_computeIfAbsent_14 : decode cX8_computeIfAbsent 14 = .ok (.iload_n 2, 1) := by decide +kernel
theorem dX8_computeIfAbsent_15 : decode cX8_computeIfAbsent 15 = .ok (.iload_n 3, 1) := by decide +kernel
theorem dX8_computeIfAbsent_16 : decode cX8_computeIfAbsent 16 = .ok (.iload 4, 2) := by decide +kernel
theorem dX8_computeIfAbsent_18 : decode cX8_computeIfAbsent 18 = .ok (.invokevirtual 144, 3) := by decide +kernel
theorem dX8_computeIfAbsent_21 : decode cX8_computeIfAbsent 21 = .ok (.invokevirtual 100, 3) := by decide +kernel
theorem dX8_computeIfAbsent_24 : decode cX8_computeIfAbsent 24 = .ok (.ireturn, 1) := by decide +kernel
theorem dX8_computeIfPresent_0 : decode cX8_computeIfPresent 0 = .ok (.aload_n 0, 1) := by decide +kernel
theorem dX8_computeIfPresent_1 : decode cX8_computeIfPresent 1 = .ok (.iload_n 1, 1) := by decide +kernel
theorem dX8_computeIfPresent_2 : decode cX8_computeIfPresent 2 = .ok (.iload_n 2, 1) := by decide +kernel
theorem dX8_computeIfPresent_3 : decode cX8_computeIfPresent 3 = .ok (.iload_n 3, 1) := by decide +kernel
theorem dX8_computeIfPresent_4 : decode cX8_computeIfPresent 4 = .ok (.iload 4, 2) := by decide +kernel
theorem dX8_computeIfPresent_6 : decode cX8_computeIfPresent 6 = .ok (.invokevirtual 140, 3) := by decide +kernel
theorem dX8_computeIfPresent_9 : decode cX8_computeIfPresent 9 = .ok (.astore 5, 2) := by decide +kernel
theorem dX8_computeIfPresent_11 : decode cX8_computeIfPresent 11 = .ok (.aload_n 0, 1) := by decide +kernel
theorem dX8_computeIfPresent_12 : decode cX8_computeIfPresent 12 = .ok (.aload 5, 2) := by decide +kernel
theorem dX8_computeIfPresent_14 : decode cX8_computeIfPresent 14 = .ok (.iload_n 2, 1) := by decide +kernel
theorem dX8_computeIfPresent_15 : decode cX8_computeIfPresent 15 = .ok (.iload_n 3, 1) := by decide +kernel
theorem dX8_computeIfPresent_16 : decode cX8_computeIfPresent 16 = .ok (.iload 4, 2) := by decide +kernel
theorem dX8_computeIfPresent_18 : decode cX8_computeIfPresent 18 = .ok (.invokevirtual 148, 3) := by decide +kernel
theorem dX8_computeIfPresent_21 : decode cX8_computeIfPresent 21 = .ok (.invokevirtual 100, 3) := by decide +kernel
theorem dX8_computeIfPresent_24 : decode cX8_computeIfPresent 24 = .ok (.ireturn, 1) := by decide +kernel
theorem dX8_compute_0 : decode cX8_compute 0 = .ok (.aload_n 0, 1) := by decide +kernel
theorem dX8_compute_1 : decode cX8_compute 1 = .ok (.iload_n 1, 1) := by decide +kernel
theorem dX8_compute_2 : decode cX8_compute 2 = .ok (.iload_n 2, 1) := by decide +kernel
theorem dX8_compute_3 : decode cX8_compute 3 = .ok (.iload_n 3, 1) := by decide +kernel
theorem dX8_compute_4 : decode cX8_compute 4 = .ok (.iload 4, 2) := by decide +kernel
theorem dX8_compute_6 : decode cX8_compute 6 = .ok (.invokevirtual 140, 3) := by decide +kernel
theorem dX8_compute_9 : decode cX8_compute 9 = .ok (.astore 5, 2) := by decide +kernel
theorem dX8_compute_11 : decode cX8_compute 11 = .ok (.aload_n 0, 1) := by decide +kernel
theorem dX8_compute_12 : decode cX8_compute 12 = .ok (.aload 5, 2) := by decide +kernel
theorem dX8_compute_14 : decode cX8_compute 14 = .ok (.iload_n 2, 1) := by decide +kernel
theorem dX8_compute_15 : decode cX8_compute 15 = .ok (.iload_n 3, 1) := by decide +kernel
theorem dX8_compute_16 : decode cX8_compute 16 = .ok (.iload 4, 2) := by decide +kernel
theorem dX8_compute_18 : decode cX8_compute 18 = .ok (.invokevirtual 151, 3) := by decide +kernel
theorem dX8_compute_21 : decode cX8_compute 21 = .ok (.invokevirtual 100, 3) := by decide +kernel
theorem dX8_compute_24 : decode cX8_compute 24 = .ok (.ireturn, 1) := by decide +kernel
theorem dX8_merge_0 : decode cX8_merge 0 = .ok (.aload_n 0, 1) := by decide +kernel
theorem dX8_merge_1 : decode cX8_merge 1 = .ok (.iload_n 1, 1) := by decide +kernel
theorem dX8_merge_2 : decode cX8_merge 2 = .ok (.iload_n 2, 1) := by decide +kernel
theorem dX8_merge_3 : decode cX8_merge 3 = .ok (.iload 4, 2) := by decide +kernel
theorem dX8_merge_5 : decode cX8_merge 5 = .ok (.iload_n 3, 1) := by decide +kernel
theorem dX8_merge_6 : decode cX8_merge 6 = .ok (.invokevirtual 140, 3) := by decide +kernel
theorem dX8_merge_9 : decode cX8_merge 9 = .ok (.astore 5, 2) := by decide +kernel
theorem dX8_merge_11 : decode cX8_merge 11 = .ok (.aload_n 0, 1) := by decide +kernel
theorem dX8_merge_12 : decode cX8_merge 12 = .ok (.aload 5, 2) := by decide +kernel
theorem dX8_merge_14 : decode cX8_merge 14 = .ok (.iload_n 2, 1) := by decide +kernel
theorem dX8_merge_15 : decode cX8_merge 15 = .ok (.iload_n 3, 1) := by decide +kernel
theorem dX8_merge_16 : decode cX8_merge 16 = .ok (.iload 4, 2) := by decide +kernel
theorem dX8_merge_18 : decode cX8_merge 18 = .ok (.invokevirtual 154, 3) := by decide +kernel
theorem dX8_merge_21 : decode cX8_merge 21 = .ok (.invokevirtual 100, 3) := by decide +kernel
theorem dX8_merge_24 : decode cX8_merge 24 = .ok (.ireturn, 1) := by decide +kernel
theorem dX8_hearTable_0 : decode cX8_hearTable 0 = .ok (.aload_n 0, 1) := by decide +kernel
theorem dX8_hearTable_1 : decode cX8_hearTable 1 = .ok (.iload_n 1, 1) := by decide +kernel
theorem dX8_hearTable_2 : decode cX8_hearTable 2 = .ok (.invokevirtual 157, 3) := by decide +kernel
theorem dX8_hearTable_5 : decode cX8_hearTable 5 = .ok (.astore_n 3, 1) := by decide +kernel
theorem dX8_hearTable_6 : decode cX8_hearTable 6 = .ok (.aload_n 0, 1) := by decide +kernel
theorem dX8_hearTable_7 : decode cX8_hearTable 7 = .ok (.iload_n 2, 1) := by decide +kernel
theorem dX8_hearTable_8 : decode cX8_hearTable 8 = .ok (.invokevirtual 87, 3) := by decide +kernel
theorem dX8_hearTable_11 : decode cX8_hearTable 11 = .ok (.astore 4, 2) := by decide +kernel
theorem dX8_hearTable_13 : decode cX8_hearTable 13 = .ok (.aload_n 0, 1) := by decide +kernel
theorem dX8_hearTable_14 : decode cX8_hearTable 14 = .ok (.new 160, 3) := by decide +kernel
theorem dX8_hearTable_17 : decode cX8_hearTable 17 = .ok (.dup, 1) := by decide +kernel
theorem dX8_hearTable_18 : decode cX8_hearTable 18 = .ok (.aload_n 3, 1) := by decide +kernel
theorem dX8_hearTable_19 : decode cX8_hearTable 19 = .ok (.invokespecial 162, 3) := by decide +kernel
theorem dX8_hearTable_22 : decode cX8_hearTable 22 = .ok (.aload 4, 2) := by decide +kernel
theorem dX8_hearTable_24 : decode cX8_hearTable 24 = .ok (.invokestatic 96, 3) := by decide +kernel
theorem dX8_hearTable_27 : decode cX8_hearTable 27 = .ok (.invokevirtual 100, 3) := by decide +kernel
theorem dX8_hearTable_30 : decode cX8_hearTable 30 = .ok (.ireturn, 1) := by decide +kernel
theorem dX8_replaceTable_0 : decode cX8_replaceTable 0 = .ok (.aload_n 0, 1) := by decide +kernel
theorem dX8_replaceTable_1 : decode cX8_replaceTable 1 = .ok (.iload_n 1, 1) := by decide +kernel
theorem dX8_replaceTable_2 : decode cX8_replaceTable 2 = .ok (.invokevirtual 157, 3) := by decide +kernel
theorem dX8_replaceTable_5 : decode cX8_replaceTable 5 = .ok (.astore 4, 2) := by decide +kernel
theorem dX8_replaceTable_7 : decode cX8_replaceTable 7 = .ok (.iload_n 2, 1) := by decide +kernel
theorem dX8_replaceTable_8 : decode cX8_replaceTable 8 = .ok (.ifCond .eq 18, 3) := by decide +kernel
theorem dX8_replaceTable_11 : decode cX8_replaceTable 11 = .ok (.iload_n 2, 1) := by decide +kernel
theorem dX8_replaceTable_12 : decode cX8_replaceTable 12 = .ok (.iconst 1, 1) := by decide +kernel
theorem dX8_replaceTable_13 : decode cX8_replaceTable 13 = .ok (.if_icmp .eq 13, 3) := by decide +kernel
theorem dX8_replaceTable_16 : decode cX8_replaceTable 16 = .ok (.iload_n 2, 1) := by decide +kernel
theorem dX8_replaceTable_17 : decode cX8_replaceTable 17 = .ok (.iconst 4, 1) := by decide +kernel
theorem dX8_replaceTable_18 : decode cX8_replaceTable 18 = .ok (.if_icmp .eq 8, 3) := by decide +kernel
theorem dX8_replaceTable_21 : decode cX8_replaceTable 21 = .ok (.iload_n 2, 1) := by decide +kernel
theorem dX8_replaceTable_22 : decode cX8_replaceTable 22 = .ok (.iconst 5, 1) := by decide +kernel
theorem dX8_replaceTable_23 : decode cX8_replaceTable 23 = .ok (.if_icmp .ne 7, 3) := by decide +kernel
theorem dX8_replaceTable_26 : decode cX8_replaceTable 26 = .ok (.iconst 1, 1) := by decide +kernel
theorem dX8_replaceTable_27 : decode cX8_replaceTable 27 = .ok (.goto 4, 3) := by decide +kernel
theorem dX8_replaceTable_30 : decode cX8_replaceTable 30 = .ok (.iconst 0, 1) := by decide +kernel
theorem dX8_replaceTable_31 : decode cX8_replaceTable 31 = .ok (.invokestatic 112, 3) := by decide +kernel
theorem dX8_replaceTable_34 : decode cX8_replaceTable 34 = .ok (.iload_n 3, 1) := by decide +kernel
theorem dX8_replaceTable_35 : decode cX8_replaceTable 35 = .ok (.invokestatic 50, 3) := by decide +kernel
theorem dX8_replaceTable_38 : decode cX8_replaceTable 38 = .ok (.new 160, 3) := by decide +kernel
theorem dX8_replaceTable_41 : decode cX8_replaceTable 41 = .ok (.dup, 1) := by decide +kernel
theorem dX8_replaceTable_42 : decode cX8_replaceTable 42 = .ok (.aload 4, 2) := by decide +kernel
theorem dX8_replaceTable_44 : decode cX8_replaceTable 44 = .ok (.invokespecial 162, 3) := by decide +kernel
theorem dX8_replaceTable_47 : decode cX8_replaceTable 47 = .ok (.iload_n 2, 1) := by decide +kernel
theorem dX8_replaceTable_48 : decode cX8_replaceTable 48 = .ok (.iload_n 3, 1) := by decide +kernel
theorem dX8_replaceTable_49 : decode cX8_replaceTable 49 = .ok (.invokestatic 115, 3) := by decide +kernel
theorem dX8_replaceTable_52 : decode cX8_replaceTable 52 = .ok (.istore 5, 2) := by decide +kernel
theorem dX8_replaceTable_54 : decode cX8_replaceTable 54 = .ok (.iload 5, 2) := by decide +kernel
theorem dX8_replaceTable_56 : decode cX8_replaceTable 56 = .ok (.ifCond .eq 11, 3) := by decide +kernel
theorem dX8_replaceTable_59 : decode cX8_replaceTable 59 = .ok (.aload 4, 2) := by decide +kernel
theorem dX8_replaceTable_61 : decode cX8_replaceTable 61 = .ok (.getfield 165, 3) := by decide +kernel
theorem dX8_replaceTable_64 : decode cX8_replaceTable 64 = .ok (.goto 7, 3) := by decide +kernel
theorem dX8_replaceTable_67 : decode cX8_replaceTable 67 = .ok (.aload_n 0, 1) := by decide +kernel
theorem dX8_replaceTable_68 : decode cX8_replaceTable 68 = .ok (.invokevirtual 119, 3) := by decide +kernel
theorem dX8_replaceTable_71 : decode cX8_replaceTable 71 = .ok (.ireturn, 1) := by decide +kernel
theorem dX8_clear_0 : decode cX8_clear 0 = .ok (.aload_n 0, 1) := by decide +kernel
theorem dX8_clear_1 : decode cX8_clear 1 = .ok (.iload_n 1, 1) := by decide +kernel
theorem dX8_clear_2 : decode cX8_clear 2 = .ok (.invokevirtual 157, 3) := by decide +kernel
theorem dX8_clear_5 : decode cX8_clear 5 = .ok (.invokevirtual 166, 3) := by decide +kernel
theorem dX8_clear_8 : decode cX8_clear 8 = .ok (.ireturn, 1) := by decide +kernel
theorem dX8_hearSpan_0 : decode cX8_hearSpan 0 = .ok (.aload_n 0, 1) := by decide +kernel
theorem dX8_hearSpan_1 : decode cX8_hearSpan 1 = .ok (.iload 4, 2) := by decide +kernel
theorem dX8_hearSpan_3 : decode cX8_hearSpan 3 = .ok (.invokevirtual 87, 3) := by decide +kernel
theorem dX8_hearSpan_6 : decode cX8_hearSpan 6 = .ok (.astore 5, 2) := by decide +kernel
theorem dX8_hearSpan_8 : decode cX8_hearSpan 8 = .ok (.iload_n 1, 1) := by decide +kernel
theorem dX8_hearSpan_9 : decode cX8_hearSpan 9 = .ok (.iload_n 2, 1) := by decide +kernel
theorem dX8_hearSpan_10 : decode cX8_hearSpan 10 = .ok (.iload_n 3, 1) := by decide +kernel
theorem dX8_hearSpan_11 : decode cX8_hearSpan 11 = .ok (.invokestatic 169, 3) := by decide +kernel
theorem dX8_hearSpan_14 : decode cX8_hearSpan 14 = .ok (.aload_n 0, 1) := by decide +kernel
theorem dX8_hearSpan_15 : decode cX8_hearSpan 15 = .ok (.new 172, 3) := by decide +kernel
theorem dX8_hearSpan_18 : decode cX8_hearSpan 18 = .ok (.dup, 1) := by decide +kernel
theorem dX8_hearSpan_19 : decode cX8_hearSpan 19 = .ok (.iload_n 1, 1) := by decide +kernel
theorem dX8_hearSpan_20 : decode cX8_hearSpan 20 = .ok (.iload_n 2, 1) := by decide +kernel
theorem dX8_hearSpan_21 : decode cX8_hearSpan 21 = .ok (.iload_n 3, 1) := by decide +kernel
theorem dX8_hearSpan_22 : decode cX8_hearSpan 22 = .ok (.invokespecial 174, 3) := by decide +kernel
theorem dX8_hearSpan_25 : decode cX8_hearSpan 25 = .ok (.aload 5, 2) := by decide +kernel
theorem dX8_hearSpan_27 : decode cX8_hearSpan 27 = .ok (.invokestatic 96, 3) := by decide +kernel
theorem dX8_hearSpan_30 : decode cX8_hearSpan 30 = .ok (.invokevirtual 100, 3) := by decide +kernel
theorem dX8_hearSpan_33 : decode cX8_hearSpan 33 = .ok (.ireturn, 1) := by decide +kernel
theorem dX8_hearSteps_0 : decode cX8_hearSteps 0 = .ok (.aload_n 0, 1) := by decide +kernel
theorem dX8_hearSteps_1 : decode cX8_hearSteps 1 = .ok (.iload 5, 2) := by decide +kernel
theorem dX8_hearSteps_3 : decode cX8_hearSteps 3 = .ok (.invokevirtual 87, 3) := by decide +kernel
theorem dX8_hearSteps_6 : decode cX8_hearSteps 6 = .ok (.astore 6, 2) := by decide +kernel
theorem dX8_hearSteps_8 : decode cX8_hearSteps 8 = .ok (.iload_n 1, 1) := by decide +kernel
theorem dX8_hearSteps_9 : decode cX8_hearSteps 9 = .ok (.iload_n 2, 1) := by decide +kernel
theorem dX8_hearSteps_10 : decode cX8_hearSteps 10 = .ok (.iload_n 3, 1) := by decide +kernel
theorem dX8_hearSteps_11 : decode cX8_hearSteps 11 = .ok (.invokestatic 169, 3) := by decide +kernel
theorem dX8_hearSteps_14 : decode cX8_hearSteps 14 = .ok (.iload 4, 2) := by decide +kernel
theorem dX8_hearSteps_16 : decode cX8_hearSteps 16 = .ok (.iconst 0, 1) := by decide +kernel
theorem dX8_hearSteps_17 : decode cX8_hearSteps 17 = .ok (.iload_n 1, 1) := by decide +kernel
theorem dX8_hearSteps_18 : decode cX8_hearSteps 18 = .ok (.iload_n 2, 1) := by decide +kernel
theorem dX8_hearSteps_19 : decode cX8_hearSteps 19 = .ok (.iload_n 3, 1) := by decide +kernel
theorem dX8_hearSteps_20 : decode cX8_hearSteps 20 = .ok (.invokestatic 176, 3) := by decide +kernel
theorem dX8_hearSteps_23 : decode cX8_hearSteps 23 = .ok (.invokestatic 72, 3) := by decide +kernel
theorem dX8_hearSteps_26 : decode cX8_hearSteps 26 = .ok (.new 172, 3) := by decide +kernel
theorem dX8_hearSteps_29 : decode cX8_hearSteps 29 = .ok (.dup, 1) := by decide +kernel
theorem dX8_hearSteps_30 : decode cX8_hearSteps 30 = .ok (.iload_n 1, 1) := by decide +kernel
theorem dX8_hearSteps_31 : decode cX8_hearSteps 31 = .ok (.iload_n 2, 1) := by decide +kernel
theorem dX8_hearSteps_32 : decode cX8_hearSteps 32 = .ok (.iload_n 3, 1) := by decide +kernel
theorem dX8_hearSteps_33 : decode cX8_hearSteps 33 = .ok (.invokespecial 174, 3) := by decide +kernel
theorem dX8_hearSteps_36 : decode cX8_hearSteps 36 = .ok (.astore 7, 2) := by decide +kernel
theorem dX8_hearSteps_38 : decode cX8_hearSteps 38 = .ok (.aload 7, 2) := by decide +kernel
theorem dX8_hearSteps_40 : decode cX8_hearSteps 40 = .ok (.iload 4, 2) := by decide +kernel
theorem dX8_hearSteps_42 : decode cX8_hearSteps 42 = .ok (.invokestatic 104, 3) := by decide +kernel
theorem dX8_hearSteps_45 : decode cX8_hearSteps 45 = .ok (.aload_n 0, 1) := by decide +kernel
theorem dX8_hearSteps_46 : decode cX8_hearSteps 46 = .ok (.aload 7, 2) := by decide +kernel
theorem dX8_hearSteps_48 : decode cX8_hearSteps 48 = .ok (.aload 6, 2) := by decide +kernel
theorem dX8_hearSteps_50 : decode cX8_hearSteps 50 = .ok (.invokestatic 96, 3) := by decide +kernel
theorem dX8_hearSteps_53 : decode cX8_hearSteps 53 = .ok (.invokevirtual 100, 3) := by decide +kernel
theorem dX8_hearSteps_56 : decode cX8_hearSteps 56 = .ok (.ireturn, 1) := by decide +kernel
theorem dX8_takeStep_0 : decode cX8_takeStep 0 = .ok (.iload_n 2, 1) := by decide +kernel
theorem dX8_takeStep_1 : decode cX8_takeStep 1 = .ok (.invokestatic 50, 3) := by decide +kernel
theorem dX8_takeStep_4 : decode cX8_takeStep 4 = .ok (.iload_n 1, 1) := by decide +kernel
theorem dX8_takeStep_5 : decode cX8_takeStep 5 = .ok (.sipush (-999), 3) := by decide +kernel
theorem dX8_takeStep_8 : decode cX8_takeStep 8 = .ok (.iload_n 2, 1) := by decide +kernel
theorem dX8_takeStep_9 : decode cX8_takeStep 9 = .ok (.invokestatic 72, 3) := by decide +kernel
theorem dX8_takeStep_12 : decode cX8_takeStep 12 = .ok (.aload_n 0, 1) := by decide +kernel
theorem dX8_takeStep_13 : decode cX8_takeStep 13 = .ok (.invokevirtual 119, 3) := by decide +kernel
theorem dX8_takeStep_16 : decode cX8_takeStep 16 = .ok (.ireturn, 1) := by decide +kernel
theorem dX8_stop_0 : decode cX8_stop 0 = .ok (.aload_n 0, 1) := by decide +kernel
theorem dX8_stop_1 : decode cX8_stop 1 = .ok (.iload_n 1, 1) := by decide +kernel
theorem dX8_stop_2 : decode cX8_stop 2 = .ok (.invokevirtual 87, 3) := by decide +kernel
theorem dX8_stop_5 : decode cX8_stop 5 = .ok (.astore_n 3, 1) := by decide +kernel
theorem dX8_stop_6 : decode cX8_stop 6 = .ok (.iload_n 2, 1) := by decide +kernel
theorem dX8_stop_7 : decode cX8_stop 7 = .ok (.sipush (-1000), 3) := by decide +kernel
theorem dX8_stop_10 : decode cX8_stop 10 = .ok (.ldc 179, 2) := by decide +kernel
theorem dX8_stop_12 : decode cX8_stop 12 = .ok (.invokestatic 72, 3) := by decide +kernel
theorem dX8_stop_15 : decode cX8_stop 15 = .ok (.aload_n 3, 1) := by decide +kernel
theorem dX8_stop_16 : decode cX8_stop 16 = .ok (.getfield 180, 3) := by decide +kernel
theorem dX8_stop_19 : decode cX8_stop 19 = .ok (.istore 4, 2) := by decide +kernel
theorem dX8_stop_21 : decode cX8_stop 21 = .ok (.aload_n 3, 1) := by decide +kernel
theorem dX8_stop_22 : decode cX8_stop 22 = .ok (.iload_n 2, 1) := by decide +kernel
theorem dX8_stop_23 : decode cX8_stop 23 = .ok (.putfield 180, 3) := by decide +kernel
theorem dX8_stop_26 : decode cX8_stop 26 = .ok (.iload 4, 2) := by decide +kernel
theorem dX8_stop_28 : decode cX8_stop 28 = .ok (.ireturn, 1) := by decide +kernel
theorem dX8_forget_0 : decode cX8_forget 0 = .ok (.aload_n 0, 1) := by decide +kernel
theorem dX8_forget_1 : decode cX8_forget 1 = .ok (.iload_n 1, 1) := by decide +kernel
theorem dX8_forget_2 : decode cX8_forget 2 = .ok (.invokevirtual 87, 3) := by decide +kernel
theorem dX8_forget_5 : decode cX8_forget 5 = .ok (.astore_n 2, 1) := by decide +kernel
theorem dX8_forget_6 : decode cX8_forget 6 = .ok (.aload_n 2, 1) := by decide +kernel
theorem dX8_forget_7 : decode cX8_forget 7 = .ok (.getfield 183, 3) := by decide +kernel
theorem dX8_forget_10 : decode cX8_forget 10 = .ok (.istore_n 3, 1) := by decide +kernel
theorem dX8_forget_11 : decode cX8_forget 11 = .ok (.aload_n 2, 1) := by decide +kernel
theorem dX8_forget_12 : decode cX8_forget 12 = .ok (.invokevirtual 184, 3) := by decide +kernel
theorem dX8_forget_15 : decode cX8_forget 15 = .ok (.iload_n 3, 1) := by decide +kernel
theorem dX8_forget_16 : decode cX8_forget 16 = .ok (.ireturn, 1) := by decide +kernel
theorem dX8_heard_0 : decode cX8_heard 0 = .ok (.aload_n 0, 1) := by decide +kernel
theorem dX8_heard_1 : decode cX8_heard 1 = .ok (.iload_n 1, 1) := by decide +kernel
theorem dX8_heard_2 : decode cX8_heard 2 = .ok (.invokevirtual 87, 3) := by decide +kernel
theorem dX8_heard_5 : decode cX8_heard 5 = .ok (.astore_n 3, 1) := by decide +kernel
theorem dX8_heard_6 : decode cX8_heard 6 = .ok (.iload_n 2, 1) := by decide +kernel
theorem dX8_heard_7 : decode cX8_heard 7 = .ok (.iconst 0, 1) := by decide +kernel
theorem dX8_heard_8 : decode cX8_heard 8 = .ok (.iconst 3, 1) := by decide +kernel
theorem dX8_heard_9 : decode cX8_heard 9 = .ok (.invokestatic 72, 3) := by decide +kernel
theorem dX8_heard_12 : decode cX8_heard 12 = .ok (.aload_n 3, 1) := by decide +kernel
theorem dX8_heard_13 : decode cX8_heard 13 = .ok (.iload_n 2, 1) := by decide +kernel
theorem dX8_heard_14 : decode cX8_heard 14 = .ok (.invokevirtual 187, 3) := by decide +kernel
theorem dX8_heard_17 : decode cX8_heard 17 = .ok (.ireturn, 1) := by decide +kernel
theorem dX8_heardText_0 : decode cX8_heardText 0 = .ok (.aload_n 0, 1) := by decide +kernel
theorem dX8_heardText_1 : decode cX8_heardText 1 = .ok (.iload_n 1, 1) := by decide +kernel
theorem dX8_heardText_2 : decode cX8_heardText 2 = .ok (.invokevirtual 87, 3) := by decide +kernel
theorem dX8_heardText_5 : decode cX8_heardText 5 = .ok (.invokevirtual 190, 3) := by decide +kernel
theorem dX8_heardText_8 : decode cX8_heardText 8 = .ok (.areturn, 1) := by decide +kernel
theorem dX8_length_0 : decode cX8_length 0 = .ok (.aload_n 0, 1) := by decide +kernel
theorem dX8_length_1 : decode cX8_length 1 = .ok (.iload_n 1, 1) := by decide +kernel
theorem dX8_length_2 : decode cX8_length 2 = .ok (.invokevirtual 46, 3) := by decide +kernel
theorem dX8_length_5 : decode cX8_length 5 = .ok (.getfield 68, 3) := by decide +kernel
theorem dX8_length_8 : decode cX8_length 8 = .ok (.ireturn, 1) := by decide +kernel
theorem dX8_at_0 : decode cX8_at 0 = .ok (.aload_n 0, 1) := by decide +kernel
theorem dX8_at_1 : decode cX8_at 1 = .ok (.iload_n 1, 1) := by decide +kernel
theorem dX8_at_2 : decode cX8_at 2 = .ok (.invokevirtual 46, 3) := by decide +kernel
theorem dX8_at_5 : decode cX8_at 5 = .ok (.astore_n 3, 1) := by decide +kernel
theorem dX8_at_6 : decode cX8_at 6 = .ok (.aload_n 3, 1) := by decide +kernel
theorem dX8_at_7 : decode cX8_at 7 = .ok (.iload_n 2, 1) := by decide +kernel
theorem dX8_at_8 : decode cX8_at 8 = .ok (.invokevirtual 194, 3) := by decide +kernel
theorem dX8_at_11 : decode cX8_at 11 = .ok (.ifCond .ne 13, 3) := by decide +kernel
theorem dX8_at_14 : decode cX8_at 14 = .ok (.new 198, 3) := by decide +kernel
theorem dX8_at_17 : decode cX8_at 17 = .ok (.dup, 1) := by decide +kernel
theorem dX8_at_18 : decode cX8_at 18 = .ok (.ldc 200, 2) := by decide +kernel
theorem dX8_at_20 : decode cX8_at 20 = .ok (.invokespecial 202, 3) := by decide +kernel
theorem dX8_at_23 : decode cX8_at 23 = .ok (.athrow, 1) := by decide +kernel
theorem dX8_at_24 : decode cX8_at 24 = .ok (.aload_n 3, 1) := by decide +kernel
theorem dX8_at_25 : decode cX8_at 25 = .ok (.iload_n 2, 1) := by decide +kernel
theorem dX8_at_26 : decode cX8_at 26 = .ok (.invokevirtual 203, 3) := by decide +kernel
theorem dX8_at_29 : decode cX8_at 29 = .ok (.ireturn, 1) := by decide +kernel
theorem dX8_rowText_0 : decode cX8_rowText 0 = .ok (.aload_n 0, 1) := by decide +kernel
theorem dX8_rowText_1 : decode cX8_rowText 1 = .ok (.iload_n 1, 1) := by decide +kernel
theorem dX8_rowText_2 : decode cX8_rowText 2 = .ok (.invokevirtual 46, 3) := by decide +kernel
theorem dX8_rowText_5 : decode cX8_rowText 5 = .ok (.astore_n 2, 1) := by decide +kernel
theorem dX8_rowText_6 : decode cX8_rowText 6 = .ok (.aload_n 2, 1) := by decide +kernel
theorem dX8_rowText_7 : decode cX8_rowText 7 = .ok (.getfield 206, 3) := by decide +kernel
theorem dX8_rowText_10 : decode cX8_rowText 10 = .ok (.aload_n 2, 1) := by decide +kernel
theorem dX8_rowText_11 : decode cX8_rowText 11 = .ok (.getfield 68, 3) := by decide +kernel
theorem dX8_rowText_14 : decode cX8_rowText 14 = .ok (.invokestatic 210, 3) := by decide +kernel
theorem dX8_rowText_17 : decode cX8_rowText 17 = .ok (.areturn, 1) := by decide +kernel
theorem dX8_isFixed_0 : decode cX8_isFixed 0 = .ok (.aload_n 0, 1) := by decide +kernel
theorem dX8_isFixed_1 : decode cX8_isFixed 1 = .ok (.iload_n 1, 1) := by decide +kernel
theorem dX8_isFixed_2 : decode cX8_isFixed 2 = .ok (.invokevirtual 46, 3) := by decide +kernel
theorem dX8_isFixed_5 : decode cX8_isFixed 5 = .ok (.getfield 79, 3) := by decide +kernel
theorem dX8_isFixed_8 : decode cX8_isFixed 8 = .ok (.ireturn, 1) := by decide +kernel
theorem dX8_counts_0 : decode cX8_counts 0 = .ok (.aload_n 0, 1) := by decide +kernel
theorem dX8_counts_1 : decode cX8_counts 1 = .ok (.iload_n 1, 1) := by decide +kernel
theorem dX8_counts_2 : decode cX8_counts 2 = .ok (.invokevirtual 46, 3) := by decide +kernel
theorem dX8_counts_5 : decode cX8_counts 5 = .ok (.astore_n 3, 1) := by decide +kernel
theorem dX8_counts_6 : decode cX8_counts 6 = .ok (.iload_n 2, 1) := by decide +kernel
theorem dX8_counts_7 : decode cX8_counts 7 = .ok (.iconst 0, 1) := by decide +kernel
theorem dX8_counts_8 : decode cX8_counts 8 = .ok (.iconst 4, 1) := by decide +kernel
theorem dX8_counts_9 : decode cX8_counts 9 = .ok (.invokestatic 72, 3) := by decide +kernel
theorem dX8_counts_12 : decode cX8_counts 12 = .ok (.aload_n 3, 1) := by decide +kernel
theorem dX8_counts_13 : decode cX8_counts 13 = .ok (.getfield 214, 3) := by decide +kernel
theorem dX8_counts_16 : decode cX8_counts 16 = .ok (.iload_n 2, 1) := by decide +kernel
theorem dX8_counts_17 : decode cX8_counts 17 = .ok (.invokevirtual 218, 3) := by decide +kernel
theorem dX8_counts_20 : decode cX8_counts 20 = .ok (.ireturn, 1) := by decide +kernel
theorem dX8_shelfCounts_0 : decode cX8_shelfCounts 0 = .ok (.iload_n 1, 1) := by decide +kernel
theorem dX8_shelfCounts_1 : decode cX8_shelfCounts 1 = .ok (.iconst 0, 1) := by decide +kernel
theorem dX8_shelfCounts_2 : decode cX8_shelfCounts 2 = .ok (.bipush 6, 2) := by decide +kernel
theorem dX8_shelfCounts_4 : decode cX8_shelfCounts 4 = .ok (.invokestatic 72, 3) := by decide +kernel
theorem dX8_shelfCounts_7 : decode cX8_shelfCounts 7 = .ok (.aload_n 0, 1) := by decide +kernel
theorem dX8_shelfCounts_8 : decode cX8_shelfCounts 8 = .ok (.getfield 21, 3) := by decide +kernel
theorem dX8_shelfCounts_11 : decode cX8_shelfCounts 11 = .ok (.getfield 223, 3) := by decide +kernel
theorem dX8_shelfCounts_14 : decode cX8_shelfCounts 14 = .ok (.iload_n 1, 1) := by decide +kernel
theorem dX8_shelfCounts_15 : decode cX8_shelfCounts 15 = .ok (.invokevirtual 218, 3) := by decide +kernel
theorem dX8_shelfCounts_18 : decode cX8_shelfCounts 18 = .ok (.ireturn, 1) := by decide +kernel
theorem dX8_forgetCounts_0 : decode cX8_forgetCounts 0 = .ok (.aload_n 0, 1) := by decide +kernel
theorem dX8_forgetCounts_1 : decode cX8_forgetCounts 1 = .ok (.getfield 21, 3) := by decide +kernel
theorem dX8_forgetCounts_4 : decode cX8_forgetCounts 4 = .ok (.getfield 223, 3) := by decide +kernel
theorem dX8_forgetCounts_7 : decode cX8_forgetCounts 7 = .ok (.invokevirtual 224, 3) := by decide +kernel
theorem dX8_forgetCounts_10 : decode cX8_forgetCounts 10 = .ok (.istore_n 1, 1) := by decide +kernel
theorem dX8_forgetCounts_11 : decode cX8_forgetCounts 11 = .ok (.aload_n 0, 1) := by decide +kernel
theorem dX8_forgetCounts_12 : decode cX8_forgetCounts 12 = .ok (.getfield 10, 3) := by decide +kernel
theorem dX8_forgetCounts_15 : decode cX8_forgetCounts 15 = .ok (.astore_n 2, 1) := by decide +kernel
theorem dX8_forgetCounts_16 : decode cX8_forgetCounts 16 = .ok (.aload_n 2, 1) := by decide +kernel
theorem dX8_forgetCounts_17 : decode cX8_forgetCounts 17 = .ok (.arraylength, 1) := by decide +kernel
theorem dX8_forgetCounts_18 : decode cX8_forgetCounts 18 = .ok (.istore_n 3, 1) := by decide +kernel
theorem dX8_forgetCounts_19 : decode cX8_forgetCounts 19 = .ok (.iconst 0, 1) := by decide +kernel
theorem dX8_forgetCounts_20 : decode cX8_forgetCounts 20 = .ok (.istore 4, 2) := by decide +kernel
theorem dX8_forgetCounts_22 : decode cX8_forgetCounts 22 = .ok (.iload 4, 2) := by decide +kernel
theorem dX8_forgetCounts_24 : decode cX8_forgetCounts 24 = .ok (.iload_n 3, 1) := by decide +kernel
theorem dX8_forgetCounts_25 : decode cX8_forgetCounts 25 = .ok (.if_icmp .ge 26, 3) := by decide +kernel
theorem dX8_forgetCounts_28 : decode cX8_forgetCounts 28 = .ok (.aload_n 2, 1) := by decide +kernel
theorem dX8_forgetCounts_29 : decode cX8_forgetCounts 29 = .ok (.iload 4, 2) := by decide +kernel
theorem dX8_forgetCounts_31 : decode cX8_forgetCounts 31 = .ok (.aaload, 1) := by decide +kernel
theorem dX8_forgetCounts_32 : decode cX8_forgetCounts 32 = .ok (.astore 5, 2) := by decide +kernel
theorem dX8_forgetCounts_34 : decode cX8_forgetCounts 34 = .ok (.iload_n 1, 1) := by decide +kernel
theorem dX8_forgetCounts_35 : decode cX8_forgetCounts 35 = .ok (.aload 5, 2) := by decide +kernel
theorem dX8_forgetCounts_37 : decode cX8_forgetCounts 37 = .ok (.getfield 214, 3) := by decide +kernel
theorem dX8_forgetCounts_40 : decode cX8_forgetCounts 40 = .ok (.invokevirtual 224, 3) := by decide +kernel
theorem dX8_forgetCounts_43 : decode cX8_forgetCounts 43 = .ok (.iadd, 1) := by decide +kernel
theorem dX8_forgetCounts_44 : decode cX8_forgetCounts 44 = .ok (.istore_n 1, 1) := by decide +kernel
theorem dX8_forgetCounts_45 : decode cX8_forgetCounts 45 = .ok (.iinc 4 1, 3) := by decide +kernel
theorem dX8_forgetCounts_48 : decode cX8_forgetCounts 48 = .ok (.goto (-26), 3) := by decide +kernel
theorem dX8_forgetCounts_51 : decode cX8_forgetCounts 51 = .ok (.iload_n 1, 1) := by decide +kernel
theorem dX8_forgetCounts_52 : decode cX8_forgetCounts 52 = .ok (.ireturn, 1) := by decide +kernel
theorem dX8_get_0 : decode cX8_get 0 = .ok (.aload_n 0, 1) := by decide +kernel
theorem dX8_get_1 : decode cX8_get 1 = .ok (.iload_n 1, 1) := by decide +kernel
theorem dX8_get_2 : decode cX8_get 2 = .ok (.iload_n 2, 1) := by decide +kernel
theorem dX8_get_3 : decode cX8_get 3 = .ok (.invokevirtual 126, 3) := by decide +kernel
theorem dX8_get_6 : decode cX8_get 6 = .ok (.iload_n 2, 1) := by decide +kernel
theorem dX8_get_7 : decode cX8_get 7 = .ok (.invokevirtual 137, 3) := by decide +kernel
theorem dX8_get_10 : decode cX8_get 10 = .ok (.ireturn, 1) := by decide +kernel
theorem dX8_getOr_0 : decode cX8_getOr 0 = .ok (.aload_n 0, 1) := by decide +kernel
theorem dX8_getOr_1 : decode cX8_getOr 1 = .ok (.iload_n 1, 1) := by decide +kernel
theorem dX8_getOr_2 : decode cX8_getOr 2 = .ok (.iload_n 2, 1) := by decide +kernel
theorem dX8_getOr_3 : decode cX8_getOr 3 = .ok (.invokevirtual 126, 3) := by decide +kernel
theorem dX8_getOr_6 : decode cX8_getOr 6 = .ok (.astore 4, 2) := by decide +kernel
theorem dX8_getOr_8 : decode cX8_getOr 8 = .ok (.iload_n 3, 1) := by decide +kernel
theorem dX8_getOr_9 : decode cX8_getOr 9 = .ok (.invokestatic 50, 3) := by decide +kernel
theorem dX8_getOr_12 : decode cX8_getOr 12 = .ok (.aload 4, 2) := by decide +kernel
theorem dX8_getOr_14 : decode cX8_getOr 14 = .ok (.iload_n 2, 1) := by decide +kernel
theorem dX8_getOr_15 : decode cX8_getOr 15 = .ok (.invokevirtual 137, 3) := by decide +kernel
theorem dX8_getOr_18 : decode cX8_getOr 18 = .ok (.istore 5, 2) := by decide +kernel
theorem dX8_getOr_20 : decode cX8_getOr 20 = .ok (.iload 5, 2) := by decide +kernel
theorem dX8_getOr_22 : decode cX8_getOr 22 = .ok (.sipush (-1000), 3) := by decide +kernel
theorem dX8_getOr_25 : decode cX8_getOr 25 = .ok (.if_icmp .ne 7, 3) := by decide +kernel
theorem dX8_getOr_28 : decode cX8_getOr 28 = .ok (.iload_n 3, 1) := by decide +kernel
theorem dX8_getOr_29 : decode cX8_getOr 29 = .ok (.goto 5, 3) := by decide +kernel
theorem dX8_getOr_32 : decode cX8_getOr 32 = .ok (.iload 5, 2) := by decide +kernel
theorem dX8_getOr_34 : decode cX8_getOr 34 = .ok (.ireturn, 1) := by decide +kernel
theorem dX8_has_0 : decode cX8_has 0 = .ok (.aload_n 0, 1) := by decide +kernel
theorem dX8_has_1 : decode cX8_has 1 = .ok (.iload_n 1, 1) := by decide +kernel
theorem dX8_has_2 : decode cX8_has 2 = .ok (.iload_n 2, 1) := by decide +kernel
theorem dX8_has_3 : decode cX8_has 3 = .ok (.invokevirtual 126, 3) := by decide +kernel
theorem dX8_has_6 : decode cX8_has 6 = .ok (.iload_n 2, 1) := by decide +kernel
theorem dX8_has_7 : decode cX8_has 7 = .ok (.invokevirtual 137, 3) := by decide +kernel
theorem dX8_has_10 : decode cX8_has 10 = .ok (.sipush (-1000), 3) := by decide +kernel
theorem dX8_has_13 : decode cX8_has 13 = .ok (.if_icmp .eq 7, 3) := by decide +kernel
theorem dX8_has_16 : decode cX8_has 16 = .ok (.iconst 1, 1) := by decide +kernel
theorem dX8_has_17 : decode cX8_has 17 = .ok (.goto 4, 3) := by decide +kernel
theorem dX8_has_20 : decode cX8_has 20 = .ok (.iconst 0, 1) := by decide +kernel
theorem dX8_has_21 : decode cX8_has 21 = .ok (.ireturn, 1) := by decide +kernel
theorem dX8_size_0 : decode cX8_size 0 = .ok (.aload_n 0, 1) := by decide +kernel
theorem dX8_size_1 : decode cX8_size 1 = .ok (.iload_n 1, 1) := by decide +kernel
theorem dX8_size_2 : decode cX8_size 2 = .ok (.invokevirtual 157, 3) := by decide +kernel
theorem dX8_size_5 : decode cX8_size 5 = .ok (.getfield 165, 3) := by decide +kernel
theorem dX8_size_8 : decode cX8_size 8 = .ok (.ireturn, 1) := by decide +kernel
theorem dX8_text_0 : decode cX8_text 0 = .ok (.aload_n 0, 1) := by decide +kernel
theorem dX8_text_1 : decode cX8_text 1 = .ok (.iload_n 1, 1) := by decide +kernel
theorem dX8_text_2 : decode cX8_text 2 = .ok (.invokevirtual 157, 3) := by decide +kernel
theorem dX8_text_5 : decode cX8_text 5 = .ok (.invokevirtual 227, 3) := by decide +kernel
theorem dX8_text_8 : decode cX8_text 8 = .ok (.areturn, 1) := by decide +kernel
theorem dX8_areLike_0 : decode cX8_areLike 0 = .ok (.aload_n 0, 1) := by decide +kernel
theorem dX8_areLike_1 : decode cX8_areLike 1 = .ok (.iload_n 1, 1) := by decide +kernel
theorem dX8_areLike_2 : decode cX8_areLike 2 = .ok (.invokevirtual 157, 3) := by decide +kernel
theorem dX8_areLike_5 : decode cX8_areLike 5 = .ok (.astore_n 3, 1) := by decide +kernel
theorem dX8_areLike_6 : decode cX8_areLike 6 = .ok (.aload_n 3, 1) := by decide +kernel
theorem dX8_areLike_7 : decode cX8_areLike 7 = .ok (.aload_n 0, 1) := by decide +kernel
theorem dX8_areLike_8 : decode cX8_areLike 8 = .ok (.iload_n 2, 1) := by decide +kernel
theorem dX8_areLike_9 : decode cX8_areLike 9 = .ok (.invokevirtual 157, 3) := by decide +kernel
theorem dX8_areLike_12 : decode cX8_areLike 12 = .ok (.invokevirtual 230, 3) := by decide +kernel
theorem dX8_areLike_15 : decode cX8_areLike 15 = .ok (.ireturn, 1) := by decide +kernel
theorem dX8_given_0 : decode cX8_given 0 = .ok (.iload_n 2, 1) := by decide +kernel
theorem dX8_given_1 : decode cX8_given 1 = .ok (.invokestatic 234, 3) := by decide +kernel
theorem dX8_given_4 : decode cX8_given 4 = .ok (.iload_n 3, 1) := by decide +kernel
theorem dX8_given_5 : decode cX8_given 5 = .ok (.sipush (-1000), 3) := by decide +kernel
theorem dX8_given_8 : decode cX8_given 8 = .ok (.sipush 999, 3) := by decide +kernel
theorem dX8_given_11 : decode cX8_given 11 = .ok (.invokestatic 72, 3) := by decide +kernel
theorem dX8_given_14 : decode cX8_given 14 = .ok (.iload_n 1, 1) := by decide +kernel
theorem dX8_given_15 : decode cX8_given 15 = .ok (.iconst 0, 1) := by decide +kernel
theorem dX8_given_16 : decode cX8_given 16 = .ok (.iconst 5, 1) := by decide +kernel
theorem dX8_given_17 : decode cX8_given 17 = .ok (.invokestatic 72, 3) := by decide +kernel
theorem dX8_given_20 : decode cX8_given 20 = .ok (.iload 4, 2) := by decide +kernel
theorem dX8_given_22 : decode cX8_given 22 = .ok (.invokestatic 50, 3) := by decide +kernel
theorem dX8_given_25 : decode cX8_given 25 = .ok (.iload_n 1, 1) := by decide +kernel
theorem dX8_given_26 : decode cX8_given 26 = .ok (.iload_n 2, 1) := by decide +kernel
theorem dX8_given_27 : decode cX8_given 27 = .ok (.iload_n 3, 1) := by decide +kernel
theorem dX8_given_28 : decode cX8_given 28 = .ok (.iload 4, 2) := by decide +kernel
theorem dX8_given_30 : decode cX8_given 30 = .ok (.invokestatic 237, 3) := by decide +kernel
theorem dX8_given_33 : decode cX8_given 33 = .ok (.istore 5, 2) := by decide +kernel
theorem dX8_given_35 : decode cX8_given 35 = .ok (.iload 5, 2) := by decide +kernel
theorem dX8_given_37 : decode cX8_given 37 = .ok (.sipush (-1001), 3) := by decide +kernel
theorem dX8_given_40 : decode cX8_given 40 = .ok (.if_icmp .ne 8, 3) := by decide +kernel
theorem dX8_given_43 : decode cX8_given 43 = .ok (.bipush (-9), 2) := by decide +kernel
theorem dX8_given_45 : decode cX8_given 45 = .ok (.goto 5, 3) := by decide +kernel
theorem dX8_given_48 : decode cX8_given 48 = .ok (.iload 5, 2) := by decide +kernel
theorem dX8_given_50 : decode cX8_given 50 = .ok (.ireturn, 1) := by decide +kernel
theorem dX8_tested_0 : decode cX8_tested 0 = .ok (.iload_n 1, 1) := by decide +kernel
theorem dX8_tested_1 : decode cX8_tested 1 = .ok (.iconst 0, 1) := by decide +kernel
theorem dX8_tested_2 : decode cX8_tested 2 = .ok (.iconst 5, 1) := by decide +kernel
theorem dX8_tested_3 : decode cX8_tested 3 = .ok (.invokestatic 72, 3) := by decide +kernel
theorem dX8_tested_6 : decode cX8_tested 6 = .ok (.iload_n 2, 1) := by decide +kernel
theorem dX8_tested_7 : decode cX8_tested 7 = .ok (.invokestatic 50, 3) := by decide +kernel
theorem dX8_tested_10 : decode cX8_tested 10 = .ok (.iload_n 3, 1) := by decide +kernel
theorem dX8_tested_11 : decode cX8_tested 11 = .ok (.invokestatic 50, 3) := by decide +kernel
theorem dX8_tested_14 : decode cX8_tested 14 = .ok (.iload_n 1, 1) := by decide +kernel
theorem dX8_tested_15 : decode cX8_tested 15 = .ok (.iload_n 2, 1) := by decide +kernel
theorem dX8_tested_16 : decode cX8_tested 16 = .ok (.iload_n 3, 1) := by decide +kernel
theorem dX8_tested_17 : decode cX8_tested 17 = .ok (.invokestatic 241, 3) := by decide +kernel
theorem dX8_tested_20 : decode cX8_tested 20 = .ok (.istore 4, 2) := by decide +kernel
theorem dX8_tested_22 : decode cX8_tested 22 = .ok (.iload 4, 2) := by decide +kernel
theorem dX8_tested_24 : decode cX8_tested 24 = .ok (.sipush (-1001), 3) := by decide +kernel
theorem dX8_tested_27 : decode cX8_tested 27 = .ok (.if_icmp .ne 8, 3) := by decide +kernel
theorem dX8_tested_30 : decode cX8_tested 30 = .ok (.bipush (-9), 2) := by decide +kernel
theorem dX8_tested_32 : decode cX8_tested 32 = .ok (.goto 5, 3) := by decide +kernel
theorem dX8_tested_35 : decode cX8_tested 35 = .ok (.iload 4, 2) := by decide +kernel
theorem dX8_tested_37 : decode cX8_tested 37 = .ok (.ireturn, 1) := by decide +kernel
theorem dX8_knock_0 : decode cX8_knock 0 = .ok (.aload_n 0, 1) := by decide +kernel
theorem dX8_knock_1 : decode cX8_knock 1 = .ok (.dup, 1) := by decide +kernel
theorem dX8_knock_2 : decode cX8_knock 2 = .ok (.getfield 244, 3) := by decide +kernel
theorem dX8_knock_5 : decode cX8_knock 5 = .ok (.iconst 1, 1) := by decide +kernel
theorem dX8_knock_6 : decode cX8_knock 6 = .ok (.iadd, 1) := by decide +kernel
theorem dX8_knock_7 : decode cX8_knock 7 = .ok (.putfield 244, 3) := by decide +kernel
theorem dX8_knock_10 : decode cX8_knock 10 = .ok (.aload_n 0, 1) := by decide +kernel
theorem dX8_knock_11 : decode cX8_knock 11 = .ok (.getfield 244, 3) := by decide +kernel
theorem dX8_knock_14 : decode cX8_knock 14 = .ok (.ireturn, 1) := by decide +kernel
theorem dX8_house_0 : decode cX8_house 0 = .ok (.iload_n 1, 1) := by decide +kernel
theorem dX8_house_1 : decode cX8_house 1 = .ok (.iconst 0, 1) := by decide +kernel
theorem dX8_house_2 : decode cX8_house 2 = .ok (.iconst 4, 1) := by decide +kernel
theorem dX8_house_3 : decode cX8_house 3 = .ok (.invokestatic 72, 3) := by decide +kernel
theorem dX8_house_6 : decode cX8_house 6 = .ok (.iload_n 1, 1) := by decide +kernel
theorem dX8_house_7 : decode cX8_house 7 = .ok (.tableswitch 49 0 3 #[29, 34, 39, 44], 29) := by decide +kernel
theorem dX8_house_36 : decode cX8_house 36 = .ok (.aload_n 0, 1) := by decide +kernel
theorem dX8_house_37 : decode cX8_house 37 = .ok (.invokevirtual 247, 3) := by decide +kernel
theorem dX8_house_40 : decode cX8_house 40 = .ok (.ireturn, 1) := by decide +kernel
theorem dX8_house_41 : decode cX8_house 41 = .ok (.aload_n 0, 1) := by decide +kernel
theorem dX8_house_42 : decode cX8_house 42 = .ok (.invokevirtual 250, 3) := by decide +kernel
theorem dX8_house_45 : decode cX8_house 45 = .ok (.ireturn, 1) := by decide +kernel
theorem dX8_house_46 : decode cX8_house 46 = .ok (.aload_n 0, 1) := by decide +kernel
theorem dX8_house_47 : decode cX8_house 47 = .ok (.invokevirtual 253, 3) := by decide +kernel
theorem dX8_house_50 : decode cX8_house 50 = .ok (.ireturn, 1) := by decide +kernel
theorem dX8_house_51 : decode cX8_house 51 = .ok (.aload_n 0, 1) := by decide +kernel
theorem dX8_house_52 : decode cX8_house 52 = .ok (.getfield 256, 3) := by decide +kernel
theorem dX8_house_55 : decode cX8_house 55 = .ok (.ireturn, 1) := by decide +kernel
theorem dX8_house_56 : decode cX8_house 56 = .ok (.aload_n 0, 1) := by decide +kernel
theorem dX8_house_57 : decode cX8_house 57 = .ok (.getfield 244, 3) := by decide +kernel
theorem dX8_house_60 : decode cX8_house 60 = .ok (.ireturn, 1) := by decide +kernel
theorem dX8_isSound_0 : decode cX8_isSound 0 = .ok (.aload_n 0, 1) := by decide +kernel
theorem dX8_isSound_1 : decode cX8_isSound 1 = .ok (.getfield 10, 3) := by decide +kernel
theorem dX8_isSound_4 : decode cX8_isSound 4 = .ok (.astore_n 1, 1) := by decide +kernel
theorem dX8_isSound_5 : decode cX8_isSound 5 = .ok (.aload_n 1, 1) := by decide +kernel
theorem dX8_isSound_6 : decode cX8_isSound 6 = .ok (.arraylength, 1) := by decide +kernel
theorem dX8_isSound_7 : decode cX8_isSound 7 = .ok (.istore_n 2, 1) := by decide +kernel
theorem dX8_isSound_8 : decode cX8_isSound 8 = .ok (.iconst 0, 1) := by decide +kernel
theorem dX8_isSound_9 : decode cX8_isSound 9 = .ok (.istore_n 3, 1) := by decide +kernel
theorem dX8_isSound_10 : decode cX8_isSound 10 = .ok (.iload_n 3, 1) := by decide +kernel
theorem dX8_isSound_11 : decode cX8_isSound 11 = .ok (.iload_n 2, 1) := by decide +kernel
theorem dX8_isSound_12 : decode cX8_isSound 12 = .ok (.if_icmp .ge 34, 3) := by decide +kernel
theorem dX8_isSound_15 : decode cX8_isSound 15 = .ok (.aload_n 1, 1) := by decide +kernel
theorem dX8_isSound_16 : decode cX8_isSound 16 = .ok (.iload_n 3, 1) := by decide +kernel
theorem dX8_isSound_17 : decode cX8_isSound 17 = .ok (.aaload, 1) := by decide +kernel
theorem dX8_isSound_18 : decode cX8_isSound 18 = .ok (.astore 4, 2) := by decide +kernel
theorem dX8_isSound_20 : decode cX8_isSound 20 = .ok (.aload_n 0, 1) := by decide +kernel
theorem dX8_isSound_21 : decode cX8_isSound 21 = .ok (.aload 4, 2) := by decide +kernel
theorem dX8_isSound_23 : decode cX8_isSound 23 = .ok (.invokevirtual 259, 3) := by decide +kernel
theorem dX8_isSound_26 : decode cX8_isSound 26 = .ok (.ifCond .eq 12, 3) := by decide +kernel
theorem dX8_isSound_29 : decode cX8_isSound 29 = .ok (.aload_n 0, 1) := by decide +kernel
theorem dX8_isSound_30 : decode cX8_isSound 30 = .ok (.aload 4, 2) := by decide +kernel
theorem dX8_isSound_32 : decode cX8_isSound 32 = .ok (.invokevirtual 263, 3) := by decide +kernel
theorem dX8_isSound_35 : decode cX8_isSound 35 = .ok (.ifCond .ne 5, 3) := by decide +kernel
theorem dX8_isSound_40 : decode cX8_isSound 40 = .ok (.iinc 3 1, 3) := by decide +kernel
theorem dX8_isSound_43 : decode cX8_isSound 43 = .ok (.goto (-33), 3) := by decide +kernel
theorem dX8_isSound_46 : decode cX8_isSound 46 = .ok (.aload_n 0, 1) := by decide +kernel
theorem dX8_isSound_47 : decode cX8_isSound 47 = .ok (.getfield 25, 3) := by decide +kernel
theorem dX8_isSound_50 : decode cX8_isSound 50 = .ok (.astore_n 1, 1) := by decide +kernel
theorem dX8_isSound_51 : decode cX8_isSound 51 = .ok (.aload_n 1, 1) := by decide +kernel
theorem dX8_isSound_52 : decode cX8_isSound 52 = .ok (.arraylength, 1) := by decide +kernel
theorem dX8_isSound_53 : decode cX8_isSound 53 = .ok (.istore_n 2, 1) := by decide +kernel
theorem dX8_isSound_54 : decode cX8_isSound 54 = .ok (.iconst 0, 1) := by decide +kernel
theorem dX8_isSound_55 : decode cX8_isSound 55 = .ok (.istore_n 3, 1) := by decide +kernel
theorem dX8_isSound_56 : decode cX8_isSound 56 = .ok (.iload_n 3, 1) := by decide +kernel
theorem dX8_isSound_57 : decode cX8_isSound 57 = .ok (.iload_n 2, 1) := by decide +kernel
theorem dX8_isSound_58 : decode cX8_isSound 58 = .ok (.if_icmp .ge 34, 3) := by decide +kernel
theorem dX8_isSound_61 : decode cX8_isSound 61 = .ok (.aload_n 1, 1) := by decide +kernel
theorem dX8_isSound_62 : decode cX8_isSound 62 = .ok (.iload_n 3, 1) := by decide +kernel
theorem dX8_isSound_63 : decode cX8_isSound 63 = .ok (.aaload, 1) := by decide +kernel
theorem dX8_isSound_64 : decode cX8_isSound 64 = .ok (.astore 4, 2) := by decide +kernel
theorem dX8_isSound_66 : decode cX8_isSound 66 = .ok (.aload_n 0, 1) := by decide +kernel
theorem dX8_isSound_67 : decode cX8_isSound 67 = .ok (.aload 4, 2) := by decide +kernel
theorem dX8_isSound_69 : decode cX8_isSound 69 = .ok (.invokevirtual 266, 3) := by decide +kernel
theorem dX8_isSound_72 : decode cX8_isSound 72 = .ok (.ifCond .eq 12, 3) := by decide +kernel
theorem dX8_isSound_75 : decode cX8_isSound 75 = .ok (.aload_n 0, 1) := by decide +kernel
theorem dX8_isSound_76 : decode cX8_isSound 76 = .ok (.aload 4, 2) := by decide +kernel
theorem dX8_isSound_78 : decode cX8_isSound 78 = .ok (.invokevirtual 269, 3) := by decide +kernel
theorem dX8_isSound_81 : decode cX8_isSound 81 = .ok (.ifCond .ne 5, 3) := by decide +kernel
theorem dX8_isSound_86 : decode cX8_isSound 86 = .ok (.iinc 3 1, 3) := by decide +kernel
theorem dX8_isSound_89 : decode cX8_isSound 89 = .ok (.goto (-33), 3) := by decide +kernel
theorem dX8_isSound_92 : decode cX8_isSound 92 = .ok (.iconst 1, 1) := by decide +kernel
theorem dX8_isSound_93 : decode cX8_isSound 93 = .ok (.ireturn, 1) := by decide +kernel
theorem dX8_digest_0 : decode cX8_digest 0 = .ok (.ldc2_w 272, 3) := by decide +kernel
theorem dX8_digest_3 : decode cX8_digest 3 = .ok (.lstore_n 1, 1) := by decide +kernel
theorem dX8_digest_4 : decode cX8_digest 4 = .ok (.iconst 0, 1) := by decide +kernel
theorem dX8_digest_5 : decode cX8_digest 5 = .ok (.istore_n 3, 1) := by decide +kernel
theorem dX8_digest_6 : decode cX8_digest 6 = .ok (.iload_n 3, 1) := by decide +kernel
theorem dX8_digest_7 : decode cX8_digest 7 = .ok (.iconst 4, 1) := by decide +kernel
theorem dX8_digest_8 : decode cX8_digest 8 = .ok (.if_icmp .gt 19, 3) := by decide +kernel
theorem dX8_digest_11 : decode cX8_digest 11 = .ok (.lload_n 1, 1) := by decide +kernel
theorem dX8_digest_12 : decode cX8_digest 12 = .ok (.aload_n 0, 1) := by decide +kernel
theorem dX8_digest_13 : decode cX8_digest 13 = .ok (.iload_n 3, 1) := by decide +kernel
theorem dX8_digest_14 : decode cX8_digest 14 = .ok (.invokevirtual 274, 3) := by decide +kernel
theorem dX8_digest_17 : decode cX8_digest 17 = .ok (.invokestatic 277, 3) := by decide +kernel
theorem dX8_digest_20 : decode cX8_digest 20 = .ok (.lstore_n 1, 1) := by decide +kernel
theorem dX8_digest_21 : decode cX8_digest 21 = .ok (.iinc 3 1, 3) := by decide +kernel
theorem dX8_digest_24 : decode cX8_digest 24 = .ok (.goto (-18), 3) := by decide +kernel
theorem dX8_digest_27 : decode cX8_digest 27 = .ok (.aload_n 0, 1) := by decide +kernel
theorem dX8_digest_28 : decode cX8_digest 28 = .ok (.getfield 10, 3) := by decide +kernel
theorem dX8_digest_31 : decode cX8_digest 31 = .ok (.astore_n 3, 1) := by decide +kernel
theorem dX8_digest_32 : decode cX8_digest 32 = .ok (.aload_n 3, 1) := by decide +kernel
theorem dX8_digest_33 : decode cX8_digest 33 = .ok (.arraylength, 1) := by decide +kernel
theorem dX8_digest_34 : decode cX8_digest 34 = .ok (.istore 4, 2) := by decide +kernel
theorem dX8_digest_36 : decode cX8_digest 36 = .ok (.iconst 0, 1) := by decide +kernel
theorem dX8_digest_37 : decode cX8_digest 37 = .ok (.istore 5, 2) := by decide +kernel
theorem dX8_digest_39 : decode cX8_digest 39 = .ok (.iload 5, 2) := by decide +kernel
theorem dX8_digest_41 : decode cX8_digest 41 = .ok (.iload 4, 2) := by decide +kernel
theorem dX8_digest_43 : decode cX8_digest 43 = .ok (.if_icmp .ge 22, 3) := by decide +kernel
theorem dX8_digest_46 : decode cX8_digest 46 = .ok (.aload_n 3, 1) := by decide +kernel
theorem dX8_digest_47 : decode cX8_digest 47 = .ok (.iload 5, 2) := by decide +kernel
theorem dX8_digest_49 : decode cX8_digest 49 = .ok (.aaload, 1) := by decide +kernel
theorem dX8_digest_50 : decode cX8_digest 50 = .ok (.astore 6, 2) := by decide +kernel
theorem dX8_digest_52 : decode cX8_digest 52 = .ok (.lload_n 1, 1) := by decide +kernel
theorem dX8_digest_53 : decode cX8_digest 53 = .ok (.aload 6, 2) := by decide +kernel
theorem dX8_digest_55 : decode cX8_digest 55 = .ok (.invokestatic 281, 3) := by decide +kernel
theorem dX8_digest_58 : decode cX8_digest 58 = .ok (.lstore_n 1, 1) := by decide +kernel
theorem dX8_digest_59 : decode cX8_digest 59 = .ok (.iinc 5 1, 3) := by decide +kernel
theorem dX8_digest_62 : decode cX8_digest 62 = .ok (.goto (-23), 3) := by decide +kernel
theorem dX8_digest_65 : decode cX8_digest 65 = .ok (.aload_n 0, 1) := by decide +kernel
theorem dX8_digest_66 : decode cX8_digest 66 = .ok (.getfield 25, 3) := by decide +kernel
theorem dX8_digest_69 : decode cX8_digest 69 = .ok (.astore_n 3, 1) := by decide +kernel
theorem dX8_digest_70 : decode cX8_digest 70 = .ok (.aload_n 3, 1) := by decide +kernel
theorem dX8_digest_71 : decode cX8_digest 71 = .ok (.arraylength, 1) := by decide +kernel
theorem dX8_digest_72 : decode cX8_digest 72 = .ok (.istore 4, 2) := by decide +kernel
theorem dX8_digest_74 : decode cX8_digest 74 = .ok (.iconst 0, 1) := by decide +kernel
theorem dX8_digest_75 : decode cX8_digest 75 = .ok (.istore 5, 2) := by decide +kernel
theorem dX8_digest_77 : decode cX8_digest 77 = .ok (.iload 5, 2) := by decide +kernel
theorem dX8_digest_79 : decode cX8_digest 79 = .ok (.iload 4, 2) := by decide +kernel
theorem dX8_digest_81 : decode cX8_digest 81 = .ok (.if_icmp .ge 22, 3) := by decide +kernel
theorem dX8_digest_84 : decode cX8_digest 84 = .ok (.aload_n 3, 1) := by decide +kernel
theorem dX8_digest_85 : decode cX8_digest 85 = .ok (.iload 5, 2) := by decide +kernel
theorem dX8_digest_87 : decode cX8_digest 87 = .ok (.aaload, 1) := by decide +kernel
theorem dX8_digest_88 : decode cX8_digest 88 = .ok (.astore 6, 2) := by decide +kernel
theorem dX8_digest_90 : decode cX8_digest 90 = .ok (.lload_n 1, 1) := by decide +kernel
theorem dX8_digest_91 : decode cX8_digest 91 = .ok (.aload 6, 2) := by decide +kernel
theorem dX8_digest_93 : decode cX8_digest 93 = .ok (.invokestatic 285, 3) := by decide +kernel
theorem dX8_digest_96 : decode cX8_digest 96 = .ok (.lstore_n 1, 1) := by decide +kernel
theorem dX8_digest_97 : decode cX8_digest 97 = .ok (.iinc 5 1, 3) := by decide +kernel
theorem dX8_digest_100 : decode cX8_digest 100 = .ok (.goto (-23), 3) := by decide +kernel
theorem dX8_digest_103 : decode cX8_digest 103 = .ok (.iconst 0, 1) := by decide +kernel
theorem dX8_digest_104 : decode cX8_digest 104 = .ok (.istore_n 3, 1) := by decide +kernel
theorem dX8_digest_105 : decode cX8_digest 105 = .ok (.iload_n 3, 1) := by decide +kernel
theorem dX8_digest_106 : decode cX8_digest 106 = .ok (.bipush 6, 2) := by decide +kernel
theorem dX8_digest_108 : decode cX8_digest 108 = .ok (.if_icmp .gt 25, 3) := by decide +kernel
theorem dX8_digest_111 : decode cX8_digest 111 = .ok (.lload_n 1, 1) := by decide +kernel
theorem dX8_digest_112 : decode cX8_digest 112 = .ok (.aload_n 0, 1) := by decide +kernel
theorem dX8_digest_113 : decode cX8_digest 113 = .ok (.getfield 21, 3) := by decide +kernel
theorem dX8_digest_116 : decode cX8_digest 116 = .ok (.getfield 223, 3) := by decide +kernel
theorem dX8_digest_119 : decode cX8_digest 119 = .ok (.iload_n 3, 1) := by decide +kernel
theorem dX8_digest_120 : decode cX8_digest 120 = .ok (.invokevirtual 218, 3) := by decide +kernel
theorem dX8_digest_123 : decode cX8_digest 123 = .ok (.invokestatic 277, 3) := by decide +kernel
theorem dX8_digest_126 : decode cX8_digest 126 = .ok (.lstore_n 1, 1) := by decide +kernel
theorem dX8_digest_127 : decode cX8_digest 127 = .ok (.iinc 3 1, 3) := by decide +kernel
theorem dX8_digest_130 : decode cX8_digest 130 = .ok (.goto (-25), 3) := by decide +kernel
theorem dX8_digest_133 : decode cX8_digest 133 = .ok (.aload_n 0, 1) := by decide +kernel
theorem dX8_digest_134 : decode cX8_digest 134 = .ok (.getfield 32, 3) := by decide +kernel
theorem dX8_digest_137 : decode cX8_digest 137 = .ok (.astore_n 3, 1) := by decide +kernel
theorem dX8_digest_138 : decode cX8_digest 138 = .ok (.aload_n 3, 1) := by decide +kernel
theorem dX8_digest_139 : decode cX8_digest 139 = .ok (.arraylength, 1) := by decide +kernel
theorem dX8_digest_140 : decode cX8_digest 140 = .ok (.istore 4, 2) := by decide +kernel
theorem dX8_digest_142 : decode cX8_digest 142 = .ok (.iconst 0, 1) := by decide +kernel
theorem dX8_digest_143 : decode cX8_digest 143 = .ok (.istore 5, 2) := by decide +kernel
theorem dX8_digest_145 : decode cX8_digest 145 = .ok (.iload 5, 2) := by decide +kernel
theorem dX8_digest_147 : decode cX8_digest 147 = .ok (.iload 4, 2) := by decide +kernel
theorem dX8_digest_149 : decode cX8_digest 149 = .ok (.if_icmp .ge 22, 3) := by decide +kernel
theorem dX8_digest_152 : decode cX8_digest 152 = .ok (.aload_n 3, 1) := by decide +kernel
theorem dX8_digest_153 : decode cX8_digest 153 = .ok (.iload 5, 2) := by decide +kernel
theorem dX8_digest_155 : decode cX8_digest 155 = .ok (.aaload, 1) := by decide +kernel
theorem dX8_digest_156 : decode cX8_digest 156 = .ok (.astore 6, 2) := by decide +kernel
theorem dX8_digest_158 : decode cX8_digest 158 = .ok (.lload_n 1, 1) := by decide +kernel
theorem dX8_digest_159 : decode cX8_digest 159 = .ok (.aload 6, 2) := by decide +kernel
theorem dX8_digest_161 : decode cX8_digest 161 = .ok (.invokestatic 289, 3) := by decide +kernel
theorem dX8_digest_164 : decode cX8_digest 164 = .ok (.lstore_n 1, 1) := by decide +kernel
theorem dX8_digest_165 : decode cX8_digest 165 = .ok (.iinc 5 1, 3) := by decide +kernel
theorem dX8_digest_168 : decode cX8_digest 168 = .ok (.goto (-23), 3) := by decide +kernel
theorem dX8_digest_171 : decode cX8_digest 171 = .ok (.lload_n 1, 1) := by decide +kernel
theorem dX8_digest_172 : decode cX8_digest 172 = .ok (.aload_n 0, 1) := by decide +kernel
theorem dX8_digest_173 : decode cX8_digest 173 = .ok (.invokevirtual 293, 3) := by decide +kernel
theorem dX8_digest_176 : decode cX8_digest 176 = .ok (.invokestatic 83, 3) := by decide +kernel
theorem dX8_digest_179 : decode cX8_digest 179 = .ok (.invokestatic 277, 3) := by decide +kernel
theorem dX8_digest_182 : decode cX8_digest 182 = .ok (.lreturn, 1) := by decide +kernel
theorem dX8_rowFor_0 : decode cX8_rowFor 0 = .ok (.iload_n 1, 1) := by decide +kernel
theorem dX8_rowFor_1 : decode cX8_rowFor 1 = .ok (.ifCond .lt 12, 3) := by decide +kernel
theorem dX8_rowFor_4 : decode cX8_rowFor 4 = .ok (.iload_n 1, 1) := by decide +kernel
theorem dX8_rowFor_5 : decode cX8_rowFor 5 = .ok (.aload_n 0, 1) := by decide +kernel
theorem dX8_rowFor_6 : decode cX8_rowFor 6 = .ok (.getfield 10, 3) := by decide +kernel
theorem dX8_rowFor_9 : decode cX8_rowFor 9 = .ok (.arraylength, 1) := by decide +kernel
theorem dX8_rowFor_10 : decode cX8_rowFor 10 = .ok (.if_icmp .lt 14, 3) := by decide +kernel
theorem dX8_rowFor_13 : decode cX8_rowFor 13 = .ok (.new 198, 3) := by decide +kernel
theorem dX8_rowFor_16 : decode cX8_rowFor 16 = .ok (.dup, 1) := by decide +kernel
theorem dX8_rowFor_17 : decode cX8_rowFor 17 = .ok (.ldc_w 296, 3) := by decide +kernel
theorem dX8_rowFor_20 : decode cX8_rowFor 20 = .ok (.invokespecial 202, 3) := by decide +kernel
theorem dX8_rowFor_23 : decode cX8_rowFor 23 = .ok (.athrow, 1) := by decide +kernel
theorem dX8_rowFor_24 : decode cX8_rowFor 24 = .ok (.aload_n 0, 1) := by decide +kernel
theorem dX8_rowFor_25 : decode cX8_rowFor 25 = .ok (.getfield 10, 3) := by decide +kernel
theorem dX8_rowFor_28 : decode cX8_rowFor 28 = .ok (.iload_n 1, 1) := by decide +kernel
theorem dX8_rowFor_29 : decode cX8_rowFor 29 = .ok (.aaload, 1) := by decide +kernel
theorem dX8_rowFor_30 : decode cX8_rowFor 30 = .ok (.areturn, 1) := by decide +kernel
theorem dX8_tableFor_0 : decode cX8_tableFor 0 = .ok (.iload_n 1, 1) := by decide +kernel
theorem dX8_tableFor_1 : decode cX8_tableFor 1 = .ok (.ifCond .lt 12, 3) := by decide +kernel
theorem dX8_tableFor_4 : decode cX8_tableFor 4 = .ok (.iload_n 1, 1) := by decide +kernel
theorem dX8_tableFor_5 : decode cX8_tableFor 5 = .ok (.aload_n 0, 1) := by decide +kernel
theorem dX8_tableFor_6 : decode cX8_tableFor 6 = .ok (.getfield 25, 3) := by decide +kernel
theorem dX8_tableFor_9 : decode cX8_tableFor 9 = .ok (.arraylength, 1) := by decide +kernel
theorem dX8_tableFor_10 : decode cX8_tableFor 10 = .ok (.if_icmp .lt 14, 3) := by decide +kernel
theorem dX8_tableFor_13 : decode cX8_tableFor 13 = .ok (.new 198, 3) := by decide +kernel
theorem dX8_tableFor_16 : decode cX8_tableFor 16 = .ok (.dup, 1) := by decide +kernel
theorem dX8_tableFor_17 : decode cX8_tableFor 17 = .ok (.ldc_w 298, 3) := by decide +kernel
theorem dX8_tableFor_20 : decode cX8_tableFor 20 = .ok (.invokespecial 202, 3) := by decide +kernel
theorem dX8_tableFor_23 : decode cX8_tableFor 23 = .ok (.athrow, 1) := by decide +kernel
theorem dX8_tableFor_24 : decode cX8_tableFor 24 = .ok (.aload_n 0, 1) := by decide +kernel
theorem dX8_tableFor_25 : decode cX8_tableFor 25 = .ok (.getfield 25, 3) := by decide +kernel
theorem dX8_tableFor_28 : decode cX8_tableFor 28 = .ok (.iload_n 1, 1) := by decide +kernel
theorem dX8_tableFor_29 : decode cX8_tableFor 29 = .ok (.aaload, 1) := by decide +kernel
theorem dX8_tableFor_30 : decode cX8_tableFor 30 = .ok (.areturn, 1) := by decide +kernel
theorem dX8_tableFor__0 : decode cX8_tableFor_ 0 = .ok (.aload_n 0, 1) := by decide +kernel
theorem dX8_tableFor__1 : decode cX8_tableFor_ 1 = .ok (.iload_n 1, 1) := by decide +kernel
theorem dX8_tableFor__2 : decode cX8_tableFor_ 2 = .ok (.invokevirtual 157, 3) := by decide +kernel
theorem dX8_tableFor__5 : decode cX8_tableFor_ 5 = .ok (.astore_n 3, 1) := by decide +kernel
theorem dX8_tableFor__6 : decode cX8_tableFor_ 6 = .ok (.iload_n 2, 1) := by decide +kernel
theorem dX8_tableFor__7 : decode cX8_tableFor_ 7 = .ok (.invokestatic 234, 3) := by decide +kernel
theorem dX8_tableFor__10 : decode cX8_tableFor_ 10 = .ok (.aload_n 3, 1) := by decide +kernel
theorem dX8_tableFor__11 : decode cX8_tableFor_ 11 = .ok (.areturn, 1) := by decide +kernel
theorem dX8_tableToReckon_0 : decode cX8_tableToReckon 0 = .ok (.aload_n 0, 1) := by decide +kernel
theorem dX8_tableToReckon_1 : decode cX8_tableToReckon 1 = .ok (.iload_n 1, 1) := by decide +kernel
theorem dX8_tableToReckon_2 : decode cX8_tableToReckon 2 = .ok (.iload_n 2, 1) := by decide +kernel
theorem dX8_tableToReckon_3 : decode cX8_tableToReckon 3 = .ok (.invokevirtual 126, 3) := by decide +kernel
theorem dX8_tableToReckon_6 : decode cX8_tableToReckon 6 = .ok (.astore 5, 2) := by decide +kernel
theorem dX8_tableToReckon_8 : decode cX8_tableToReckon 8 = .ok (.iload_n 3, 1) := by decide +kernel
theorem dX8_tableToReckon_9 : decode cX8_tableToReckon 9 = .ok (.iconst 0, 1) := by decide +kernel
theorem dX8_tableToReckon_10 : decode cX8_tableToReckon 10 = .ok (.iconst 5, 1) := by decide +kernel
theorem dX8_tableToReckon_11 : decode cX8_tableToReckon 11 = .ok (.invokestatic 72, 3) := by decide +kernel
theorem dX8_tableToReckon_14 : decode cX8_tableToReckon 14 = .ok (.iload 4, 2) := by decide +kernel
theorem dX8_tableToReckon_16 : decode cX8_tableToReckon 16 = .ok (.invokestatic 50, 3) := by decide +kernel
theorem dX8_tableToReckon_19 : decode cX8_tableToReckon 19 = .ok (.aload 5, 2) := by decide +kernel
theorem dX8_tableToReckon_21 : decode cX8_tableToReckon 21 = .ok (.areturn, 1) := by decide +kernel
theorem dX8_hearerFor_0 : decode cX8_hearerFor 0 = .ok (.iload_n 1, 1) := by decide +kernel
theorem dX8_hearerFor_1 : decode cX8_hearerFor 1 = .ok (.ifCond .lt 12, 3) := by decide +kernel
theorem dX8_hearerFor_4 : decode cX8_hearerFor 4 = .ok (.iload_n 1, 1) := by decide +kernel
theorem dX8_hearerFor_5 : decode cX8_hearerFor 5 = .ok (.aload_n 0, 1) := by decide +kernel
theorem dX8_hearerFor_6 : decode cX8_hearerFor 6 = .ok (.getfield 32, 3) := by decide +kernel
theorem dX8_hearerFor_9 : decode cX8_hearerFor 9 = .ok (.arraylength, 1) := by decide +kernel
theorem dX8_hearerFor_10 : decode cX8_hearerFor 10 = .ok (.if_icmp .lt 14, 3) := by decide +kernel
theorem dX8_hearerFor_13 : decode cX8_hearerFor 13 = .ok (.new 198, 3) := by decide +kernel
theorem dX8_hearerFor_16 : decode cX8_hearerFor 16 = .ok (.dup, 1) := by decide +kernel
theorem dX8_hearerFor_17 : decode cX8_hearerFor 17 = .ok (.ldc_w 300, 3) := by decide +kernel
theorem dX8_hearerFor_20 : decode cX8_hearerFor 20 = .ok (.invokespecial 202, 3) := by decide +kernel
theorem dX8_hearerFor_23 : decode cX8_hearerFor 23 = .ok (.athrow, 1) := by decide +kernel
theorem dX8_hearerFor_24 : decode cX8_hearerFor 24 = .ok (.aload_n 0, 1) := by decide +kernel
theorem dX8_hearerFor_25 : decode cX8_hearerFor 25 = .ok (.getfield 32, 3) := by decide +kernel
theorem dX8_hearerFor_28 : decode cX8_hearerFor 28 = .ok (.iload_n 1, 1) := by decide +kernel
theorem dX8_hearerFor_29 : decode cX8_hearerFor 29 = .ok (.aaload, 1) := by decide +kernel
theorem dX8_hearerFor_30 : decode cX8_hearerFor 30 = .ok (.areturn, 1) := by decide +kernel
theorem dX8_checkRange_0 : decode cX8_checkRange 0 = .ok (.iload_n 0, 1) := by decide +kernel
theorem dX8_checkRange_1 : decode cX8_checkRange 1 = .ok (.iload_n 1, 1) := by decide +kernel
theorem dX8_checkRange_2 : decode cX8_checkRange 2 = .ok (.if_icmp .lt 8, 3) := by decide +kernel
theorem dX8_checkRange_5 : decode cX8_checkRange 5 = .ok (.iload_n 0, 1) := by decide +kernel
theorem dX8_checkRange_6 : decode cX8_checkRange 6 = .ok (.iload_n 2, 1) := by decide +kernel
theorem dX8_checkRange_7 : decode cX8_checkRange 7 = .ok (.if_icmp .le 14, 3) := by decide +kernel
theorem dX8_checkRange_10 : decode cX8_checkRange 10 = .ok (.new 302, 3) := by decide +kernel
theorem dX8_checkRange_13 : decode cX8_checkRange 13 = .ok (.dup, 1) := by decide +kernel
theorem dX8_checkRange_14 : decode cX8_checkRange 14 = .ok (.ldc_w 304, 3) := by decide +kernel
theorem dX8_checkRange_17 : decode cX8_checkRange 17 = .ok (.invokespecial 306, 3) := by decide +kernel
theorem dX8_checkRange_20 : decode cX8_checkRange 20 = .ok (.athrow, 1) := by decide +kernel
theorem dX8_checkRange_21 : decode cX8_checkRange 21 = .ok (.return_, 1) := by decide +kernel
theorem dX8_checkValue_0 : decode cX8_checkValue 0 = .ok (.iload_n 0, 1) := by decide +kernel
theorem dX8_checkValue_1 : decode cX8_checkValue 1 = .ok (.sipush (-999), 3) := by decide +kernel
theorem dX8_checkValue_4 : decode cX8_checkValue 4 = .ok (.sipush 999, 3) := by decide +kernel
theorem dX8_checkValue_7 : decode cX8_checkValue 7 = .ok (.invokestatic 72, 3) := by decide +kernel
theorem dX8_checkValue_10 : decode cX8_checkValue 10 = .ok (.return_, 1) := by decide +kernel
theorem dX8_checkKey_0 : decode cX8_checkKey 0 = .ok (.iload_n 0, 1) := by decide +kernel
theorem dX8_checkKey_1 : decode cX8_checkKey 1 = .ok (.iconst 0, 1) := by decide +kernel
theorem dX8_checkKey_2 : decode cX8_checkKey 2 = .ok (.bipush 19, 2) := by decide +kernel
theorem dX8_checkKey_4 : decode cX8_checkKey 4 = .ok (.invokestatic 72, 3) := by decide +kernel
theorem dX8_checkKey_7 : decode cX8_checkKey 7 = .ok (.return_, 1) := by decide +kernel
theorem dX8_checkRule_0 : decode cX8_checkRule 0 = .ok (.iload_n 0, 1) := by decide +kernel
theorem dX8_checkRule_1 : decode cX8_checkRule 1 = .ok (.ifCond .ne 14, 3) := by decide +kernel
theorem dX8_checkRule_4 : decode cX8_checkRule 4 = .ok (.new 302, 3) := by decide +kernel
theorem dX8_checkRule_7 : decode cX8_checkRule 7 = .ok (.dup, 1) := by decide +kernel
theorem dX8_checkRule_8 : decode cX8_checkRule 8 = .ok (.ldc_w 307, 3) := by decide +kernel
theorem dX8_checkRule_11 : decode cX8_checkRule 11 = .ok (.invokespecial 306, 3) := by decide +kernel
theorem dX8_checkRule_14 : decode cX8_checkRule 14 = .ok (.athrow, 1) := by decide +kernel
theorem dX8_checkRule_15 : decode cX8_checkRule 15 = .ok (.return_, 1) := by decide +kernel
theorem dX8_checkSpan_0 : decode cX8_checkSpan 0 = .ok (.iload_n 0, 1) := by decide +kernel
theorem dX8_checkSpan_1 : decode cX8_checkSpan 1 = .ok (.invokestatic 50, 3) := by decide +kernel
theorem dX8_checkSpan_4 : decode cX8_checkSpan 4 = .ok (.iload_n 1, 1) := by decide +kernel
theorem dX8_checkSpan_5 : decode cX8_checkSpan 5 = .ok (.invokestatic 50, 3) := by decide +kernel
theorem dX8_checkSpan_8 : decode cX8_checkSpan 8 = .ok (.iload_n 2, 1) := by decide +kernel
theorem dX8_checkSpan_9 : decode cX8_checkSpan 9 = .ok (.iconst 1, 1) := by decide +kernel
theorem dX8_checkSpan_10 : decode cX8_checkSpan 10 = .ok (.bipush 99, 2) := by decide +kernel
theorem dX8_checkSpan_12 : decode cX8_checkSpan 12 = .ok (.invokestatic 72, 3) := by decide +kernel
theorem dX8_checkSpan_15 : decode cX8_checkSpan 15 = .ok (.iload_n 0, 1) := by decide +kernel
theorem dX8_checkSpan_16 : decode cX8_checkSpan 16 = .ok (.iload_n 1, 1) := by decide +kernel
theorem dX8_checkSpan_17 : decode cX8_checkSpan 17 = .ok (.iload_n 2, 1) := by decide +kernel
theorem dX8_checkSpan_18 : decode cX8_checkSpan 18 = .ok (.invokestatic 176, 3) := by decide +kernel
theorem dX8_checkSpan_21 : decode cX8_checkSpan 21 = .ok (.iconst 0, 1) := by decide +kernel
theorem dX8_checkSpan_22 : decode cX8_checkSpan 22 = .ok (.bipush 40, 2) := by decide +kernel
theorem dX8_checkSpan_24 : decode cX8_checkSpan 24 = .ok (.invokestatic 72, 3) := by decide +kernel
theorem dX8_checkSpan_27 : decode cX8_checkSpan 27 = .ok (.return_, 1) := by decide +kernel
theorem dX8_spanLength_0 : decode cX8_spanLength 0 = .ok (.iload_n 0, 1) := by decide +kernel
theorem dX8_spanLength_1 : decode cX8_spanLength 1 = .ok (.iload_n 1, 1) := by decide +kernel
theorem dX8_spanLength_2 : decode cX8_spanLength 2 = .ok (.if_icmp .gt 8, 3) := by decide +kernel
theorem dX8_spanLength_5 : decode cX8_spanLength 5 = .ok (.iload_n 2, 1) := by decide +kernel
theorem dX8_spanLength_6 : decode cX8_spanLength 6 = .ok (.iconst 1, 1) := by decide +kernel
theorem dX8_spanLength_7 : decode cX8_spanLength 7 = .ok (.if_icmp .ge 7, 3) := by decide +kernel
theorem dX8_spanLength_10 : decode cX8_spanLength 10 = .ok (.iconst 0, 1) := by decide +kernel
theorem dX8_spanLength_11 : decode cX8_spanLength 11 = .ok (.goto 10, 3) := by decide +kernel
theorem dX8_spanLength_14 : decode cX8_spanLength 14 = .ok (.iload_n 1, 1) := by decide +kernel
theorem dX8_spanLength_15 : decode cX8_spanLength 15 = .ok (.iload_n 0, 1) := by decide +kernel
theorem dX8_spanLength_16 : decode cX8_spanLength 16 = .ok (.isub, 1) := by decide +kernel
theorem dX8_spanLength_17 : decode cX8_spanLength 17 = .ok (.iload_n 2, 1) := by decide +kernel
theorem dX8_spanLength_18 : decode cX8_spanLength 18 = .ok (.idiv, 1) := by decide +kernel
theorem dX8_spanLength_19 : decode cX8_spanLength 19 = .ok (.iconst 1, 1) := by decide +kernel
theorem dX8_spanLength_20 : decode cX8_spanLength 20 = .ok (.iadd, 1) := by decide +kernel
theorem dX8_spanLength_21 : decode cX8_spanLength 21 = .ok (.ireturn, 1) := by decide +kernel
theorem dX8_refused_0 : decode cX8_refused 0 = .ok (.aload_n 0, 1) := by decide +kernel
theorem dX8_refused_1 : decode cX8_refused 1 = .ok (.dup, 1) := by decide +kernel
theorem dX8_refused_2 : decode cX8_refused 2 = .ok (.getfield 256, 3) := by decide +kernel
theorem dX8_refused_5 : decode cX8_refused 5 = .ok (.iconst 1, 1) := by decide +kernel
theorem dX8_refused_6 : decode cX8_refused 6 = .ok (.iadd, 1) := by decide +kernel
theorem dX8_refused_7 : decode cX8_refused 7 = .ok (.putfield 256, 3) := by decide +kernel
theorem dX8_refused_10 : decode cX8_refused 10 = .ok (.bipush (-9), 2) := by decide +kernel
theorem dX8_refused_12 : decode cX8_refused 12 = .ok (.ireturn, 1) := by decide +kernel
theorem dX8_answer_0 : decode cX8_answer 0 = .ok (.iload_n 1, 1) := by decide +kernel
theorem dX8_answer_1 : decode cX8_answer 1 = .ok (.sipush (-1001), 3) := by decide +kernel
theorem dX8_answer_4 : decode cX8_answer 4 = .ok (.if_icmp .ne 10, 3) := by decide +kernel
theorem dX8_answer_7 : decode cX8_answer 7 = .ok (.aload_n 0, 1) := by decide +kernel
theorem dX8_answer_8 : decode cX8_answer 8 = .ok (.invokevirtual 119, 3) := by decide +kernel
theorem dX8_answer_11 : decode cX8_answer 11 = .ok (.goto 4, 3) := by decide +kernel
theorem dX8_answer_14 : decode cX8_answer 14 = .ok (.iload_n 1, 1) := by decide +kernel
theorem dX8_answer_15 : decode cX8_answer 15 = .ok (.ireturn, 1) := by decide +kernel
theorem dX8_ruleTells_0 : decode cX8_ruleTells 0 = .ok (.iload_n 2, 1) := by decide +kernel
theorem dX8_ruleTells_1 : decode cX8_ruleTells 1 = .ok (.sipush (-1000), 3) := by decide +kernel
theorem dX8_ruleTells_4 : decode cX8_ruleTells 4 = .ok (.if_icmp .ne 7, 3) := by decide +kernel
theorem dX8_ruleTells_7 : decode cX8_ruleTells 7 = .ok (.iconst 0, 1) := by decide +kernel
theorem dX8_ruleTells_8 : decode cX8_ruleTells 8 = .ok (.goto 4, 3) := by decide +kernel
theorem dX8_ruleTells_11 : decode cX8_ruleTells 11 = .ok (.iload_n 2, 1) := by decide +kernel
theorem dX8_ruleTells_12 : decode cX8_ruleTells 12 = .ok (.istore 4, 2) := by decide +kernel
theorem dX8_ruleTells_14 : decode cX8_ruleTells 14 = .ok (.iload 4, 2) := by decide +kernel
theorem dX8_ruleTells_16 : decode cX8_ruleTells 16 = .ok (.iload_n 3, 1) := by decide +kernel
theorem dX8_ruleTells_17 : decode cX8_ruleTells 17 = .ok (.iadd, 1) := by decide +kernel
theorem dX8_ruleTells_18 : decode cX8_ruleTells 18 = .ok (.invokestatic 309, 3) := by decide +kernel
theorem dX8_ruleTells_21 : decode cX8_ruleTells 21 = .ok (.istore 5, 2) := by decide +kernel
theorem dX8_ruleTells_23 : decode cX8_ruleTells 23 = .ok (.iload_n 0, 1) := by decide +kernel
theorem dX8_ruleTells_24 : decode cX8_ruleTells 24 = .ok (.tableswitch 90 0 4 #[36, 39, 52, 69, 73], 36) := by decide +kernel
theorem dX8_ruleTells_60 : decode cX8_ruleTells 60 = .ok (.iload 5, 2) := by decide +kernel
theorem dX8_ruleTells_62 : decode cX8_ruleTells 62 = .ok (.ireturn, 1) := by decide +kernel
theorem dX8_ruleTells_63 : decode cX8_ruleTells 63 = .ok (.iload 4, 2) := by decide +kernel
theorem dX8_ruleTells_65 : decode cX8_ruleTells 65 = .ok (.iload_n 3, 1) := by decide +kernel
theorem dX8_ruleTells_66 : decode cX8_ruleTells 66 = .ok (.if_icmp .le 8, 3) := by decide +kernel
theorem dX8_ruleTells_69 : decode cX8_ruleTells 69 = .ok (.iload 4, 2) := by decide +kernel
theorem dX8_ruleTells_71 : decode cX8_ruleTells 71 = .ok (.goto 4, 3) := by decide +kernel
theorem dX8_ruleTells_74 : decode cX8_ruleTells 74 = .ok (.iload_n 3, 1) := by decide +kernel
theorem dX8_ruleTells_75 : decode cX8_ruleTells 75 = .ok (.ireturn, 1) := by decide +kernel
theorem dX8_ruleTells_76 : decode cX8_ruleTells 76 = .ok (.iload 5, 2) := by decide +kernel
theorem dX8_ruleTells_78 : decode cX8_ruleTells 78 = .ok (.invokestatic 312, 3) := by decide +kernel
theorem dX8_ruleTells_81 : decode cX8_ruleTells 81 = .ok (.ifCond .eq 8, 3) := by decide +kernel
theorem dX8_ruleTells_84 : decode cX8_ruleTells 84 = .ok (.iload 5, 2) := by decide +kernel
theorem dX8_ruleTells_86 : decode cX8_ruleTells 86 = .ok (.goto 6, 3) := by decide +kernel
theorem dX8_ruleTells_89 : decode cX8_ruleTells 89 = .ok (.sipush (-1000), 3) := by decide +kernel
theorem dX8_ruleTells_92 : decode cX8_ruleTells 92 = .ok (.ireturn, 1) := by decide +kernel
theorem dX8_ruleTells_93 : decode cX8_ruleTells 93 = .ok (.sipush (-1000), 3) := by decide +kernel
theorem dX8_ruleTells_96 : decode cX8_ruleTells 96 = .ok (.ireturn, 1) := by decide +kernel
theorem dX8_ruleTells_97 : decode cX8_ruleTells 97 = .ok (.iload 5, 2) := by decide +kernel
theorem dX8_ruleTells_99 : decode cX8_ruleTells 99 = .ok (.invokestatic 312, 3) := by decide +kernel
theorem dX8_ruleTells_102 : decode cX8_ruleTells 102 = .ok (.ifCond .eq 8, 3) := by decide +kernel
theorem dX8_ruleTells_105 : decode cX8_ruleTells 105 = .ok (.iload 5, 2) := by decide +kernel
theorem dX8_ruleTells_107 : decode cX8_ruleTells 107 = .ok (.goto 6, 3) := by decide +kernel
theorem dX8_ruleTells_110 : decode cX8_ruleTells 110 = .ok (.sipush (-1001), 3) := by decide +kernel
theorem dX8_ruleTells_113 : decode cX8_ruleTells 113 = .ok (.ireturn, 1) := by decide +kernel
theorem dX8_ruleTells_114 : decode cX8_ruleTells 114 = .ok (.iload_n 1, 1) := by decide +kernel
theorem dX8_ruleTells_115 : decode cX8_ruleTells 115 = .ok (.iload_n 3, 1) := by decide +kernel
theorem dX8_ruleTells_116 : decode cX8_ruleTells 116 = .ok (.iadd, 1) := by decide +kernel
theorem dX8_ruleTells_117 : decode cX8_ruleTells 117 = .ok (.invokestatic 309, 3) := by decide +kernel
theorem dX8_ruleTells_120 : decode cX8_ruleTells 120 = .ok (.ireturn, 1) := by decide +kernel
theorem dX8_testTells_0 : decode cX8_testTells 0 = .ok (.iload_n 0, 1) := by decide +kernel
theorem dX8_testTells_1 : decode cX8_testTells 1 = .ok (.tableswitch 101 0 4 #[35, 43, 59, 73, 87], 35) := by decide +kernel
theorem dX8_testTells_36 : decode cX8_testTells 36 = .ok (.iload_n 1, 1) := by decide +kernel
theorem dX8_testTells_37 : decode cX8_testTells 37 = .ok (.invokestatic 312, 3) := by decide +kernel
theorem dX8_testTells_40 : decode cX8_testTells 40 = .ok (.invokestatic 83, 3) := by decide +kernel
theorem dX8_testTells_43 : decode cX8_testTells 43 = .ok (.ireturn, 1) := by decide +kernel
theorem dX8_testTells_44 : decode cX8_testTells 44 = .ok (.iload_n 1, 1) := by decide +kernel
theorem dX8_testTells_45 : decode cX8_testTells 45 = .ok (.invokestatic 312, 3) := by decide +kernel
theorem dX8_testTells_48 : decode cX8_testTells 48 = .ok (.ifCond .ne 7, 3) := by decide +kernel
theorem dX8_testTells_51 : decode cX8_testTells 51 = .ok (.iconst 1, 1) := by decide +kernel
theorem dX8_testTells_52 : decode cX8_testTells 52 = .ok (.goto 4, 3) := by decide +kernel
theorem dX8_testTells_55 : decode cX8_testTells 55 = .ok (.iconst 0, 1) := by decide +kernel
theorem dX8_testTells_56 : decode cX8_testTells 56 = .ok (.invokestatic 83, 3) := by decide +kernel
theorem dX8_testTells_59 : decode cX8_testTells 59 = .ok (.ireturn, 1) := by decide +kernel
theorem dX8_testTells_60 : decode cX8_testTells 60 = .ok (.iload_n 1, 1) := by decide +kernel
theorem dX8_testTells_61 : decode cX8_testTells 61 = .ok (.iload_n 2, 1) := by decide +kernel
theorem dX8_testTells_62 : decode cX8_testTells 62 = .ok (.if_icmp .ge 7, 3) := by decide +kernel
theorem dX8_testTells_65 : decode cX8_testTells 65 = .ok (.iconst 1, 1) := by decide +kernel
theorem dX8_testTells_66 : decode cX8_testTells 66 = .ok (.goto 4, 3) := by decide +kernel
theorem dX8_testTells_69 : decode cX8_testTells 69 = .ok (.iconst 0, 1) := by decide +kernel
theorem dX8_testTells_70 : decode cX8_testTells 70 = .ok (.invokestatic 83, 3) := by decide +kernel
theorem dX8_testTells_73 : decode cX8_testTells 73 = .ok (.ireturn, 1) := by decide +kernel
theorem dX8_testTells_74 : decode cX8_testTells 74 = .ok (.iload_n 1, 1) := by decide +kernel
theorem dX8_testTells_75 : decode cX8_testTells 75 = .ok (.iload_n 2, 1) := by decide +kernel
theorem dX8_testTells_76 : decode cX8_testTells 76 = .ok (.if_icmp .le 7, 3) := by decide +kernel
theorem dX8_testTells_79 : decode cX8_testTells 79 = .ok (.iconst 1, 1) := by decide +kernel
theorem dX8_testTells_80 : decode cX8_testTells 80 = .ok (.goto 4, 3) := by decide +kernel
theorem dX8_testTells_83 : decode cX8_testTells 83 = .ok (.iconst 0, 1) := by decide +kernel
theorem dX8_testTells_84 : decode cX8_testTells 84 = .ok (.invokestatic 83, 3) := by decide +kernel
theorem dX8_testTells_87 : decode cX8_testTells 87 = .ok (.ireturn, 1) := by decide +kernel
theorem dX8_testTells_88 : decode cX8_testTells 88 = .ok (.iload_n 1, 1) := by decide +kernel
theorem dX8_testTells_89 : decode cX8_testTells 89 = .ok (.iload_n 2, 1) := by decide +kernel
theorem dX8_testTells_90 : decode cX8_testTells 90 = .ok (.if_icmp .ne 7, 3) := by decide +kernel
theorem dX8_testTells_93 : decode cX8_testTells 93 = .ok (.iconst 1, 1) := by decide +kernel
theorem dX8_testTells_94 : decode cX8_testTells 94 = .ok (.goto 4, 3) := by decide +kernel
theorem dX8_testTells_97 : decode cX8_testTells 97 = .ok (.iconst 0, 1) := by decide +kernel
theorem dX8_testTells_98 : decode cX8_testTells 98 = .ok (.invokestatic 83, 3) := by decide +kernel
theorem dX8_testTells_101 : decode cX8_testTells 101 = .ok (.ireturn, 1) := by decide +kernel
theorem dX8_testTells_102 : decode cX8_testTells 102 = .ok (.iload_n 1, 1) := by decide +kernel
theorem dX8_testTells_103 : decode cX8_testTells 103 = .ok (.iload_n 2, 1) := by decide +kernel
theorem dX8_testTells_104 : decode cX8_testTells 104 = .ok (.if_icmp .ne 9, 3) := by decide +kernel
theorem dX8_testTells_107 : decode cX8_testTells 107 = .ok (.sipush (-1001), 3) := by decide +kernel
theorem dX8_testTells_110 : decode cX8_testTells 110 = .ok (.goto 4, 3) := by decide +kernel
theorem dX8_testTells_113 : decode cX8_testTells 113 = .ok (.iconst 0, 1) := by decide +kernel
theorem dX8_testTells_114 : decode cX8_testTells 114 = .ok (.ireturn, 1) := by decide +kernel
theorem dX8_bounded_0 : decode cX8_bounded 0 = .ok (.iload_n 0, 1) := by decide +kernel
theorem dX8_bounded_1 : decode cX8_bounded 1 = .ok (.sipush 999, 3) := by decide +kernel
theorem dX8_bounded_4 : decode cX8_bounded 4 = .ok (.if_icmp .le 7, 3) := by decide +kernel
theorem dX8_bounded_7 : decode cX8_bounded 7 = .ok (.sipush 999, 3) := by decide +kernel
theorem dX8_bounded_10 : decode cX8_bounded 10 = .ok (.ireturn, 1) := by decide +kernel
theorem dX8_bounded_11 : decode cX8_bounded 11 = .ok (.iload_n 0, 1) := by decide +kernel
theorem dX8_bounded_12 : decode cX8_bounded 12 = .ok (.sipush (-999), 3) := by decide +kernel
theorem dX8_bounded_15 : decode cX8_bounded 15 = .ok (.if_icmp .ge 9, 3) := by decide +kernel
theorem dX8_bounded_18 : decode cX8_bounded 18 = .ok (.sipush (-999), 3) := by decide +kernel
theorem dX8_bounded_21 : decode cX8_bounded 21 = .ok (.goto 4, 3) := by decide +kernel
theorem dX8_bounded_24 : decode cX8_bounded 24 = .ok (.iload_n 0, 1) := by decide +kernel
theorem dX8_bounded_25 : decode cX8_bounded 25 = .ok (.ireturn, 1) := by decide +kernel
theorem dX8_isEven_0 : decode cX8_isEven 0 = .ok (.iload_n 0, 1) := by decide +kernel
theorem dX8_isEven_1 : decode cX8_isEven 1 = .ok (.iconst 1, 1) := by decide +kernel
theorem dX8_isEven_2 : decode cX8_isEven 2 = .ok (.iand, 1) := by decide +kernel
theorem dX8_isEven_3 : decode cX8_isEven 3 = .ok (.ifCond .ne 7, 3) := by decide +kernel
theorem dX8_isEven_6 : decode cX8_isEven 6 = .ok (.iconst 1, 1) := by decide +kernel
theorem dX8_isEven_7 : decode cX8_isEven 7 = .ok (.goto 4, 3) := by decide +kernel
theorem dX8_isEven_10 : decode cX8_isEven 10 = .ok (.iconst 0, 1) := by decide +kernel
theorem dX8_isEven_11 : decode cX8_isEven 11 = .ok (.ireturn, 1) := by decide +kernel
theorem dX8_oneIf_0 : decode cX8_oneIf 0 = .ok (.iload_n 0, 1) := by decide +kernel
theorem dX8_oneIf_1 : decode cX8_oneIf 1 = .ok (.ifCond .eq 7, 3) := by decide +kernel
theorem dX8_oneIf_4 : decode cX8_oneIf 4 = .ok (.iconst 1, 1) := by decide +kernel
theorem dX8_oneIf_5 : decode cX8_oneIf 5 = .ok (.goto 4, 3) := by decide +kernel
theorem dX8_oneIf_8 : decode cX8_oneIf 8 = .ok (.iconst 0, 1) := by decide +kernel
theorem dX8_oneIf_9 : decode cX8_oneIf 9 = .ok (.ireturn, 1) := by decide +kernel
theorem dX8_passBy_0 : decode cX8_passBy 0 = .ok (.iconst 0, 1) := by decide +kernel
theorem dX8_passBy_1 : decode cX8_passBy 1 = .ok (.istore_n 2, 1) := by decide +kernel
theorem dX8_passBy_2 : decode cX8_passBy 2 = .ok (.iload_n 2, 1) := by decide +kernel
theorem dX8_passBy_3 : decode cX8_passBy 3 = .ok (.iload_n 1, 1) := by decide +kernel
theorem dX8_passBy_4 : decode cX8_passBy 4 = .ok (.if_icmp .ge 14, 3) := by decide +kernel
theorem dX8_passBy_7 : decode cX8_passBy 7 = .ok (.aload_n 0, 1) := by decide +kernel
theorem dX8_passBy_8 : decode cX8_passBy 8 = .ok (.invokevirtual 315, 3) := by decide +kernel
theorem dX8_passBy_11 : decode cX8_passBy 11 = .ok (.pop, 1) := by decide +kernel
theorem dX8_passBy_12 : decode cX8_passBy 12 = .ok (.iinc 2 1, 3) := by decide +kernel
theorem dX8_passBy_15 : decode cX8_passBy 15 = .ok (.goto (-13), 3) := by decide +kernel
theorem dX8_passBy_18 : decode cX8_passBy 18 = .ok (.return_, 1) := by decide +kernel
theorem dX8_hearOut_0 : decode cX8_hearOut 0 = .ok (.iconst 0, 1) := by decide +kernel
theorem dX8_hearOut_1 : decode cX8_hearOut 1 = .ok (.istore_n 2, 1) := by decide +kernel
theorem dX8_hearOut_2 : decode cX8_hearOut 2 = .ok (.iconst 0, 1) := by decide +kernel
theorem dX8_hearOut_3 : decode cX8_hearOut 3 = .ok (.istore_n 3, 1) := by decide +kernel
theorem dX8_hearOut_4 : decode cX8_hearOut 4 = .ok (.iload_n 3, 1) := by decide +kernel
theorem dX8_hearOut_5 : decode cX8_hearOut 5 = .ok (.sipush 1000, 3) := by decide +kernel
theorem dX8_hearOut_8 : decode cX8_hearOut 8 = .ok (.if_icmp .ge 34, 3) := by decide +kernel
theorem dX8_hearOut_11 : decode cX8_hearOut 11 = .ok (.aload_n 0, 1) := by decide +kernel
theorem dX8_hearOut_12 : decode cX8_hearOut 12 = .ok (.invokevirtual 320, 3) := by decide +kernel
theorem dX8_hearOut_15 : decode cX8_hearOut 15 = .ok (.ifCond .eq 27, 3) := by decide +kernel
theorem dX8_hearOut_18 : decode cX8_hearOut 18 = .ok (.aload_n 1, 1) := by decide +kernel
theorem dX8_hearOut_19 : decode cX8_hearOut 19 = .ok (.aload_n 0, 1) := by decide +kernel
theorem dX8_hearOut_20 : decode cX8_hearOut 20 = .ok (.invokevirtual 315, 3) := by decide +kernel
theorem dX8_hearOut_23 : decode cX8_hearOut 23 = .ok (.invokevirtual 323, 3) := by decide +kernel
theorem dX8_hearOut_26 : decode cX8_hearOut 26 = .ok (.ifCond .ne 7, 3) := by decide +kernel
theorem dX8_hearOut_29 : decode cX8_hearOut 29 = .ok (.sipush (-1001), 3) := by decide +kernel
theorem dX8_hearOut_32 : decode cX8_hearOut 32 = .ok (.ireturn, 1) := by decide +kernel
theorem dX8_hearOut_33 : decode cX8_hearOut 33 = .ok (.iinc 2 1, 3) := by decide +kernel
theorem dX8_hearOut_36 : decode cX8_hearOut 36 = .ok (.iinc 3 1, 3) := by decide +kernel
theorem dX8_hearOut_39 : decode cX8_hearOut 39 = .ok (.goto (-35), 3) := by decide +kernel
theorem dX8_hearOut_42 : decode cX8_hearOut 42 = .ok (.iload_n 2, 1) := by decide +kernel
theorem dX8_hearOut_43 : decode cX8_hearOut 43 = .ok (.ireturn, 1) := by decide +kernel
theorem dX8_changeEach_0 : decode cX8_changeEach 0 = .ok (.iconst 0, 1) := by decide +kernel
theorem dX8_changeEach_1 : decode cX8_changeEach 1 = .ok (.istore_n 3, 1) := by decide +kernel
theorem dX8_changeEach_2 : decode cX8_changeEach 2 = .ok (.iload_n 3, 1) := by decide +kernel
theorem dX8_changeEach_3 : decode cX8_changeEach 3 = .ok (.sipush 1000, 3) := by decide +kernel
theorem dX8_changeEach_6 : decode cX8_changeEach 6 = .ok (.if_icmp .ge 55, 3) := by decide +kernel
theorem dX8_changeEach_9 : decode cX8_changeEach 9 = .ok (.aload_n 0, 1) := by decide +kernel
theorem dX8_changeEach_10 : decode cX8_changeEach 10 = .ok (.invokevirtual 320, 3) := by decide +kernel
theorem dX8_changeEach_13 : decode cX8_changeEach 13 = .ok (.ifCond .eq 48, 3) := by decide +kernel
theorem dX8_changeEach_16 : decode cX8_changeEach 16 = .ok (.aload_n 0, 1) := by decide +kernel
theorem dX8_changeEach_17 : decode cX8_changeEach 17 = .ok (.invokevirtual 315, 3) := by decide +kernel
theorem dX8_changeEach_20 : decode cX8_changeEach 20 = .ok (.pop, 1) := by decide +kernel
theorem dX8_changeEach_21 : decode cX8_changeEach 21 = .ok (.iload_n 1, 1) := by decide +kernel
theorem dX8_changeEach_22 : decode cX8_changeEach 22 = .ok (.aload_n 0, 1) := by decide +kernel
theorem dX8_changeEach_23 : decode cX8_changeEach 23 = .ok (.getfield 326, 3) := by decide +kernel
theorem dX8_changeEach_26 : decode cX8_changeEach 26 = .ok (.aload_n 0, 1) := by decide +kernel
theorem dX8_changeEach_27 : decode cX8_changeEach 27 = .ok (.getfield 329, 3) := by decide +kernel
theorem dX8_changeEach_30 : decode cX8_changeEach 30 = .ok (.iload_n 2, 1) := by decide +kernel
theorem dX8_changeEach_31 : decode cX8_changeEach 31 = .ok (.invokestatic 237, 3) := by decide +kernel
theorem dX8_changeEach_34 : decode cX8_changeEach 34 = .ok (.istore 4, 2) := by decide +kernel
theorem dX8_changeEach_36 : decode cX8_changeEach 36 = .ok (.iload 4, 2) := by decide +kernel
theorem dX8_changeEach_38 : decode cX8_changeEach 38 = .ok (.sipush (-1001), 3) := by decide +kernel
theorem dX8_changeEach_41 : decode cX8_changeEach 41 = .ok (.if_icmp .eq 12, 3) := by decide +kernel
theorem dX8_changeEach_44 : decode cX8_changeEach 44 = .ok (.aload_n 0, 1) := by decide +kernel
theorem dX8_changeEach_45 : decode cX8_changeEach 45 = .ok (.iload 4, 2) := by decide +kernel
theorem dX8_changeEach_47 : decode cX8_changeEach 47 = .ok (.invokevirtual 332, 3) := by decide +kernel
theorem dX8_changeEach_50 : decode cX8_changeEach 50 = .ok (.ifCond .ne 5, 3) := by decide +kernel
theorem dX8_changeEach_53 : decode cX8_changeEach 53 = .ok (.iconst 0, 1) := by decide +kernel
theorem dX8_changeEach_54 : decode cX8_changeEach 54 = .ok (.ireturn, 1) := by decide +kernel
theorem dX8_changeEach_55 : decode cX8_changeEach 55 = .ok (.iinc 3 1, 3) := by decide +kernel
theorem dX8_changeEach_58 : decode cX8_changeEach 58 = .ok (.goto (-56), 3) := by decide +kernel
theorem dX8_changeEach_61 : decode cX8_changeEach 61 = .ok (.iconst 1, 1) := by decide +kernel
theorem dX8_changeEach_62 : decode cX8_changeEach 62 = .ok (.ireturn, 1) := by decide +kernel
theorem dX8_takeEach_0 : decode cX8_takeEach 0 = .ok (.iconst 0, 1) := by decide +kernel
theorem dX8_takeEach_1 : decode cX8_takeEach 1 = .ok (.istore_n 3, 1) := by decide +kernel
theorem dX8_takeEach_2 : decode cX8_takeEach 2 = .ok (.iconst 0, 1) := by decide +kernel
theorem dX8_takeEach_3 : decode cX8_takeEach 3 = .ok (.istore 4, 2) := by decide +kernel
theorem dX8_takeEach_5 : decode cX8_takeEach 5 = .ok (.iload 4, 2) := by decide +kernel
theorem dX8_takeEach_7 : decode cX8_takeEach 7 = .ok (.sipush 1000, 3) := by decide +kernel
theorem dX8_takeEach_10 : decode cX8_takeEach 10 = .ok (.if_icmp .ge 60, 3) := by decide +kernel
theorem dX8_takeEach_13 : decode cX8_takeEach 13 = .ok (.aload_n 0, 1) := by decide +kernel
theorem dX8_takeEach_14 : decode cX8_takeEach 14 = .ok (.invokevirtual 335, 3) := by decide +kernel
theorem dX8_takeEach_17 : decode cX8_takeEach 17 = .ok (.ifCond .eq 53, 3) := by decide +kernel
theorem dX8_takeEach_20 : decode cX8_takeEach 20 = .ok (.iload_n 1, 1) := by decide +kernel
theorem dX8_takeEach_21 : decode cX8_takeEach 21 = .ok (.aload_n 0, 1) := by decide +kernel
theorem dX8_takeEach_22 : decode cX8_takeEach 22 = .ok (.invokevirtual 336, 3) := by decide +kernel
theorem dX8_takeEach_25 : decode cX8_takeEach 25 = .ok (.iload_n 2, 1) := by decide +kernel
theorem dX8_takeEach_26 : decode cX8_takeEach 26 = .ok (.invokestatic 241, 3) := by decide +kernel
theorem dX8_takeEach_29 : decode cX8_takeEach 29 = .ok (.istore 5, 2) := by decide +kernel
theorem dX8_takeEach_31 : decode cX8_takeEach 31 = .ok (.iload 5, 2) := by decide +kernel
theorem dX8_takeEach_33 : decode cX8_takeEach 33 = .ok (.sipush (-1001), 3) := by decide +kernel
theorem dX8_takeEach_36 : decode cX8_takeEach 36 = .ok (.if_icmp .eq 16, 3) := by decide +kernel
theorem dX8_takeEach_39 : decode cX8_takeEach 39 = .ok (.iload 5, 2) := by decide +kernel
theorem dX8_takeEach_41 : decode cX8_takeEach 41 = .ok (.iconst 1, 1) := by decide +kernel
theorem dX8_takeEach_42 : decode cX8_takeEach 42 = .ok (.if_icmp .ne 14, 3) := by decide +kernel
theorem dX8_takeEach_45 : decode cX8_takeEach 45 = .ok (.aload_n 0, 1) := by decide +kernel
theorem dX8_takeEach_46 : decode cX8_takeEach 46 = .ok (.invokevirtual 337, 3) := by decide +kernel
theorem dX8_takeEach_49 : decode cX8_takeEach 49 = .ok (.ifCond .ne 7, 3) := by decide +kernel
theorem dX8_takeEach_52 : decode cX8_takeEach 52 = .ok (.sipush (-1001), 3) := by decide +kernel
theorem dX8_takeEach_55 : decode cX8_takeEach 55 = .ok (.ireturn, 1) := by decide +kernel
theorem dX8_takeEach_56 : decode cX8_takeEach 56 = .ok (.iload 5, 2) := by decide +kernel
theorem dX8_takeEach_58 : decode cX8_takeEach 58 = .ok (.iconst 1, 1) := by decide +kernel
theorem dX8_takeEach_59 : decode cX8_takeEach 59 = .ok (.if_icmp .ne 5, 3) := by decide +kernel
theorem dX8_takeEach_62 : decode cX8_takeEach 62 = .ok (.iconst 1, 1) := by decide +kernel
theorem dX8_takeEach_63 : decode cX8_takeEach 63 = .ok (.istore_n 3, 1) := by decide +kernel
theorem dX8_takeEach_64 : decode cX8_takeEach 64 = .ok (.iinc 4 1, 3) := by decide +kernel
theorem dX8_takeEach_67 : decode cX8_takeEach 67 = .ok (.goto (-62), 3) := by decide +kernel
theorem dX8_takeEach_70 : decode cX8_takeEach 70 = .ok (.iload_n 3, 1) := by decide +kernel
theorem dX8_takeEach_71 : decode cX8_takeEach 71 = .ok (.ireturn, 1) := by decide +kernel
theorem dX8_valuesOfRows_0 : decode cX8_valuesOfRows 0 = .ok (.iconst 0, 1) := by decide +kernel
theorem dX8_valuesOfRows_1 : decode cX8_valuesOfRows 1 = .ok (.istore_n 1, 1) := by decide +kernel
theorem dX8_valuesOfRows_2 : decode cX8_valuesOfRows 2 = .ok (.aload_n 0, 1) := by decide +kernel
theorem dX8_valuesOfRows_3 : decode cX8_valuesOfRows 3 = .ok (.getfield 10, 3) := by decide +kernel
theorem dX8_valuesOfRows_6 : decode cX8_valuesOfRows 6 = .ok (.astore_n 2, 1) := by decide +kernel
theorem dX8_valuesOfRows_7 : decode cX8_valuesOfRows 7 = .ok (.aload_n 2, 1) := by decide +kernel
theorem dX8_valuesOfRows_8 : decode cX8_valuesOfRows 8 = .ok (.arraylength, 1) := by decide +kernel
theorem dX8_valuesOfRows_9 : decode cX8_valuesOfRows 9 = .ok (.istore_n 3, 1) := by decide +kernel
theorem dX8_valuesOfRows_10 : decode cX8_valuesOfRows 10 = .ok (.iconst 0, 1) := by decide +kernel
theorem dX8_valuesOfRows_11 : decode cX8_valuesOfRows 11 = .ok (.istore 4, 2) := by decide +kernel
theorem dX8_valuesOfRows_13 : decode cX8_valuesOfRows 13 = .ok (.iload 4, 2) := by decide +kernel
theorem dX8_valuesOfRows_15 : decode cX8_valuesOfRows 15 = .ok (.iload_n 3, 1) := by decide +kernel
theorem dX8_valuesOfRows_16 : decode cX8_valuesOfRows 16 = .ok (.if_icmp .ge 23, 3) := by decide +kernel
theorem dX8_valuesOfRows_19 : decode cX8_valuesOfRows 19 = .ok (.aload_n 2, 1) := by decide +kernel
theorem dX8_valuesOfRows_20 : decode cX8_valuesOfRows 20 = .ok (.iload 4, 2) := by decide +kernel
theorem dX8_valuesOfRows_22 : decode cX8_valuesOfRows 22 = .ok (.aaload, 1) := by decide +kernel
theorem dX8_valuesOfRows_23 : decode cX8_valuesOfRows 23 = .ok (.astore 5, 2) := by decide +kernel
theorem dX8_valuesOfRows_25 : decode cX8_valuesOfRows 25 = .ok (.iload_n 1, 1) := by decide +kernel
theorem dX8_valuesOfRows_26 : decode cX8_valuesOfRows 26 = .ok (.aload 5, 2) := by decide +kernel
theorem dX8_valuesOfRows_28 : decode cX8_valuesOfRows 28 = .ok (.getfield 68, 3) := by decide +kernel
theorem dX8_valuesOfRows_31 : decode cX8_valuesOfRows 31 = .ok (.iadd, 1) := by decide +kernel
theorem dX8_valuesOfRows_32 : decode cX8_valuesOfRows 32 = .ok (.istore_n 1, 1) := by decide +kernel
theorem dX8_valuesOfRows_33 : decode cX8_valuesOfRows 33 = .ok (.iinc 4 1, 3) := by decide +kernel
theorem dX8_valuesOfRows_36 : decode cX8_valuesOfRows 36 = .ok (.goto (-23), 3) := by decide +kernel
theorem dX8_valuesOfRows_39 : decode cX8_valuesOfRows 39 = .ok (.iload_n 1, 1) := by decide +kernel
theorem dX8_valuesOfRows_40 : decode cX8_valuesOfRows 40 = .ok (.ireturn, 1) := by decide +kernel
theorem dX8_pairsOfTables_0 : decode cX8_pairsOfTables 0 = .ok (.iconst 0, 1) := by decide +kernel
theorem dX8_pairsOfTables_1 : decode cX8_pairsOfTables 1 = .ok (.istore_n 1, 1) := by decide +kernel
theorem dX8_pairsOfTables_2 : decode cX8_pairsOfTables 2 = .ok (.aload_n 0, 1) := by decide +kernel
theorem dX8_pairsOfTables_3 : decode cX8_pairsOfTables 3 = .ok (.getfield 25, 3) := by decide +kernel
theorem dX8_pairsOfTables_6 : decode cX8_pairsOfTables 6 = .ok (.astore_n 2, 1) := by decide +kernel
theorem dX8_pairsOfTables_7 : decode cX8_pairsOfTables 7 = .ok (.aload_n 2, 1) := by decide +kernel
theorem dX8_pairsOfTables_8 : decode cX8_pairsOfTables 8 = .ok (.arraylength, 1) := by decide +kernel
theorem dX8_pairsOfTables_9 : decode cX8_pairsOfTables 9 = .ok (.istore_n 3, 1) := by decide +kernel
theorem dX8_pairsOfTables_10 : decode cX8_pairsOfTables 10 = .ok (.iconst 0, 1) := by decide +kernel
theorem dX8_pairsOfTables_11 : decode cX8_pairsOfTables 11 = .ok (.istore 4, 2) := by decide +kernel
theorem dX8_pairsOfTables_13 : decode cX8_pairsOfTables 13 = .ok (.iload 4, 2) := by decide +kernel
theorem dX8_pairsOfTables_15 : decode cX8_pairsOfTables 15 = .ok (.iload_n 3, 1) := by decide +kernel
theorem dX8_pairsOfTables_16 : decode cX8_pairsOfTables 16 = .ok (.if_icmp .ge 23, 3) := by decide +kernel
theorem dX8_pairsOfTables_19 : decode cX8_pairsOfTables 19 = .ok (.aload_n 2, 1) := by decide +kernel
theorem dX8_pairsOfTables_20 : decode cX8_pairsOfTables 20 = .ok (.iload 4, 2) := by decide +kernel
theorem dX8_pairsOfTables_22 : decode cX8_pairsOfTables 22 = .ok (.aaload, 1) := by decide +kernel
theorem dX8_pairsOfTables_23 : decode cX8_pairsOfTables 23 = .ok (.astore 5, 2) := by decide +kernel
theorem dX8_pairsOfTables_25 : decode cX8_pairsOfTables 25 = .ok (.iload_n 1, 1) := by decide +kernel
theorem dX8_pairsOfTables_26 : decode cX8_pairsOfTables 26 = .ok (.aload 5, 2) := by decide +kernel
theorem dX8_pairsOfTables_28 : decode cX8_pairsOfTables 28 = .ok (.getfield 165, 3) := by decide +kernel
theorem dX8_pairsOfTables_31 : decode cX8_pairsOfTables 31 = .ok (.iadd, 1) := by decide +kernel
theorem dX8_pairsOfTables_32 : decode cX8_pairsOfTables 32 = .ok (.istore_n 1, 1) := by decide +kernel
theorem dX8_pairsOfTables_33 : decode cX8_pairsOfTables 33 = .ok (.iinc 4 1, 3) := by decide +kernel
theorem dX8_pairsOfTables_36 : decode cX8_pairsOfTables 36 = .ok (.goto (-23), 3) := by decide +kernel
theorem dX8_pairsOfTables_39 : decode cX8_pairsOfTables 39 = .ok (.iload_n 1, 1) := by decide +kernel
theorem dX8_pairsOfTables_40 : decode cX8_pairsOfTables 40 = .ok (.ireturn, 1) := by decide +kernel
theorem dX8_numbersHeard_0 : decode cX8_numbersHeard 0 = .ok (.iconst 0, 1) := by decide +kernel
theorem dX8_numbersHeard_1 : decode cX8_numbersHeard 1 = .ok (.istore_n 1, 1) := by decide +kernel
theorem dX8_numbersHeard_2 : decode cX8_numbersHeard 2 = .ok (.aload_n 0, 1) := by decide +kernel
theorem dX8_numbersHeard_3 : decode cX8_numbersHeard 3 = .ok (.getfield 32, 3) := by decide +kernel
theorem dX8_numbersHeard_6 : decode cX8_numbersHeard 6 = .ok (.astore_n 2, 1) := by decide +kernel
theorem dX8_numbersHeard_7 : decode cX8_numbersHeard 7 = .ok (.aload_n 2, 1) := by decide +kernel
theorem dX8_numbersHeard_8 : decode cX8_numbersHeard 8 = .ok (.arraylength, 1) := by decide +kernel
theorem dX8_numbersHeard_9 : decode cX8_numbersHeard 9 = .ok (.istore_n 3, 1) := by decide +kernel
theorem dX8_numbersHeard_10 : decode cX8_numbersHeard 10 = .ok (.iconst 0, 1) := by decide +kernel
theorem dX8_numbersHeard_11 : decode cX8_numbersHeard 11 = .ok (.istore 4, 2) := by decide +kernel
theorem dX8_numbersHeard_13 : decode cX8_numbersHeard 13 = .ok (.iload 4, 2) := by decide +kernel
theorem dX8_numbersHeard_15 : decode cX8_numbersHeard 15 = .ok (.iload_n 3, 1) := by decide +kernel
theorem dX8_numbersHeard_16 : decode cX8_numbersHeard 16 = .ok (.if_icmp .ge 23, 3) := by decide +kernel
theorem dX8_numbersHeard_19 : decode cX8_numbersHeard 19 = .ok (.aload_n 2, 1) := by decide +kernel
theorem dX8_numbersHeard_20 : decode cX8_numbersHeard 20 = .ok (.iload 4, 2) := by decide +kernel
theorem dX8_numbersHeard_22 : decode cX8_numbersHeard 22 = .ok (.aaload, 1) := by decide +kernel
theorem dX8_numbersHeard_23 : decode cX8_numbersHeard 23 = .ok (.astore 5, 2) := by decide +kernel
theorem dX8_numbersHeard_25 : decode cX8_numbersHeard 25 = .ok (.iload_n 1, 1) := by decide +kernel
theorem dX8_numbersHeard_26 : decode cX8_numbersHeard 26 = .ok (.aload 5, 2) := by decide +kernel
theorem dX8_numbersHeard_28 : decode cX8_numbersHeard 28 = .ok (.getfield 183, 3) := by decide +kernel
theorem dX8_numbersHeard_31 : decode cX8_numbersHeard 31 = .ok (.iadd, 1) := by decide +kernel
theorem dX8_numbersHeard_32 : decode cX8_numbersHeard 32 = .ok (.istore_n 1, 1) := by decide +kernel
theorem dX8_numbersHeard_33 : decode cX8_numbersHeard 33 = .ok (.iinc 4 1, 3) := by decide +kernel
theorem dX8_numbersHeard_36 : decode cX8_numbersHeard 36 = .ok (.goto (-23), 3) := by decide +kernel
theorem dX8_numbersHeard_39 : decode cX8_numbersHeard 39 = .ok (.iload_n 1, 1) := by decide +kernel
theorem dX8_numbersHeard_40 : decode cX8_numbersHeard 40 = .ok (.ireturn, 1) := by decide +kernel
theorem dX8_isWalkCounted_0 : decode cX8_isWalkCounted 0 = .ok (.aload_n 0, 1) := by decide +kernel
theorem dX8_isWalkCounted_1 : decode cX8_isWalkCounted 1 = .ok (.getfield 36, 3) := by decide +kernel
theorem dX8_isWalkCounted_4 : decode cX8_isWalkCounted 4 = .ok (.aload_n 1, 1) := by decide +kernel
theorem dX8_isWalkCounted_5 : decode cX8_isWalkCounted 5 = .ok (.invokevirtual 123, 3) := by decide +kernel
theorem dX8_isWalkCounted_8 : decode cX8_isWalkCounted 8 = .ok (.aload_n 0, 1) := by decide +kernel
theorem dX8_isWalkCounted_9 : decode cX8_isWalkCounted 9 = .ok (.getfield 36, 3) := by decide +kernel
theorem dX8_isWalkCounted_12 : decode cX8_isWalkCounted 12 = .ok (.getfield 214, 3) := by decide +kernel
theorem dX8_isWalkCounted_15 : decode cX8_isWalkCounted 15 = .ok (.invokevirtual 224, 3) := by decide +kernel
theorem dX8_isWalkCounted_18 : decode cX8_isWalkCounted 18 = .ok (.pop, 1) := by decide +kernel
theorem dX8_isWalkCounted_19 : decode cX8_isWalkCounted 19 = .ok (.new 91, 3) := by decide +kernel
theorem dX8_isWalkCounted_22 : decode cX8_isWalkCounted 22 = .ok (.dup, 1) := by decide +kernel
theorem dX8_isWalkCounted_23 : decode cX8_isWalkCounted 23 = .ok (.aload_n 0, 1) := by decide +kernel
theorem dX8_isWalkCounted_24 : decode cX8_isWalkCounted 24 = .ok (.getfield 36, 3) := by decide +kernel
theorem dX8_isWalkCounted_27 : decode cX8_isWalkCounted 27 = .ok (.invokespecial 93, 3) := by decide +kernel
theorem dX8_isWalkCounted_30 : decode cX8_isWalkCounted 30 = .ok (.astore_n 2, 1) := by decide +kernel
theorem dX8_isWalkCounted_31 : decode cX8_isWalkCounted 31 = .ok (.iconst 0, 1) := by decide +kernel
theorem dX8_isWalkCounted_32 : decode cX8_isWalkCounted 32 = .ok (.istore_n 3, 1) := by decide +kernel
theorem dX8_isWalkCounted_33 : decode cX8_isWalkCounted 33 = .ok (.iload_n 3, 1) := by decide +kernel
theorem dX8_isWalkCounted_34 : decode cX8_isWalkCounted 34 = .ok (.sipush 1000, 3) := by decide +kernel
theorem dX8_isWalkCounted_37 : decode cX8_isWalkCounted 37 = .ok (.if_icmp .ge 21, 3) := by decide +kernel
theorem dX8_isWalkCounted_40 : decode cX8_isWalkCounted 40 = .ok (.aload_n 2, 1) := by decide +kernel
theorem dX8_isWalkCounted_41 : decode cX8_isWalkCounted 41 = .ok (.invokevirtual 320, 3) := by decide +kernel
theorem dX8_isWalkCounted_44 : decode cX8_isWalkCounted 44 = .ok (.ifCond .eq 14, 3) := by decide +kernel
theorem dX8_isWalkCounted_47 : decode cX8_isWalkCounted 47 = .ok (.aload_n 2, 1) := by decide +kernel
theorem dX8_isWalkCounted_48 : decode cX8_isWalkCounted 48 = .ok (.invokevirtual 315, 3) := by decide +kernel
theorem dX8_isWalkCounted_51 : decode cX8_isWalkCounted 51 = .ok (.pop, 1) := by decide +kernel
theorem dX8_isWalkCounted_52 : decode cX8_isWalkCounted 52 = .ok (.iinc 3 1, 3) := by decide +kernel
theorem dX8_isWalkCounted_55 : decode cX8_isWalkCounted 55 = .ok (.goto (-22), 3) := by decide +kernel
theorem dX8_isWalkCounted_58 : decode cX8_isWalkCounted 58 = .ok (.aload_n 0, 1) := by decide +kernel
theorem dX8_isWalkCounted_59 : decode cX8_isWalkCounted 59 = .ok (.getfield 36, 3) := by decide +kernel
theorem dX8_isWalkCounted_62 : decode cX8_isWalkCounted 62 = .ok (.getfield 214, 3) := by decide +kernel
theorem dX8_isWalkCounted_65 : decode cX8_isWalkCounted 65 = .ok (.astore_n 3, 1) := by decide +kernel
theorem dX8_isWalkCounted_66 : decode cX8_isWalkCounted 66 = .ok (.aload_n 3, 1) := by decide +kernel
theorem dX8_isWalkCounted_67 : decode cX8_isWalkCounted 67 = .ok (.iconst 0, 1) := by decide +kernel
theorem dX8_isWalkCounted_68 : decode cX8_isWalkCounted 68 = .ok (.invokevirtual 218, 3) := by decide +kernel
theorem dX8_isWalkCounted_71 : decode cX8_isWalkCounted 71 = .ok (.iconst 1, 1) := by decide +kernel
theorem dX8_isWalkCounted_72 : decode cX8_isWalkCounted 72 = .ok (.if_icmp .ne 33, 3) := by decide +kernel
theorem dX8_isWalkCounted_75 : decode cX8_isWalkCounted 75 = .ok (.aload_n 3, 1) := by decide +kernel
theorem dX8_isWalkCounted_76 : decode cX8_isWalkCounted 76 = .ok (.iconst 2, 1) := by decide +kernel
theorem dX8_isWalkCounted_77 : decode cX8_isWalkCounted 77 = .ok (.invokevirtual 218, 3) := by decide +kernel
theorem dX8_isWalkCounted_80 : decode cX8_isWalkCounted 80 = .ok (.aload_n 1, 1) := by decide +kernel
theorem dX8_isWalkCounted_81 : decode cX8_isWalkCounted 81 = .ok (.getfield 68, 3) := by decide +kernel
theorem dX8_isWalkCounted_84 : decode cX8_isWalkCounted 84 = .ok (.if_icmp .ne 21, 3) := by decide +kernel
theorem dX8_isWalkCounted_87 : decode cX8_isWalkCounted 87 = .ok (.aload_n 3, 1) := by decide +kernel
theorem dX8_isWalkCounted_88 : decode cX8_isWalkCounted 88 = .ok (.iconst 1, 1) := by decide +kernel
theorem dX8_isWalkCounted_89 : decode cX8_isWalkCounted 89 = .ok (.invokevirtual 218, 3) := by decide +kernel
theorem dX8_isWalkCounted_92 : decode cX8_isWalkCounted 92 = .ok (.aload_n 1, 1) := by decide +kernel
theorem dX8_isWalkCounted_93 : decode cX8_isWalkCounted 93 = .ok (.getfield 68, 3) := by decide +kernel
theorem dX8_isWalkCounted_96 : decode cX8_isWalkCounted 96 = .ok (.iconst 1, 1) := by decide +kernel
theorem dX8_isWalkCounted_97 : decode cX8_isWalkCounted 97 = .ok (.iadd, 1) := by decide +kernel
theorem dX8_isWalkCounted_98 : decode cX8_isWalkCounted 98 = .ok (.if_icmp .ne 7, 3) := by decide +kernel
theorem dX8_isWalkCounted_101 : decode cX8_isWalkCounted 101 = .ok (.iconst 1, 1) := by decide +kernel
theorem dX8_isWalkCounted_102 : decode cX8_isWalkCounted 102 = .ok (.goto 4, 3) := by decide +kernel
theorem dX8_isWalkCounted_106 : decode cX8_isWalkCounted 106 = .ok (.ireturn, 1) := by decide +kernel
theorem dX8_isTakingPlain_0 : decode cX8_isTakingPlain 0 = .ok (.iconst 0, 1) := by decide +kernel
theorem dX8_isTakingPlain_1 : decode cX8_isTakingPlain 1 = .ok (.istore_n 2, 1) := by decide +kernel
theorem dX8_isTakingPlain_2 : decode cX8_isTakingPlain 2 = .ok (.iload_n 2, 1) := by decide +kernel
theorem dX8_isTakingPlain_3 : decode cX8_isTakingPlain 3 = .ok (.iconst 4, 1) := by decide +kernel
theorem dX8_isTakingPlain_4 : decode cX8_isTakingPlain 4 = .ok (.if_icmp .gt 48, 3) := by decide +kernel
theorem dX8_isTakingPlain_7 : decode cX8_isTakingPlain 7 = .ok (.aload_n 0, 1) := by decide +kernel
theorem dX8_isTakingPlain_8 : decode cX8_isTakingPlain 8 = .ok (.getfield 36, 3) := by decide +kernel
theorem dX8_isTakingPlain_11 : decode cX8_isTakingPlain 11 = .ok (.aload_n 1, 1) := by decide +kernel
theorem dX8_isTakingPlain_12 : decode cX8_isTakingPlain 12 = .ok (.invokevirtual 123, 3) := by decide +kernel
theorem dX8_isTakingPlain_15 : decode cX8_isTakingPlain 15 = .ok (.new 91, 3) := by decide +kernel
theorem dX8_isTakingPlain_18 : decode cX8_isTakingPlain 18 = .ok (.dup, 1) := by decide +kernel
theorem dX8_isTakingPlain_19 : decode cX8_isTakingPlain 19 = .ok (.aload_n 0, 1) := by decide +kernel
theorem dX8_isTakingPlain_20 : decode cX8_isTakingPlain 20 = .ok (.getfield 36, 3) := by decide +kernel
theorem dX8_isTakingPlain_23 : decode cX8_isTakingPlain 23 = .ok (.invokespecial 93, 3) := by decide +kernel
theorem dX8_isTakingPlain_26 : decode cX8_isTakingPlain 26 = .ok (.iload_n 2, 1) := by decide +kernel
theorem dX8_isTakingPlain_27 : decode cX8_isTakingPlain 27 = .ok (.iconst 0, 1) := by decide +kernel
theorem dX8_isTakingPlain_28 : decode cX8_isTakingPlain 28 = .ok (.invokestatic 108, 3) := by decide +kernel
theorem dX8_isTakingPlain_31 : decode cX8_isTakingPlain 31 = .ok (.pop, 1) := by decide +kernel
theorem dX8_isTakingPlain_32 : decode cX8_isTakingPlain 32 = .ok (.aload_n 0, 1) := by decide +kernel
theorem dX8_isTakingPlain_33 : decode cX8_isTakingPlain 33 = .ok (.getfield 36, 3) := by decide +kernel
theorem dX8_isTakingPlain_36 : decode cX8_isTakingPlain 36 = .ok (.aload_n 1, 1) := by decide +kernel
theorem dX8_isTakingPlain_37 : decode cX8_isTakingPlain 37 = .ok (.iload_n 2, 1) := by decide +kernel
theorem dX8_isTakingPlain_38 : decode cX8_isTakingPlain 38 = .ok (.invokestatic 340, 3) := by decide +kernel
theorem dX8_isTakingPlain_41 : decode cX8_isTakingPlain 41 = .ok (.ifCond .ne 5, 3) := by decide +kernel
theorem dX8_isTakingPlain_46 : decode cX8_isTakingPlain 46 = .ok (.iinc 2 1, 3) := by decide +kernel
theorem dX8_isTakingPlain_49 : decode cX8_isTakingPlain 49 = .ok (.goto (-47), 3) := by decide +kernel
theorem dX8_isTakingPlain_52 : decode cX8_isTakingPlain 52 = .ok (.iconst 1, 1) := by decide +kernel
theorem dX8_isTakingPlain_53 : decode cX8_isTakingPlain 53 = .ok (.ireturn, 1) := by decide +kernel
theorem dX8_isWhatIsLeft_0 : decode cX8_isWhatIsLeft 0 = .ok (.iconst 0, 1) := by decide +kernel
theorem dX8_isWhatIsLeft_1 : decode cX8_isWhatIsLeft 1 = .ok (.istore_n 3, 1) := by decide +kernel
theorem dX8_isWhatIsLeft_2 : decode cX8_isWhatIsLeft 2 = .ok (.iconst 0, 1) := by decide +kernel
theorem dX8_isWhatIsLeft_3 : decode cX8_isWhatIsLeft 3 = .ok (.istore 4, 2) := by decide +kernel
theorem dX8_isWhatIsLeft_5 : decode cX8_isWhatIsLeft 5 = .ok (.iload 4, 2) := by decide +kernel
theorem dX8_isWhatIsLeft_7 : decode cX8_isWhatIsLeft 7 = .ok (.aload_n 1, 1) := by decide +kernel
theorem dX8_isWhatIsLeft_8 : decode cX8_isWhatIsLeft 8 = .ok (.getfield 68, 3) := by decide +kernel
theorem dX8_isWhatIsLeft_11 : decode cX8_isWhatIsLeft 11 = .ok (.if_icmp .ge 50, 3) := by decide +kernel
theorem dX8_isWhatIsLeft_14 : decode cX8_isWhatIsLeft 14 = .ok (.aload_n 1, 1) := by decide +kernel
theorem dX8_isWhatIsLeft_15 : decode cX8_isWhatIsLeft 15 = .ok (.iload 4, 2) := by decide +kernel
theorem dX8_isWhatIsLeft_17 : decode cX8_isWhatIsLeft 17 = .ok (.invokevirtual 203, 3) := by decide +kernel
theorem dX8_isWhatIsLeft_20 : decode cX8_isWhatIsLeft 20 = .ok (.istore 5, 2) := by decide +kernel
theorem dX8_isWhatIsLeft_22 : decode cX8_isWhatIsLeft 22 = .ok (.iload_n 2, 1) := by decide +kernel
theorem dX8_isWhatIsLeft_23 : decode cX8_isWhatIsLeft 23 = .ok (.iload 5, 2) := by decide +kernel
theorem dX8_isWhatIsLeft_25 : decode cX8_isWhatIsLeft 25 = .ok (.iconst 0, 1) := by decide +kernel
theorem dX8_isWhatIsLeft_26 : decode cX8_isWhatIsLeft 26 = .ok (.invokestatic 241, 3) := by decide +kernel
theorem dX8_isWhatIsLeft_29 : decode cX8_isWhatIsLeft 29 = .ok (.ifCond .ne 26, 3) := by decide +kernel
theorem dX8_isWhatIsLeft_32 : decode cX8_isWhatIsLeft 32 = .ok (.aload_n 0, 1) := by decide +kernel
theorem dX8_isWhatIsLeft_33 : decode cX8_isWhatIsLeft 33 = .ok (.iload_n 3, 1) := by decide +kernel
theorem dX8_isWhatIsLeft_34 : decode cX8_isWhatIsLeft 34 = .ok (.invokevirtual 194, 3) := by decide +kernel
theorem dX8_isWhatIsLeft_37 : decode cX8_isWhatIsLeft 37 = .ok (.ifCond .eq 13, 3) := by decide +kernel
theorem dX8_isWhatIsLeft_40 : decode cX8_isWhatIsLeft 40 = .ok (.aload_n 0, 1) := by decide +kernel
theorem dX8_isWhatIsLeft_41 : decode cX8_isWhatIsLeft 41 = .ok (.iload_n 3, 1) := by decide +kernel
theorem dX8_isWhatIsLeft_42 : decode cX8_isWhatIsLeft 42 = .ok (.invokevirtual 203, 3) := by decide +kernel
theorem dX8_isWhatIsLeft_45 : decode cX8_isWhatIsLeft 45 = .ok (.iload 5, 2) := by decide +kernel
theorem dX8_isWhatIsLeft_47 : decode cX8_isWhatIsLeft 47 = .ok (.if_icmp .eq 5, 3) := by decide +kernel
theorem dX8_isWhatIsLeft_52 : decode cX8_isWhatIsLeft 52 = .ok (.iinc 3 1, 3) := by decide +kernel
theorem dX8_isWhatIsLeft_55 : decode cX8_isWhatIsLeft 55 = .ok (.iinc 4 1, 3) := by decide +kernel
theorem dX8_isWhatIsLeft_58 : decode cX8_isWhatIsLeft 58 = .ok (.goto (-53), 3) := by decide +kernel
theorem dX8_isWhatIsLeft_61 : decode cX8_isWhatIsLeft 61 = .ok (.aload_n 0, 1) := by decide +kernel
theorem dX8_isWhatIsLeft_62 : decode cX8_isWhatIsLeft 62 = .ok (.getfield 68, 3) := by decide +kernel
theorem dX8_isWhatIsLeft_65 : decode cX8_isWhatIsLeft 65 = .ok (.iload_n 3, 1) := by decide +kernel
theorem dX8_isWhatIsLeft_66 : decode cX8_isWhatIsLeft 66 = .ok (.if_icmp .ne 7, 3) := by decide +kernel
theorem dX8_isWhatIsLeft_69 : decode cX8_isWhatIsLeft 69 = .ok (.iconst 1, 1) := by decide +kernel
theorem dX8_isWhatIsLeft_70 : decode cX8_isWhatIsLeft 70 = .ok (.goto 4, 3) := by decide +kernel
theorem dX8_isWhatIsLeft_74 : decode cX8_isWhatIsLeft 74 = .ok (.ireturn, 1) := by decide +kernel
theorem dX8_areCopiesLike_0 : decode cX8_areCopiesLike 0 = .ok (.aload_n 0, 1) := by decide +kernel
theorem dX8_areCopiesLike_1 : decode cX8_areCopiesLike 1 = .ok (.getfield 43, 3) := by decide +kernel
theorem dX8_areCopiesLike_4 : decode cX8_areCopiesLike 4 = .ok (.astore_n 2, 1) := by decide +kernel
theorem dX8_areCopiesLike_5 : decode cX8_areCopiesLike 5 = .ok (.aload_n 2, 1) := by decide +kernel
theorem dX8_areCopiesLike_6 : decode cX8_areCopiesLike 6 = .ok (.arraylength, 1) := by decide +kernel
theorem dX8_areCopiesLike_7 : decode cX8_areCopiesLike 7 = .ok (.istore_n 3, 1) := by decide +kernel
theorem dX8_areCopiesLike_8 : decode cX8_areCopiesLike 8 = .ok (.iconst 0, 1) := by decide +kernel
theorem dX8_areCopiesLike_9 : decode cX8_areCopiesLike 9 = .ok (.istore 4, 2) := by decide +kernel
theorem dX8_areCopiesLike_11 : decode cX8_areCopiesLike 11 = .ok (.iload 4, 2) := by decide +kernel
theorem dX8_areCopiesLike_13 : decode cX8_areCopiesLike 13 = .ok (.iload_n 3, 1) := by decide +kernel
theorem dX8_areCopiesLike_14 : decode cX8_areCopiesLike 14 = .ok (.if_icmp .ge 32, 3) := by decide +kernel
theorem dX8_areCopiesLike_17 : decode cX8_areCopiesLike 17 = .ok (.aload_n 2, 1) := by decide +kernel
theorem dX8_areCopiesLike_18 : decode cX8_areCopiesLike 18 = .ok (.iload 4, 2) := by decide +kernel
theorem dX8_areCopiesLike_20 : decode cX8_areCopiesLike 20 = .ok (.aaload, 1) := by decide +kernel
theorem dX8_areCopiesLike_21 : decode cX8_areCopiesLike 21 = .ok (.astore 5, 2) := by decide +kernel
theorem dX8_areCopiesLike_23 : decode cX8_areCopiesLike 23 = .ok (.aload 5, 2) := by decide +kernel
theorem dX8_areCopiesLike_25 : decode cX8_areCopiesLike 25 = .ok (.aload_n 1, 1) := by decide +kernel
theorem dX8_areCopiesLike_26 : decode cX8_areCopiesLike 26 = .ok (.invokevirtual 344, 3) := by decide +kernel
theorem dX8_areCopiesLike_29 : decode cX8_areCopiesLike 29 = .ok (.aload 5, 2) := by decide +kernel
theorem dX8_areCopiesLike_31 : decode cX8_areCopiesLike 31 = .ok (.aload_n 1, 1) := by decide +kernel
theorem dX8_areCopiesLike_32 : decode cX8_areCopiesLike 32 = .ok (.invokevirtual 230, 3) := by decide +kernel
theorem dX8_areCopiesLike_35 : decode cX8_areCopiesLike 35 = .ok (.ifCond .ne 5, 3) := by decide +kernel
theorem dX8_areCopiesLike_40 : decode cX8_areCopiesLike 40 = .ok (.iinc 4 1, 3) := by decide +kernel
theorem dX8_areCopiesLike_43 : decode cX8_areCopiesLike 43 = .ok (.goto (-32), 3) := by decide +kernel
theorem dX8_areCopiesLike_46 : decode cX8_areCopiesLike 46 = .ok (.iconst 1, 1) := by decide +kernel
theorem dX8_areCopiesLike_47 : decode cX8_areCopiesLike 47 = .ok (.ireturn, 1) := by decide +kernel
theorem dX8_areCallsLike_0 : decode cX8_areCallsLike 0 = .ok (.iconst 0, 1) := by decide +kernel
theorem dX8_areCallsLike_1 : decode cX8_areCallsLike 1 = .ok (.istore_n 2, 1) := by decide +kernel
theorem dX8_areCallsLike_2 : decode cX8_areCallsLike 2 = .ok (.iload_n 2, 1) := by decide +kernel
theorem dX8_areCallsLike_3 : decode cX8_areCallsLike 3 = .ok (.iconst 3, 1) := by decide +kernel
theorem dX8_areCallsLike_4 : decode cX8_areCallsLike 4 = .ok (.if_icmp .gt 57, 3) := by decide +kernel
theorem dX8_areCallsLike_7 : decode cX8_areCallsLike 7 = .ok (.iconst 0, 1) := by decide +kernel
theorem dX8_areCallsLike_8 : decode cX8_areCallsLike 8 = .ok (.istore_n 3, 1) := by decide +kernel
theorem dX8_areCallsLike_9 : decode cX8_areCallsLike 9 = .ok (.iload_n 3, 1) := by decide +kernel
theorem dX8_areCallsLike_10 : decode cX8_areCallsLike 10 = .ok (.iconst 3, 1) := by decide +kernel
theorem dX8_areCallsLike_11 : decode cX8_areCallsLike 11 = .ok (.if_icmp .gt 44, 3) := by decide +kernel
theorem dX8_areCallsLike_14 : decode cX8_areCallsLike 14 = .ok (.aload_n 0, 1) := by decide +kernel
theorem dX8_areCallsLike_15 : decode cX8_areCallsLike 15 = .ok (.aload_n 1, 1) := by decide +kernel
theorem dX8_areCallsLike_16 : decode cX8_areCallsLike 16 = .ok (.iload_n 3, 1) := by decide +kernel
theorem dX8_areCallsLike_17 : decode cX8_areCallsLike 17 = .ok (.iload_n 2, 1) := by decide +kernel
theorem dX8_areCallsLike_18 : decode cX8_areCallsLike 18 = .ok (.iconst 0, 1) := by decide +kernel
theorem dX8_areCallsLike_19 : decode cX8_areCallsLike 19 = .ok (.invokevirtual 346, 3) := by decide +kernel
theorem dX8_areCallsLike_22 : decode cX8_areCallsLike 22 = .ok (.ifCond .eq 25, 3) := by decide +kernel
theorem dX8_areCallsLike_25 : decode cX8_areCallsLike 25 = .ok (.aload_n 0, 1) := by decide +kernel
theorem dX8_areCallsLike_26 : decode cX8_areCallsLike 26 = .ok (.aload_n 1, 1) := by decide +kernel
theorem dX8_areCallsLike_27 : decode cX8_areCallsLike 27 = .ok (.iload_n 3, 1) := by decide +kernel
theorem dX8_areCallsLike_28 : decode cX8_areCallsLike 28 = .ok (.iload_n 2, 1) := by decide +kernel
theorem dX8_areCallsLike_29 : decode cX8_areCallsLike 29 = .ok (.iconst 2, 1) := by decide +kernel
theorem dX8_areCallsLike_30 : decode cX8_areCallsLike 30 = .ok (.invokevirtual 346, 3) := by decide +kernel
theorem dX8_areCallsLike_33 : decode cX8_areCallsLike 33 = .ok (.ifCond .eq 14, 3) := by decide +kernel
theorem dX8_areCallsLike_36 : decode cX8_areCallsLike 36 = .ok (.aload_n 0, 1) := by decide +kernel
theorem dX8_areCallsLike_37 : decode cX8_areCallsLike 37 = .ok (.aload_n 1, 1) := by decide +kernel
theorem dX8_areCallsLike_38 : decode cX8_areCallsLike 38 = .ok (.iload_n 3, 1) := by decide +kernel
theorem dX8_areCallsLike_39 : decode cX8_areCallsLike 39 = .ok (.iload_n 2, 1) := by decide +kernel
theorem dX8_areCallsLike_40 : decode cX8_areCallsLike 40 = .ok (.iconst 3, 1) := by decide +kernel
theorem dX8_areCallsLike_41 : decode cX8_areCallsLike 41 = .ok (.invokevirtual 346, 3) := by decide +kernel
theorem dX8_areCallsLike_44 : decode cX8_areCallsLike 44 = .ok (.ifCond .ne 5, 3) := by decide +kernel
theorem dX8_areCallsLike_49 : decode cX8_areCallsLike 49 = .ok (.iinc 3 1, 3) := by decide +kernel
theorem dX8_areCallsLike_52 : decode cX8_areCallsLike 52 = .ok (.goto (-43), 3) := by decide +kernel
theorem dX8_areCallsLike_55 : decode cX8_areCallsLike 55 = .ok (.iinc 2 1, 3) := by decide +kernel
theorem dX8_areCallsLike_58 : decode cX8_areCallsLike 58 = .ok (.goto (-56), 3) := by decide +kernel
theorem dX8_areCallsLike_61 : decode cX8_areCallsLike 61 = .ok (.iconst 1, 1) := by decide +kernel
theorem dX8_areCallsLike_62 : decode cX8_areCallsLike 62 = .ok (.ireturn, 1) := by decide +kernel
theorem dX8_isCallLike_0 : decode cX8_isCallLike 0 = .ok (.iconst 0, 1) := by decide +kernel
theorem dX8_isCallLike_1 : decode cX8_isCallLike 1 = .ok (.istore 5, 2) := by decide +kernel
theorem dX8_isCallLike_3 : decode cX8_isCallLike 3 = .ok (.aload_n 0, 1) := by decide +kernel
theorem dX8_isCallLike_4 : decode cX8_isCallLike 4 = .ok (.getfield 43, 3) := by decide +kernel
theorem dX8_isCallLike_7 : decode cX8_isCallLike 7 = .ok (.astore 6, 2) := by decide +kernel
theorem dX8_isCallLike_9 : decode cX8_isCallLike 9 = .ok (.aload 6, 2) := by decide +kernel
theorem dX8_isCallLike_11 : decode cX8_isCallLike 11 = .ok (.arraylength, 1) := by decide +kernel
theorem dX8_isCallLike_12 : decode cX8_isCallLike 12 = .ok (.istore 7, 2) := by decide +kernel
theorem dX8_isCallLike_14 : decode cX8_isCallLike 14 = .ok (.iconst 0, 1) := by decide +kernel
theorem dX8_isCallLike_15 : decode cX8_isCallLike 15 = .ok (.istore 8, 2) := by decide +kernel
theorem dX8_isCallLike_17 : decode cX8_isCallLike 17 = .ok (.iload 8, 2) := by decide +kernel
theorem dX8_isCallLike_19 : decode cX8_isCallLike 19 = .ok (.iload 7, 2) := by decide +kernel
theorem dX8_isCallLike_21 : decode cX8_isCallLike 21 = .ok (.if_icmp .ge 139, 3) := by decide +kernel
theorem dX8_isCallLike_24 : decode cX8_isCallLike 24 = .ok (.aload 6, 2) := by decide +kernel
theorem dX8_isCallLike_26 : decode cX8_isCallLike 26 = .ok (.iload 8, 2) := by decide +kernel
theorem dX8_isCallLike_28 : decode cX8_isCallLike 28 = .ok (.aaload, 1) := by decide +kernel
theorem dX8_isCallLike_29 : decode cX8_isCallLike 29 = .ok (.astore 9, 2) := by decide +kernel
theorem dX8_isCallLike_31 : decode cX8_isCallLike 31 = .ok (.aload 9, 2) := by decide +kernel
theorem dX8_isCallLike_33 : decode cX8_isCallLike 33 = .ok (.aload_n 1, 1) := by decide +kernel
theorem dX8_isCallLike_34 : decode cX8_isCallLike 34 = .ok (.invokevirtual 344, 3) := by decide +kernel
theorem dX8_isCallLike_37 : decode cX8_isCallLike 37 = .ok (.iload_n 2, 1) := by decide +kernel
theorem dX8_isCallLike_38 : decode cX8_isCallLike 38 = .ok (.tableswitch 68 0 2 #[26, 40, 54], 26) := by decide +kernel
theorem dX8_isCallLike_64 : decode cX8_isCallLike 64 = .ok (.aload 9, 2) := by decide +kernel
theorem dX8_isCallLike_66 : decode cX8_isCallLike 66 = .ok (.iload_n 3, 1) := by decide +kernel
theorem dX8_isCallLike_67 : decode cX8_isCallLike 67 = .ok (.iload 4, 2) := by decide +kernel
theorem dX8_isCallLike_69 : decode cX8_isCallLike 69 = .ok (.iconst 1, 1) := by decide +kernel
theorem dX8_isCallLike_70 : decode cX8_isCallLike 70 = .ok (.invokevirtual 151, 3) := by decide +kernel
theorem dX8_isCallLike_73 : decode cX8_isCallLike 73 = .ok (.istore 10, 2) := by decide +kernel
theorem dX8_isCallLike_75 : decode cX8_isCallLike 75 = .ok (.goto 42, 3) := by decide +kernel
theorem dX8_isCallLike_78 : decode cX8_isCallLike 78 = .ok (.aload 9, 2) := by decide +kernel
theorem dX8_isCallLike_80 : decode cX8_isCallLike 80 = .ok (.iload_n 3, 1) := by decide +kernel
theorem dX8_isCallLike_81 : decode cX8_isCallLike 81 = .ok (.iload 4, 2) := by decide +kernel
theorem dX8_isCallLike_83 : decode cX8_isCallLike 83 = .ok (.iconst 1, 1) := by decide +kernel
theorem dX8_isCallLike_84 : decode cX8_isCallLike 84 = .ok (.invokevirtual 144, 3) := by decide +kernel
theorem dX8_isCallLike_87 : decode cX8_isCallLike 87 = .ok (.istore 10, 2) := by decide +kernel
theorem dX8_isCallLike_89 : decode cX8_isCallLike 89 = .ok (.goto 28, 3) := by decide +kernel
theorem dX8_isCallLike_92 : decode cX8_isCallLike 92 = .ok (.aload 9, 2) := by decide +kernel
theorem dX8_isCallLike_94 : decode cX8_isCallLike 94 = .ok (.iload_n 3, 1) := by decide +kernel
theorem dX8_isCallLike_95 : decode cX8_isCallLike 95 = .ok (.iload 4, 2) := by decide +kernel
theorem dX8_isCallLike_97 : decode cX8_isCallLike 97 = .ok (.iconst 1, 1) := by decide +kernel
theorem dX8_isCallLike_98 : decode cX8_isCallLike 98 = .ok (.invokevirtual 148, 3) := by decide +kernel
theorem dX8_isCallLike_101 : decode cX8_isCallLike 101 = .ok (.istore 10, 2) := by decide +kernel
theorem dX8_isCallLike_103 : decode cX8_isCallLike 103 = .ok (.goto 14, 3) := by decide +kernel
theorem dX8_isCallLike_106 : decode cX8_isCallLike 106 = .ok (.aload 9, 2) := by decide +kernel
theorem dX8_isCallLike_108 : decode cX8_isCallLike 108 = .ok (.iload_n 3, 1) := by decide +kernel
theorem dX8_isCallLike_109 : decode cX8_isCallLike 109 = .ok (.iconst 1, 1) := by decide +kernel
theorem dX8_isCallLike_110 : decode cX8_isCallLike 110 = .ok (.iload 4, 2) := by decide +kernel
theorem dX8_isCallLike_112 : decode cX8_isCallLike 112 = .ok (.invokevirtual 154, 3) := by decide +kernel
theorem dX8_isCallLike_115 : decode cX8_isCallLike 115 = .ok (.istore 10, 2) := by decide +kernel
theorem dX8_isCallLike_117 : decode cX8_isCallLike 117 = .ok (.aload 9, 2) := by decide +kernel
theorem dX8_isCallLike_119 : decode cX8_isCallLike 119 = .ok (.aload_n 0, 1) := by decide +kernel
theorem dX8_isCallLike_120 : decode cX8_isCallLike 120 = .ok (.getfield 40, 3) := by decide +kernel
theorem dX8_isCallLike_123 : decode cX8_isCallLike 123 = .ok (.if_acmp .ne 10, 3) := by decide +kernel
theorem dX8_isCallLike_126 : decode cX8_isCallLike 126 = .ok (.iload 10, 2) := by decide +kernel
theorem dX8_isCallLike_128 : decode cX8_isCallLike 128 = .ok (.istore 5, 2) := by decide +kernel
theorem dX8_isCallLike_130 : decode cX8_isCallLike 130 = .ok (.goto 24, 3) := by decide +kernel
theorem dX8_isCallLike_133 : decode cX8_isCallLike 133 = .ok (.iload 10, 2) := by decide +kernel
theorem dX8_isCallLike_135 : decode cX8_isCallLike 135 = .ok (.iload 5, 2) := by decide +kernel
theorem dX8_isCallLike_137 : decode cX8_isCallLike 137 = .ok (.if_icmp .ne 15, 3) := by decide +kernel
theorem dX8_isCallLike_140 : decode cX8_isCallLike 140 = .ok (.aload 9, 2) := by decide +kernel
theorem dX8_isCallLike_142 : decode cX8_isCallLike 142 = .ok (.aload_n 0, 1) := by decide +kernel
theorem dX8_isCallLike_143 : decode cX8_isCallLike 143 = .ok (.getfield 40, 3) := by decide +kernel
theorem dX8_isCallLike_146 : decode cX8_isCallLike 146 = .ok (.invokevirtual 230, 3) := by decide +kernel
theorem dX8_isCallLike_149 : decode cX8_isCallLike 149 = .ok (.ifCond .ne 5, 3) := by decide +kernel
theorem dX8_isCallLike_154 : decode cX8_isCallLike 154 = .ok (.iinc 8 1, 3) := by decide +kernel
theorem dX8_isCallLike_157 : decode cX8_isCallLike 157 = .ok (.goto (-140), 3) := by decide +kernel
theorem dX8_isCallLike_160 : decode cX8_isCallLike 160 = .ok (.iconst 1, 1) := by decide +kernel
theorem dX8_isCallLike_161 : decode cX8_isCallLike 161 = .ok (.ireturn, 1) := by decide +kernel
theorem dX8_mixed_0 : decode cX8_mixed 0 = .ok (.lload_n 0, 1) := by decide +kernel
theorem dX8_mixed_1 : decode cX8_mixed 1 = .ok (.ldc2_w 350, 3) := by decide +kernel
theorem dX8_mixed_4 : decode cX8_mixed 4 = .ok (.lmul, 1) := by decide +kernel
theorem dX8_mixed_5 : decode cX8_mixed 5 = .ok (.iload_n 2, 1) := by decide +kernel
theorem dX8_mixed_6 : decode cX8_mixed 6 = .ok (.i2l, 1) := by decide +kernel
theorem dX8_mixed_7 : decode cX8_mixed 7 = .ok (.ladd, 1) := by decide +kernel
theorem dX8_mixed_8 : decode cX8_mixed 8 = .ok (.lreturn, 1) := by decide +kernel
theorem dX8_mixedRow_0 : decode cX8_mixedRow 0 = .ok (.lload_n 0, 1) := by decide +kernel
theorem dX8_mixedRow_1 : decode cX8_mixedRow 1 = .ok (.aload_n 2, 1) := by decide +kernel
theorem dX8_mixedRow_2 : decode cX8_mixedRow 2 = .ok (.getfield 68, 3) := by decide +kernel
theorem dX8_mixedRow_5 : decode cX8_mixedRow 5 = .ok (.invokestatic 277, 3) := by decide +kernel
theorem dX8_mixedRow_8 : decode cX8_mixedRow 8 = .ok (.lstore_n 3, 1) := by decide +kernel
theorem dX8_mixedRow_9 : decode cX8_mixedRow 9 = .ok (.iconst 0, 1) := by decide +kernel
theorem dX8_mixedRow_10 : decode cX8_mixedRow 10 = .ok (.istore 5, 2) := by decide +kernel
theorem dX8_mixedRow_12 : decode cX8_mixedRow 12 = .ok (.iload 5, 2) := by decide +kernel
theorem dX8_mixedRow_14 : decode cX8_mixedRow 14 = .ok (.aload_n 2, 1) := by decide +kernel
theorem dX8_mixedRow_15 : decode cX8_mixedRow 15 = .ok (.getfield 68, 3) := by decide +kernel
theorem dX8_mixedRow_18 : decode cX8_mixedRow 18 = .ok (.if_icmp .ge 20, 3) := by decide +kernel
theorem dX8_mixedRow_21 : decode cX8_mixedRow 21 = .ok (.lload_n 3, 1) := by decide +kernel
theorem dX8_mixedRow_22 : decode cX8_mixedRow 22 = .ok (.aload_n 2, 1) := by decide +kernel
theorem dX8_mixedRow_23 : decode cX8_mixedRow 23 = .ok (.iload 5, 2) := by decide +kernel
theorem dX8_mixedRow_25 : decode cX8_mixedRow 25 = .ok (.invokevirtual 203, 3) := by decide +kernel
theorem dX8_mixedRow_28 : decode cX8_mixedRow 28 = .ok (.invokestatic 277, 3) := by decide +kernel
theorem dX8_mixedRow_31 : decode cX8_mixedRow 31 = .ok (.lstore_n 3, 1) := by decide +kernel
theorem dX8_mixedRow_32 : decode cX8_mixedRow 32 = .ok (.iinc 5 1, 3) := by decide +kernel
theorem dX8_mixedRow_35 : decode cX8_mixedRow 35 = .ok (.goto (-23), 3) := by decide +kernel
theorem dX8_mixedRow_38 : decode cX8_mixedRow 38 = .ok (.lload_n 3, 1) := by decide +kernel
theorem dX8_mixedRow_39 : decode cX8_mixedRow 39 = .ok (.aload_n 2, 1) := by decide +kernel
theorem dX8_mixedRow_40 : decode cX8_mixedRow 40 = .ok (.getfield 79, 3) := by decide +kernel
theorem dX8_mixedRow_43 : decode cX8_mixedRow 43 = .ok (.invokestatic 83, 3) := by decide +kernel
theorem dX8_mixedRow_46 : decode cX8_mixedRow 46 = .ok (.invokestatic 277, 3) := by decide +kernel
theorem dX8_mixedRow_49 : decode cX8_mixedRow 49 = .ok (.lstore_n 3, 1) := by decide +kernel
theorem dX8_mixedRow_50 : decode cX8_mixedRow 50 = .ok (.iconst 0, 1) := by decide +kernel
theorem dX8_mixedRow_51 : decode cX8_mixedRow 51 = .ok (.istore 5, 2) := by decide +kernel
theorem dX8_mixedRow_53 : decode cX8_mixedRow 53 = .ok (.iload 5, 2) := by decide +kernel
theorem dX8_mixedRow_55 : decode cX8_mixedRow 55 = .ok (.iconst 4, 1) := by decide +kernel
theorem dX8_mixedRow_56 : decode cX8_mixedRow 56 = .ok (.if_icmp .gt 23, 3) := by decide +kernel
theorem dX8_mixedRow_59 : decode cX8_mixedRow 59 = .ok (.lload_n 3, 1) := by decide +kernel
theorem dX8_mixedRow_60 : decode cX8_mixedRow 60 = .ok (.aload_n 2, 1) := by decide +kernel
theorem dX8_mixedRow_61 : decode cX8_mixedRow 61 = .ok (.getfield 214, 3) := by decide +kernel
theorem dX8_mixedRow_64 : decode cX8_mixedRow 64 = .ok (.iload 5, 2) := by decide +kernel
theorem dX8_mixedRow_66 : decode cX8_mixedRow 66 = .ok (.invokevirtual 218, 3) := by decide +kernel
theorem dX8_mixedRow_69 : decode cX8_mixedRow 69 = .ok (.invokestatic 277, 3) := by decide +kernel
theorem dX8_mixedRow_72 : decode cX8_mixedRow 72 = .ok (.lstore_n 3, 1) := by decide +kernel
theorem dX8_mixedRow_73 : decode cX8_mixedRow 73 = .ok (.iinc 5 1, 3) := by decide +kernel
theorem dX8_mixedRow_76 : decode cX8_mixedRow 76 = .ok (.goto (-23), 3) := by decide +kernel
theorem dX8_mixedRow_79 : decode cX8_mixedRow 79 = .ok (.lload_n 3, 1) := by decide +kernel
theorem dX8_mixedRow_80 : decode cX8_mixedRow 80 = .ok (.lreturn, 1) := by decide +kernel
theorem dX8_mixedTable_0 : decode cX8_mixedTable 0 = .ok (.lload_n 0, 1) := by decide +kernel
theorem dX8_mixedTable_1 : decode cX8_mixedTable 1 = .ok (.aload_n 2, 1) := by decide +kernel
theorem dX8_mixedTable_2 : decode cX8_mixedTable 2 = .ok (.getfield 165, 3) := by decide +kernel
theorem dX8_mixedTable_5 : decode cX8_mixedTable 5 = .ok (.invokestatic 277, 3) := by decide +kernel
theorem dX8_mixedTable_8 : decode cX8_mixedTable 8 = .ok (.lstore_n 3, 1) := by decide +kernel
theorem dX8_mixedTable_9 : decode cX8_mixedTable 9 = .ok (.iconst 0, 1) := by decide +kernel
theorem dX8_mixedTable_10 : decode cX8_mixedTable 10 = .ok (.istore 5, 2) := by decide +kernel
theorem dX8_mixedTable_12 : decode cX8_mixedTable 12 = .ok (.iload 5, 2) := by decide +kernel
theorem dX8_mixedTable_14 : decode cX8_mixedTable 14 = .ok (.aload_n 2, 1) := by decide +kernel
theorem dX8_mixedTable_15 : decode cX8_mixedTable 15 = .ok (.getfield 165, 3) := by decide +kernel
theorem dX8_mixedTable_18 : decode cX8_mixedTable 18 = .ok (.if_icmp .ge 33, 3) := by decide +kernel
theorem dX8_mixedTable_21 : decode cX8_mixedTable 21 = .ok (.aload_n 2, 1) := by decide +kernel
theorem dX8_mixedTable_22 : decode cX8_mixedTable 22 = .ok (.iload 5, 2) := by decide +kernel
theorem dX8_mixedTable_24 : decode cX8_mixedTable 24 = .ok (.invokevirtual 352, 3) := by decide +kernel
theorem dX8_mixedTable_27 : decode cX8_mixedTable 27 = .ok (.istore 6, 2) := by decide +kernel
theorem dX8_mixedTable_29 : decode cX8_mixedTable 29 = .ok (.lload_n 3, 1) := by decide +kernel
theorem dX8_mixedTable_30 : decode cX8_mixedTable 30 = .ok (.iload 6, 2) := by decide +kernel
theorem dX8_mixedTable_32 : decode cX8_mixedTable 32 = .ok (.invokestatic 277, 3) := by decide +kernel
theorem dX8_mixedTable_35 : decode cX8_mixedTable 35 = .ok (.aload_n 2, 1) := by decide +kernel
theorem dX8_mixedTable_36 : decode cX8_mixedTable 36 = .ok (.iload 6, 2) := by decide +kernel
theorem dX8_mixedTable_38 : decode cX8_mixedTable 38 = .ok (.invokevirtual 137, 3) := by decide +kernel
theorem dX8_mixedTable_41 : decode cX8_mixedTable 41 = .ok (.invokestatic 277, 3) := by decide +kernel
theorem dX8_mixedTable_44 : decode cX8_mixedTable 44 = .ok (.lstore_n 3, 1) := by decide +kernel
theorem dX8_mixedTable_45 : decode cX8_mixedTable 45 = .ok (.iinc 5 1, 3) := by decide +kernel
theorem dX8_mixedTable_48 : decode cX8_mixedTable 48 = .ok (.goto (-36), 3) := by decide +kernel
theorem dX8_mixedTable_51 : decode cX8_mixedTable 51 = .ok (.lload_n 3, 1) := by decide +kernel
theorem dX8_mixedTable_52 : decode cX8_mixedTable 52 = .ok (.lreturn, 1) := by decide +kernel
theorem dX8_mixedHearer_0 : decode cX8_mixedHearer 0 = .ok (.lload_n 0, 1) := by decide +kernel
theorem dX8_mixedHearer_1 : decode cX8_mixedHearer 1 = .ok (.lstore_n 3, 1) := by decide +kernel
theorem dX8_mixedHearer_2 : decode cX8_mixedHearer 2 = .ok (.iconst 0, 1) := by decide +kernel
theorem dX8_mixedHearer_3 : decode cX8_mixedHearer 3 = .ok (.istore 5, 2) := by decide +kernel
theorem dX8_mixedHearer_5 : decode cX8_mixedHearer 5 = .ok (.iload 5, 2) := by decide +kernel
theorem dX8_mixedHearer_7 : decode cX8_mixedHearer 7 = .ok (.iconst 3, 1) := by decide +kernel
theorem dX8_mixedHearer_8 : decode cX8_mixedHearer 8 = .ok (.if_icmp .gt 20, 3) := by decide +kernel
theorem dX8_mixedHearer_11 : decode cX8_mixedHearer 11 = .ok (.lload_n 3, 1) := by decide +kernel
theorem dX8_mixedHearer_12 : decode cX8_mixedHearer 12 = .ok (.aload_n 2, 1) := by decide +kernel
theorem dX8_mixedHearer_13 : decode cX8_mixedHearer 13 = .ok (.iload 5, 2) := by decide +kernel
theorem dX8_mixedHearer_15 : decode cX8_mixedHearer 15 = .ok (.invokevirtual 187, 3) := by decide +kernel
theorem dX8_mixedHearer_18 : decode cX8_mixedHearer 18 = .ok (.invokestatic 277, 3) := by decide +kernel
theorem dX8_mixedHearer_21 : decode cX8_mixedHearer 21 = .ok (.lstore_n 3, 1) := by decide +kernel
theorem dX8_mixedHearer_22 : decode cX8_mixedHearer 22 = .ok (.iinc 5 1, 3) := by decide +kernel
theorem dX8_mixedHearer_25 : decode cX8_mixedHearer 25 = .ok (.goto (-20), 3) := by decide +kernel
theorem dX8_mixedHearer_28 : decode cX8_mixedHearer 28 = .ok (.lload_n 3, 1) := by decide +kernel
theorem dX8_mixedHearer_29 : decode cX8_mixedHearer 29 = .ok (.aload_n 2, 1) := by decide +kernel
theorem dX8_mixedHearer_30 : decode cX8_mixedHearer 30 = .ok (.invokevirtual 190, 3) := by decide +kernel
theorem dX8_mixedHearer_33 : decode cX8_mixedHearer 33 = .ok (.invokevirtual 355, 3) := by decide +kernel
theorem dX8_mixedHearer_36 : decode cX8_mixedHearer 36 = .ok (.invokestatic 277, 3) := by decide +kernel
theorem dX8_mixedHearer_39 : decode cX8_mixedHearer 39 = .ok (.lreturn, 1) := by decide +kernel
theorem dX8_takeOver_0 : decode cX8_takeOver 0 = .ok (.iconst 0, 1) := by decide +kernel
theorem dX8_takeOver_1 : decode cX8_takeOver 1 = .ok (.istore_n 2, 1) := by decide +kernel
theorem dX8_takeOver_2 : decode cX8_takeOver 2 = .ok (.iload_n 2, 1) := by decide +kernel
theorem dX8_takeOver_3 : decode cX8_takeOver 3 = .ok (.aload_n 0, 1) := by decide +kernel
theorem dX8_takeOver_4 : decode cX8_takeOver 4 = .ok (.arraylength, 1) := by decide +kernel
theorem dX8_takeOver_5 : decode cX8_takeOver 5 = .ok (.if_icmp .ge 21, 3) := by decide +kernel
theorem dX8_takeOver_8 : decode cX8_takeOver 8 = .ok (.iload_n 2, 1) := by decide +kernel
theorem dX8_takeOver_9 : decode cX8_takeOver 9 = .ok (.aload_n 1, 1) := by decide +kernel
theorem dX8_takeOver_10 : decode cX8_takeOver 10 = .ok (.arraylength, 1) := by decide +kernel
theorem dX8_takeOver_11 : decode cX8_takeOver 11 = .ok (.if_icmp .ge 15, 3) := by decide +kernel
theorem dX8_takeOver_14 : decode cX8_takeOver 14 = .ok (.aload_n 0, 1) := by decide +kernel
theorem dX8_takeOver_15 : decode cX8_takeOver 15 = .ok (.iload_n 2, 1) := by decide +kernel
theorem dX8_takeOver_16 : decode cX8_takeOver 16 = .ok (.aload_n 1, 1) := by decide +kernel
theorem dX8_takeOver_17 : decode cX8_takeOver 17 = .ok (.iload_n 2, 1) := by decide +kernel
theorem dX8_takeOver_18 : decode cX8_takeOver 18 = .ok (.iaload, 1) := by decide +kernel
theorem dX8_takeOver_19 : decode cX8_takeOver 19 = .ok (.iastore, 1) := by decide +kernel
theorem dX8_takeOver_20 : decode cX8_takeOver 20 = .ok (.iinc 2 1, 3) := by decide +kernel
theorem dX8_takeOver_23 : decode cX8_takeOver 23 = .ok (.goto (-21), 3) := by decide +kernel
theorem dX8_takeOver_26 : decode cX8_takeOver 26 = .ok (.return_, 1) := by decide +kernel
theorem dX8_joined_0 : decode cX8_joined 0 = .ok (.new 360, 3) := by decide +kernel
theorem dX8_joined_3 : decode cX8_joined 3 = .ok (.dup, 1) := by decide +kernel
theorem dX8_joined_4 : decode cX8_joined 4 = .ok (.invokespecial 362, 3) := by decide +kernel
theorem dX8_joined_7 : decode cX8_joined 7 = .ok (.astore_n 2, 1) := by decide +kernel
theorem dX8_joined_8 : decode cX8_joined 8 = .ok (.iconst 0, 1) := by decide +kernel
theorem dX8_joined_9 : decode cX8_joined 9 = .ok (.istore_n 3, 1) := by decide +kernel
theorem dX8_joined_10 : decode cX8_joined 10 = .ok (.iload_n 3, 1) := by decide +kernel
theorem dX8_joined_11 : decode cX8_joined 11 = .ok (.iload_n 1, 1) := by decide +kernel
theorem dX8_joined_12 : decode cX8_joined 12 = .ok (.if_icmp .ge 34, 3) := by decide +kernel
theorem dX8_joined_15 : decode cX8_joined 15 = .ok (.iload_n 3, 1) := by decide +kernel
theorem dX8_joined_16 : decode cX8_joined 16 = .ok (.aload_n 0, 1) := by decide +kernel
theorem dX8_joined_17 : decode cX8_joined 17 = .ok (.arraylength, 1) := by decide +kernel
theorem dX8_joined_18 : decode cX8_joined 18 = .ok (.if_icmp .ge 28, 3) := by decide +kernel
theorem dX8_joined_21 : decode cX8_joined 21 = .ok (.iload_n 3, 1) := by decide +kernel
theorem dX8_joined_22 : decode cX8_joined 22 = .ok (.ifCond .le 10, 3) := by decide +kernel
theorem dX8_joined_25 : decode cX8_joined 25 = .ok (.aload_n 2, 1) := by decide +kernel
theorem dX8_joined_26 : decode cX8_joined 26 = .ok (.bipush 32, 2) := by decide +kernel
theorem dX8_joined_28 : decode cX8_joined 28 = .ok (.invokevirtual 363, 3) := by decide +kernel
theorem dX8_joined_31 : decode cX8_joined 31 = .ok (.pop, 1) := by decide +kernel
theorem dX8_joined_32 : decode cX8_joined 32 = .ok (.aload_n 2, 1) := by decide +kernel
theorem dX8_joined_33 : decode cX8_joined 33 = .ok (.aload_n 0, 1) := by decide +kernel
theorem dX8_joined_34 : decode cX8_joined 34 = .ok (.iload_n 3, 1) := by decide +kernel
theorem dX8_joined_35 : decode cX8_joined 35 = .ok (.iaload, 1) := by decide +kernel
theorem dX8_joined_36 : decode cX8_joined 36 = .ok (.invokevirtual 366, 3) := by decide +kernel
theorem dX8_joined_39 : decode cX8_joined 39 = .ok (.pop, 1) := by decide +kernel
theorem dX8_joined_40 : decode cX8_joined 40 = .ok (.iinc 3 1, 3) := by decide +kernel
theorem dX8_joined_43 : decode cX8_joined 43 = .ok (.goto (-33), 3) := by decide +kernel
theorem dX8_joined_46 : decode cX8_joined 46 = .ok (.aload_n 2, 1) := by decide +kernel
theorem dX8_joined_47 : decode cX8_joined 47 = .ok (.invokevirtual 369, 3) := by decide +kernel
theorem dX8_joined_50 : decode cX8_joined 50 = .ok (.areturn, 1) := by decide +kernel
theorem dX9_init_0 : decode cX9_init 0 = .ok (.aload_n 0, 1) := by decide +kernel
theorem dX9_init_1 : decode cX9_init 1 = .ok (.invokespecial 1, 3) := by decide +kernel
theorem dX9_init_4 : decode cX9_init 4 = .ok (.return_, 1) := by decide +kernel
theorem dX10_init_0 : decode cX10_init 0 = .ok (.aload_n 0, 1) := by decide +kernel
theorem dX10_init_1 : decode cX10_init 1 = .ok (.invokespecial 3, 3) := by decide +kernel
theorem dX10_init_4 : decode cX10_init 4 = .ok (.aload_n 0, 1) := by decide +kernel
theorem dX10_init_5 : decode cX10_init 5 = .ok (.sipush (-1000), 3) := by decide +kernel
theorem dX10_init_8 : decode cX10_init 8 = .ok (.putfield 9, 3) := by decide +kernel
theorem dX10_init_11 : decode cX10_init 11 = .ok (.aload_n 0, 1) := by decide +kernel
theorem dX10_init_12 : decode cX10_init 12 = .ok (.iconst (-1), 1) := by decide +kernel
theorem dX10_init_13 : decode cX10_init 13 = .ok (.putfield 15, 3) := by decide +kernel
theorem dX10_init_16 : decode cX10_init 16 = .ok (.aload_n 0, 1) := by decide +kernel
theorem dX10_init_17 : decode cX10_init 17 = .ok (.new 18, 3) := by decide +kernel
theorem dX10_init_20 : decode cX10_init 20 = .ok (.dup, 1) := by decide +kernel
theorem dX10_init_21 : decode cX10_init 21 = .ok (.invokespecial 20, 3) := by decide +kernel
theorem dX10_init_24 : decode cX10_init 24 = .ok (.putfield 21, 3) := by decide +kernel
theorem dX10_init_27 : decode cX10_init 27 = .ok (.return_, 1) := by decide +kernel
theorem dX10_refuses_0 : decode cX10_refuses 0 = .ok (.aload_n 0, 1) := by decide +kernel
theorem dX10_refuses_1 : decode cX10_refuses 1 = .ok (.getfield 9, 3) := by decide +kernel
theorem dX10_refuses_4 : decode cX10_refuses 4 = .ok (.sipush (-1000), 3) := by decide +kernel
theorem dX10_refuses_7 : decode cX10_refuses 7 = .ok (.if_icmp .eq 13, 3) := by decide +kernel
theorem dX10_refuses_10 : decode cX10_refuses 10 = .ok (.iload_n 1, 1) := by decide +kernel
theorem dX10_refuses_11 : decode cX10_refuses 11 = .ok (.aload_n 0, 1) := by decide +kernel
theorem dX10_refuses_12 : decode cX10_refuses 12 = .ok (.getfield 9, 3) := by decide +kernel
theorem dX10_refuses_15 : decode cX10_refuses 15 = .ok (.if_icmp .ne 5, 3) := by decide +kernel
theorem dX10_refuses_18 : decode cX10_refuses 18 = .ok (.iconst 1, 1) := by decide +kernel
theorem dX10_refuses_19 : decode cX10_refuses 19 = .ok (.ireturn, 1) := by decide +kernel
theorem dX10_refuses_20 : decode cX10_refuses 20 = .ok (.aload_n 0, 1) := by decide +kernel
theorem dX10_refuses_21 : decode cX10_refuses 21 = .ok (.dup, 1) := by decide +kernel
theorem dX10_refuses_22 : decode cX10_refuses 22 = .ok (.getfield 25, 3) := by decide +kernel
theorem dX10_refuses_25 : decode cX10_refuses 25 = .ok (.iconst 1, 1) := by decide +kernel
theorem dX10_refuses_26 : decode cX10_refuses 26 = .ok (.iadd, 1) := by decide +kernel
theorem dX10_refuses_27 : decode cX10_refuses 27 = .ok (.putfield 25, 3) := by decide +kernel
theorem dX10_refuses_30 : decode cX10_refuses 30 = .ok (.aload_n 0, 1) := by decide +kernel
theorem dX10_refuses_31 : decode cX10_refuses 31 = .ok (.dup, 1) := by decide +kernel
theorem dX10_refuses_32 : decode cX10_refuses 32 = .ok (.getfield 28, 3) := by decide +kernel
theorem dX10_refuses_35 : decode cX10_refuses 35 = .ok (.iload_n 1, 1) := by decide +kernel
theorem dX10_refuses_36 : decode cX10_refuses 36 = .ok (.iadd, 1) := by decide +kernel
theorem dX10_refuses_37 : decode cX10_refuses 37 = .ok (.putfield 28, 3) := by decide +kernel
theorem dX10_refuses_40 : decode cX10_refuses 40 = .ok (.aload_n 0, 1) := by decide +kernel
theorem dX10_refuses_41 : decode cX10_refuses 41 = .ok (.iload_n 1, 1) := by decide +kernel
theorem dX10_refuses_42 : decode cX10_refuses 42 = .ok (.putfield 15, 3) := by decide +kernel
theorem dX10_refuses_45 : decode cX10_refuses 45 = .ok (.aload_n 0, 1) := by decide +kernel
theorem dX10_refuses_46 : decode cX10_refuses 46 = .ok (.getfield 21, 3) := by decide +kernel
theorem dX10_refuses_49 : decode cX10_refuses 49 = .ok (.iload_n 1, 1) := by decide +kernel
theorem dX10_refuses_50 : decode cX10_refuses 50 = .ok (.invokestatic 31, 3) := by decide +kernel
theorem dX10_refuses_53 : decode cX10_refuses 53 = .ok (.invokevirtual 37, 3) := by decide +kernel
theorem dX10_refuses_56 : decode cX10_refuses 56 = .ok (.pop, 1) := by decide +kernel
theorem dX10_refuses_57 : decode cX10_refuses 57 = .ok (.aload_n 0, 1) := by decide +kernel
theorem dX10_refuses_58 : decode cX10_refuses 58 = .ok (.getfield 21, 3) := by decide +kernel
theorem dX10_refuses_61 : decode cX10_refuses 61 = .ok (.invokevirtual 41, 3) := by decide +kernel
theorem dX10_refuses_64 : decode cX10_refuses 64 = .ok (.bipush 10, 2) := by decide +kernel
theorem dX10_refuses_66 : decode cX10_refuses 66 = .ok (.if_icmp .le 12, 3) := by decide +kernel
theorem dX10_refuses_69 : decode cX10_refuses 69 = .ok (.aload_n 0, 1) := by decide +kernel
theorem dX10_refuses_70 : decode cX10_refuses 70 = .ok (.getfield 21, 3) := by decide +kernel
theorem dX10_refuses_73 : decode cX10_refuses 73 = .ok (.iconst 0, 1) := by decide +kernel
theorem dX10_refuses_74 : decode cX10_refuses 74 = .ok (.invokevirtual 45, 3) := by decide +kernel
theorem dX10_refuses_77 : decode cX10_refuses 77 = .ok (.pop, 1) := by decide +kernel
theorem dX10_refuses_78 : decode cX10_refuses 78 = .ok (.iconst 0, 1) := by decide +kernel
theorem dX10_refuses_79 : decode cX10_refuses 79 = .ok (.ireturn, 1) := by decide +kernel
theorem dX10_forget_0 : decode cX10_forget 0 = .ok (.aload_n 0, 1) := by decide +kernel
theorem dX10_forget_1 : decode cX10_forget 1 = .ok (.iconst 0, 1) := by decide +kernel
theorem dX10_forget_2 : decode cX10_forget 2 = .ok (.putfield 25, 3) := by decide +kernel
theorem dX10_forget_5 : decode cX10_forget 5 = .ok (.aload_n 0, 1) := by decide +kernel
theorem dX10_forget_6 : decode cX10_forget 6 = .ok (.iconst 0, 1) := by decide +kernel
theorem dX10_forget_7 : decode cX10_forget 7 = .ok (.putfield 28, 3) := by decide +kernel
theorem dX10_forget_10 : decode cX10_forget 10 = .ok (.aload_n 0, 1) := by decide +kernel
theorem dX10_forget_11 : decode cX10_forget 11 = .ok (.iconst (-1), 1) := by decide +kernel
theorem dX10_forget_12 : decode cX10_forget 12 = .ok (.putfield 15, 3) := by decide +kernel
theorem dX10_forget_15 : decode cX10_forget 15 = .ok (.aload_n 0, 1) := by decide +kernel
theorem dX10_forget_16 : decode cX10_forget 16 = .ok (.getfield 21, 3) := by decide +kernel
theorem dX10_forget_19 : decode cX10_forget 19 = .ok (.invokevirtual 49, 3) := by decide +kernel
theorem dX10_forget_22 : decode cX10_forget 22 = .ok (.return_, 1) := by decide +kernel
theorem dX10_text_0 : decode cX10_text 0 = .ok (.new 52, 3) := by decide +kernel
theorem dX10_text_3 : decode cX10_text 3 = .ok (.dup, 1) := by decide +kernel
theorem dX10_text_4 : decode cX10_text 4 = .ok (.invokespecial 54, 3) := by decide +kernel
theorem dX10_text_7 : decode cX10_text 7 = .ok (.astore_n 1, 1) := by decide +kernel
theorem dX10_text_8 : decode cX10_text 8 = .ok (.aload_n 0, 1) := by decide +kernel
theorem dX10_text_9 : decode cX10_text 9 = .ok (.getfield 21, 3) := by decide +kernel
theorem dX10_text_12 : decode cX10_text 12 = .ok (.invokevirtual 55, 3) := by decide +kernel
theorem dX10_text_15 : decode cX10_text 15 = .ok (.astore_n 2, 1) := by decide +kernel
theorem dX10_text_16 : decode cX10_text 16 = .ok (.aload_n 2, 1) := by decide +kernel
theorem dX10_text_17 : decode cX10_text 17 = .ok (.invokeinterface 59 1, 5) := by decide +kernel
theorem dX10_text_22 : decode cX10_text 22 = .ok (.ifCond .eq 42, 3) := by decide +kernel
theorem dX10_text_25 : decode cX10_text 25 = .ok (.aload_n 2, 1) := by decide +kernel
theorem dX10_text_26 : decode cX10_text 26 = .ok (.invokeinterface 65 1, 5) := by decide +kernel
theorem dX10_text_31 : decode cX10_text 31 = .ok (.checkcast 32, 3) := by decide +kernel
theorem dX10_text_34 : decode cX10_text 34 = .ok (.invokevirtual 69, 3) := by decide +kernel
theorem dX10_text_37 : decode cX10_text 37 = .ok (.istore_n 3, 1) := by decide +kernel
theorem dX10_text_38 : decode cX10_text 38 = .ok (.aload_n 1, 1) := by decide +kernel
theorem dX10_text_39 : decode cX10_text 39 = .ok (.aload_n 1, 1) := by decide +kernel
theorem dX10_text_40 : decode cX10_text 40 = .ok (.invokevirtual 72, 3) := by decide +kernel
theorem dX10_text_43 : decode cX10_text 43 = .ok (.ifCond .le 8, 3) := by decide +kernel
theorem dX10_text_46 : decode cX10_text 46 = .ok (.ldc 75, 2) := by decide +kernel
theorem dX10_text_48 : decode cX10_text 48 = .ok (.goto 5, 3) := by decide +kernel
theorem dX10_text_51 : decode cX10_text 51 = .ok (.ldc 77, 2) := by decide +kernel
theorem dX10_text_53 : decode cX10_text 53 = .ok (.invokevirtual 79, 3) := by decide +kernel
theorem dX10_text_56 : decode cX10_text 56 = .ok (.iload_n 3, 1) := by decide +kernel
theorem dX10_text_57 : decode cX10_text 57 = .ok (.invokevirtual 83, 3) := by decide +kernel
theorem dX10_text_60 : decode cX10_text 60 = .ok (.pop, 1) := by decide +kernel
theorem dX10_text_61 : decode cX10_text 61 = .ok (.goto (-45), 3) := by decide +kernel
theorem dX10_text_64 : decode cX10_text 64 = .ok (.aload_n 1, 1) := by decide +kernel
theorem dX10_text_65 : decode cX10_text 65 = .ok (.invokevirtual 86, 3) := by decide +kernel
theorem dX10_text_68 : decode cX10_text 68 = .ok (.areturn, 1) := by decide +kernel
theorem dX11_isIn_0 : decode cX11_isIn 0 = .ok (.iload_n 0, 1) := by decide +kernel
theorem dX11_isIn_1 : decode cX11_isIn 1 = .ok (.iload_n 1, 1) := by decide +kernel
theorem dX11_isIn_2 : decode cX11_isIn 2 = .ok (.if_icmp .lt 12, 3) := by decide +kernel
theorem dX11_isIn_5 : decode cX11_isIn 5 = .ok (.iload_n 0, 1) := by decide +kernel
theorem dX11_isIn_6 : decode cX11_isIn 6 = .ok (.iload_n 2, 1) := by decide +kernel
theorem dX11_isIn_7 : decode cX11_isIn 7 = .ok (.if_icmp .gt 7, 3) := by decide +kernel
theorem dX11_isIn_10 : decode cX11_isIn 10 = .ok (.iconst 1, 1) := by decide +kernel
theorem dX11_isIn_11 : decode cX11_isIn 11 = .ok (.goto 4, 3) := by decide +kernel
theorem dX11_isIn_14 : decode cX11_isIn 14 = .ok (.iconst 0, 1) := by decide +kernel
theorem dX11_isIn_15 : decode cX11_isIn 15 = .ok (.ireturn, 1) := by decide +kernel
theorem dX11_one_0 : decode cX11_one 0 = .ok (.iload_n 0, 1) := by decide +kernel
theorem dX11_one_1 : decode cX11_one 1 = .ok (.ifCond .eq 7, 3) := by decide +kernel
theorem dX11_one_4 : decode cX11_one 4 = .ok (.iconst 1, 1) := by decide +kernel
theorem dX11_one_5 : decode cX11_one 5 = .ok (.goto 4, 3) := by decide +kernel
theorem dX11_one_8 : decode cX11_one 8 = .ok (.iconst 0, 1) := by decide +kernel
theorem dX11_one_9 : decode cX11_one 9 = .ok (.ireturn, 1) := by decide +kernel
theorem dX11_bounded_0 : decode cX11_bounded 0 = .ok (.sipush (-999), 3) := by decide +kernel
theorem dX11_bounded_3 : decode cX11_bounded 3 = .ok (.sipush 999, 3) := by decide +kernel
theorem dX11_bounded_6 : decode cX11_bounded 6 = .ok (.iload_n 0, 1) := by decide +kernel
theorem dX11_bounded_7 : decode cX11_bounded 7 = .ok (.invokestatic 3, 3) := by decide +kernel
theorem dX11_bounded_10 : decode cX11_bounded 10 = .ok (.invokestatic 9, 3) := by decide +kernel
theorem dX11_bounded_13 : decode cX11_bounded 13 = .ok (.ireturn, 1) := by decide +kernel
theorem dX11_init_0 : decode cX11_init 0 = .ok (.aload_n 0, 1) := by decide +kernel
theorem dX11_init_1 : decode cX11_init 1 = .ok (.invokespecial 12, 3) := by decide +kernel
theorem dX11_init_4 : decode cX11_init 4 = .ok (.aload_n 0, 1) := by decide +kernel
theorem dX11_init_5 : decode cX11_init 5 = .ok (.new 18, 3) := by decide +kernel
theorem dX11_init_8 : decode cX11_init 8 = .ok (.dup, 1) := by decide +kernel
theorem dX11_init_9 : decode cX11_init 9 = .ok (.invokespecial 20, 3) := by decide +kernel
theorem dX11_init_12 : decode cX11_init 12 = .ok (.putfield 21, 3) := by decide +kernel
theorem dX11_init_15 : decode cX11_init 15 = .ok (.aload_n 0, 1) := by decide +kernel
theorem dX11_init_16 : decode cX11_init 16 = .ok (.iconst 2, 1) := by decide +kernel
theorem dX11_init_17 : decode cX11_init 17 = .ok (.newarray .boolean, 2) := by decide +kernel
theorem dX11_init_19 : decode cX11_init 19 = .ok (.putfield 25, 3) := by decide +kernel
theorem dX11_init_22 : decode cX11_init 22 = .ok (.aload_n 0, 1) := by decide +kernel
theorem dX11_init_23 : decode cX11_init 23 = .ok (.iconst 3, 1) := by decide +kernel
theorem dX11_init_24 : decode cX11_init 24 = .ok (.bipush 7, 2) := by decide +kernel
theorem dX11_init_26 : decode cX11_init 26 = .ok (.multianewarray 29 2, 4) := by decide +kernel
theorem dX11_init_30 : decode cX11_init 30 = .ok (.putfield 31, 3) := by decide +kernel
theorem dX11_init_33 : decode cX11_init 33 = .ok (.aload_n 0, 1) := by decide +kernel
theorem dX11_init_34 : decode cX11_init 34 = .ok (.new 18, 3) := by decide +kernel
theorem dX11_init_37 : decode cX11_init 37 = .ok (.dup, 1) := by decide +kernel
theorem dX11_init_38 : decode cX11_init 38 = .ok (.invokespecial 20, 3) := by decide +kernel
theorem dX11_init_41 : decode cX11_init 41 = .ok (.putfield 34, 3) := by decide +kernel
theorem dX11_init_44 : decode cX11_init 44 = .ok (.aload_n 0, 1) := by decide +kernel
theorem dX11_init_45 : decode cX11_init 45 = .ok (.iconst 2, 1) := by decide +kernel
theorem dX11_init_46 : decode cX11_init 46 = .ok (.anewarray 37, 3) := by decide +kernel
theorem dX11_init_49 : decode cX11_init 49 = .ok (.dup, 1) := by decide +kernel
theorem dX11_init_50 : decode cX11_init 50 = .ok (.iconst 0, 1) := by decide +kernel
theorem dX11_init_51 : decode cX11_init 51 = .ok (.new 37, 3) := by decide +kernel
theorem dX11_init_54 : decode cX11_init 54 = .ok (.dup, 1) := by decide +kernel
theorem dX11_init_55 : decode cX11_init 55 = .ok (.invokespecial 39, 3) := by decide +kernel
theorem dX11_init_58 : decode cX11_init 58 = .ok (.aastore, 1) := by decide +kernel
theorem dX11_init_59 : decode cX11_init 59 = .ok (.dup, 1) := by decide +kernel
theorem dX11_init_60 : decode cX11_init 60 = .ok (.iconst 1, 1) := by decide +kernel
theorem dX11_init_61 : decode cX11_init 61 = .ok (.new 37, 3) := by decide +kernel
theorem dX11_init_64 : decode cX11_init 64 = .ok (.dup, 1) := by decide +kernel
theorem dX11_init_65 : decode cX11_init 65 = .ok (.invokespecial 39, 3) := by decide +kernel
theorem dX11_init_68 : decode cX11_init 68 = .ok (.aastore, 1) := by decide +kernel
theorem dX11_init_69 : decode cX11_init 69 = .ok (.putfield 40, 3) := by decide +kernel
theorem dX11_init_72 : decode cX11_init 72 = .ok (.iconst 0, 1) := by decide +kernel
theorem dX11_init_73 : decode cX11_init 73 = .ok (.istore_n 1, 1) := by decide +kernel
theorem dX11_init_74 : decode cX11_init 74 = .ok (.iload_n 1, 1) := by decide +kernel
theorem dX11_init_75 : decode cX11_init 75 = .ok (.iconst 2, 1) := by decide +kernel
theorem dX11_init_76 : decode cX11_init 76 = .ok (.if_icmp .ge 24, 3) := by decide +kernel
theorem dX11_init_79 : decode cX11_init 79 = .ok (.aload_n 0, 1) := by decide +kernel
theorem dX11_init_80 : decode cX11_init 80 = .ok (.getfield 21, 3) := by decide +kernel
theorem dX11_init_83 : decode cX11_init 83 = .ok (.new 18, 3) := by decide +kernel
theorem dX11_init_86 : decode cX11_init 86 = .ok (.dup, 1) := by decide +kernel
theorem dX11_init_87 : decode cX11_init 87 = .ok (.invokespecial 20, 3) := by decide +kernel
theorem dX11_init_90 : decode cX11_init 90 = .ok (.invokevirtual 44, 3) := by decide +kernel
theorem dX11_init_93 : decode cX11_init 93 = .ok (.pop, 1) := by decide +kernel
theorem dX11_init_94 : decode cX11_init 94 = .ok (.iinc 1 1, 3) := by decide +kernel
theorem dX11_init_97 : decode cX11_init 97 = .ok (.goto (-23), 3) := by decide +kernel
theorem dX11_init_100 : decode cX11_init 100 = .ok (.iconst 0, 1) := by decide +kernel
theorem dX11_init_101 : decode cX11_init 101 = .ok (.istore_n 1, 1) := by decide +kernel
theorem dX11_init_102 : decode cX11_init 102 = .ok (.iload_n 1, 1) := by decide +kernel
theorem dX11_init_103 : decode cX11_init 103 = .ok (.iconst 3, 1) := by decide +kernel
theorem dX11_init_104 : decode cX11_init 104 = .ok (.if_icmp .ge 24, 3) := by decide +kernel
theorem dX11_init_107 : decode cX11_init 107 = .ok (.aload_n 0, 1) := by decide +kernel
theorem dX11_init_108 : decode cX11_init 108 = .ok (.getfield 34, 3) := by decide +kernel
theorem dX11_init_111 : decode cX11_init 111 = .ok (.new 18, 3) := by decide +kernel
theorem dX11_init_114 : decode cX11_init 114 = .ok (.dup, 1) := by decide +kernel
theorem dX11_init_115 : decode cX11_init 115 = .ok (.invokespecial 20, 3) := by decide +kernel
theorem dX11_init_118 : decode cX11_init 118 = .ok (.invokevirtual 44, 3) := by decide +kernel
theorem dX11_init_121 : decode cX11_init 121 = .ok (.pop, 1) := by decide +kernel
theorem dX11_init_122 : decode cX11_init 122 = .ok (.iinc 1 1, 3) := by decide +kernel
theorem dX11_init_125 : decode cX11_init 125 = .ok (.goto (-23), 3) := by decide +kernel
theorem dX11_init_128 : decode cX11_init 128 = .ok (.return_, 1) := by decide +kernel
theorem dX11_thrown_0 : decode cX11_thrown 0 = .ok (.aload_n 0, 1) := by decide +kernel
theorem dX11_thrown_1 : decode cX11_thrown 1 = .ok (.getfield 48, 3) := by decide +kernel
theorem dX11_thrown_4 : decode cX11_thrown 4 = .ok (.ireturn, 1) := by decide +kernel
theorem dX11_refuse_0 : decode cX11_refuse 0 = .ok (.iload_n 1, 1) := by decide +kernel
theorem dX11_refuse_1 : decode cX11_refuse 1 = .ok (.ifCond .eq 15, 3) := by decide +kernel
theorem dX11_refuse_4 : decode cX11_refuse 4 = .ok (.aload_n 0, 1) := by decide +kernel
theorem dX11_refuse_5 : decode cX11_refuse 5 = .ok (.getfield 48, 3) := by decide +kernel
theorem dX11_refuse_8 : decode cX11_refuse 8 = .ok (.ifCond .ne 8, 3) := by decide +kernel
theorem dX11_refuse_11 : decode cX11_refuse 11 = .ok (.aload_n 0, 1) := by decide +kernel
theorem dX11_refuse_12 : decode cX11_refuse 12 = .ok (.iload_n 2, 1) := by decide +kernel
theorem dX11_refuse_13 : decode cX11_refuse 13 = .ok (.putfield 48, 3) := by decide +kernel
theorem dX11_refuse_16 : decode cX11_refuse 16 = .ok (.aload_n 0, 1) := by decide +kernel
theorem dX11_refuse_17 : decode cX11_refuse 17 = .ok (.getfield 48, 3) := by decide +kernel
theorem dX11_refuse_20 : decode cX11_refuse 20 = .ok (.ifCond .le 7, 3) := by decide +kernel
theorem dX11_refuse_23 : decode cX11_refuse 23 = .ok (.iconst 1, 1) := by decide +kernel
theorem dX11_refuse_24 : decode cX11_refuse 24 = .ok (.goto 4, 3) := by decide +kernel
theorem dX11_refuse_27 : decode cX11_refuse 27 = .ok (.iconst 0, 1) := by decide +kernel
theorem dX11_refuse_28 : decode cX11_refuse 28 = .ok (.ireturn, 1) := by decide +kernel
theorem dX11_start_0 : decode cX11_start 0 = .ok (.aload_n 0, 1) := by decide +kernel
theorem dX11_start_1 : decode cX11_start 1 = .ok (.iconst 0, 1) := by decide +kernel
theorem dX11_start_2 : decode cX11_start 2 = .ok (.putfield 48, 3) := by decide +kernel
theorem dX11_start_5 : decode cX11_start 5 = .ok (.aload_n 0, 1) := by decide +kernel
theorem dX11_start_6 : decode cX11_start 6 = .ok (.iload_n 1, 1) := by decide +kernel
theorem dX11_start_7 : decode cX11_start 7 = .ok (.iload_n 2, 1) := by decide +kernel
theorem dX11_start_8 : decode cX11_start 8 = .ok (.invokevirtual 52, 3) := by decide +kernel
theorem dX11_start_11 : decode cX11_start 11 = .ok (.ireturn, 1) := by decide +kernel
theorem dX11_nine_0 : decode cX11_nine 0 = .ok (.aload_n 0, 1) := by decide +kernel
theorem dX11_nine_1 : decode cX11_nine 1 = .ok (.dup, 1) := by decide +kernel
theorem dX11_nine_2 : decode cX11_nine 2 = .ok (.getfield 56, 3) := by decide +kernel
theorem dX11_nine_5 : decode cX11_nine 5 = .ok (.iconst 1, 1) := by decide +kernel
theorem dX11_nine_6 : decode cX11_nine 6 = .ok (.iadd, 1) := by decide +kernel
theorem dX11_nine_7 : decode cX11_nine 7 = .ok (.putfield 56, 3) := by decide +kernel
theorem dX11_nine_10 : decode cX11_nine 10 = .ok (.bipush (-9), 2) := by decide +kernel
theorem dX11_nine_12 : decode cX11_nine 12 = .ok (.ireturn, 1) := by decide +kernel
theorem dX11_isNoTwo_0 : decode cX11_isNoTwo 0 = .ok (.iload_n 0, 1) := by decide +kernel
theorem dX11_isNoTwo_1 : decode cX11_isNoTwo 1 = .ok (.iconst 0, 1) := by decide +kernel
theorem dX11_isNoTwo_2 : decode cX11_isNoTwo 2 = .ok (.iconst 1, 1) := by decide +kernel
theorem dX11_isNoTwo_3 : decode cX11_isNoTwo 3 = .ok (.invokestatic 59, 3) := by decide +kernel
theorem dX11_isNoTwo_6 : decode cX11_isNoTwo 6 = .ok (.ifCond .ne 7, 3) := by decide +kernel
theorem dX11_isNoTwo_9 : decode cX11_isNoTwo 9 = .ok (.iconst 1, 1) := by decide +kernel
theorem dX11_isNoTwo_10 : decode cX11_isNoTwo 10 = .ok (.goto 4, 3) := by decide +kernel
theorem dX11_isNoTwo_13 : decode cX11_isNoTwo 13 = .ok (.iconst 0, 1) := by decide +kernel
theorem dX11_isNoTwo_14 : decode cX11_isNoTwo 14 = .ok (.ireturn, 1) := by decide +kernel
theorem dX11_isNoTable_0 : decode cX11_isNoTable 0 = .ok (.iload_n 0, 1) := by decide +kernel
theorem dX11_isNoTable_1 : decode cX11_isNoTable 1 = .ok (.iconst 0, 1) := by decide +kernel
theorem dX11_isNoTable_2 : decode cX11_isNoTable 2 = .ok (.iconst 2, 1) := by decide +kernel
theorem dX11_isNoTable_3 : decode cX11_isNoTable 3 = .ok (.invokestatic 59, 3) := by decide +kernel
theorem dX11_isNoTable_6 : decode cX11_isNoTable 6 = .ok (.ifCond .ne 7, 3) := by decide +kernel
theorem dX11_isNoTable_9 : decode cX11_isNoTable 9 = .ok (.iconst 1, 1) := by decide +kernel
theorem dX11_isNoTable_10 : decode cX11_isNoTable 10 = .ok (.goto 4, 3) := by decide +kernel
theorem dX11_isNoTable_13 : decode cX11_isNoTable 13 = .ok (.iconst 0, 1) := by decide +kernel
theorem dX11_isNoTable_14 : decode cX11_isNoTable 14 = .ok (.ireturn, 1) := by decide +kernel
theorem dX11_isNoKey_0 : decode cX11_isNoKey 0 = .ok (.iload_n 0, 1) := by decide +kernel
theorem dX11_isNoKey_1 : decode cX11_isNoKey 1 = .ok (.iconst 0, 1) := by decide +kernel
theorem dX11_isNoKey_2 : decode cX11_isNoKey 2 = .ok (.bipush 19, 2) := by decide +kernel
theorem dX11_isNoKey_4 : decode cX11_isNoKey 4 = .ok (.invokestatic 59, 3) := by decide +kernel
theorem dX11_isNoKey_7 : decode cX11_isNoKey 7 = .ok (.ifCond .ne 7, 3) := by decide +kernel
theorem dX11_isNoKey_10 : decode cX11_isNoKey 10 = .ok (.iconst 1, 1) := by decide +kernel
theorem dX11_isNoKey_11 : decode cX11_isNoKey 11 = .ok (.goto 4, 3) := by decide +kernel
theorem dX11_isNoKey_14 : decode cX11_isNoKey 14 = .ok (.iconst 0, 1) := by decide +kernel
theorem dX11_isNoKey_15 : decode cX11_isNoKey 15 = .ok (.ireturn, 1) := by decide +kernel
theorem dX11_isNoValue_0 : decode cX11_isNoValue 0 = .ok (.iload_n 0, 1) := by decide +kernel
theorem dX11_isNoValue_1 : decode cX11_isNoValue 1 = .ok (.sipush (-999), 3) := by decide +kernel
theorem dX11_isNoValue_4 : decode cX11_isNoValue 4 = .ok (.sipush 999, 3) := by decide +kernel
theorem dX11_isNoValue_7 : decode cX11_isNoValue 7 = .ok (.invokestatic 59, 3) := by decide +kernel
theorem dX11_isNoValue_10 : decode cX11_isNoValue 10 = .ok (.ifCond .ne 7, 3) := by decide +kernel
theorem dX11_isNoValue_13 : decode cX11_isNoValue 13 = .ok (.iconst 1, 1) := by decide +kernel
theorem dX11_isNoValue_14 : decode cX11_isNoValue 14 = .ok (.goto 4, 3) := by decide +kernel
theorem dX11_isNoValue_17 : decode cX11_isNoValue 17 = .ok (.iconst 0, 1) := by decide +kernel
theorem dX11_isNoValue_18 : decode cX11_isNoValue 18 = .ok (.ireturn, 1) := by decide +kernel
theorem dX11_rule_0 : decode cX11_rule 0 = .ok (.iload_n 2, 1) := by decide +kernel
theorem dX11_rule_1 : decode cX11_rule 1 = .ok (.iload_n 3, 1) := by decide +kernel
theorem dX11_rule_2 : decode cX11_rule 2 = .ok (.iadd, 1) := by decide +kernel
theorem dX11_rule_3 : decode cX11_rule 3 = .ok (.invokestatic 63, 3) := by decide +kernel
theorem dX11_rule_6 : decode cX11_rule 6 = .ok (.istore 4, 2) := by decide +kernel
theorem dX11_rule_8 : decode cX11_rule 8 = .ok (.iload_n 0, 1) := by decide +kernel
theorem dX11_rule_9 : decode cX11_rule 9 = .ok (.tableswitch 79 0 4 #[35, 38, 44, 60, 64], 35) := by decide +kernel
theorem dX11_rule_44 : decode cX11_rule 44 = .ok (.iload 4, 2) := by decide +kernel
theorem dX11_rule_46 : decode cX11_rule 46 = .ok (.ireturn, 1) := by decide +kernel
theorem dX11_rule_47 : decode cX11_rule 47 = .ok (.iload_n 2, 1) := by decide +kernel
theorem dX11_rule_48 : decode cX11_rule 48 = .ok (.iload_n 3, 1) := by decide +kernel
theorem dX11_rule_49 : decode cX11_rule 49 = .ok (.invokestatic 9, 3) := by decide +kernel
theorem dX11_rule_52 : decode cX11_rule 52 = .ok (.ireturn, 1) := by decide +kernel
theorem dX11_rule_53 : decode cX11_rule 53 = .ok (.iload 4, 2) := by decide +kernel
theorem dX11_rule_55 : decode cX11_rule 55 = .ok (.iconst 2, 1) := by decide +kernel
theorem dX11_rule_56 : decode cX11_rule 56 = .ok (.irem, 1) := by decide +kernel
theorem dX11_rule_57 : decode cX11_rule 57 = .ok (.ifCond .ne 8, 3) := by decide +kernel
theorem dX11_rule_60 : decode cX11_rule 60 = .ok (.iload 4, 2) := by decide +kernel
theorem dX11_rule_62 : decode cX11_rule 62 = .ok (.goto 6, 3) := by decide +kernel
theorem dX11_rule_65 : decode cX11_rule 65 = .ok (.sipush (-1000), 3) := by decide +kernel
theorem dX11_rule_68 : decode cX11_rule 68 = .ok (.ireturn, 1) := by decide +kernel
theorem dX11_rule_69 : decode cX11_rule 69 = .ok (.sipush (-1000), 3) := by decide +kernel
theorem dX11_rule_72 : decode cX11_rule 72 = .ok (.ireturn, 1) := by decide +kernel
theorem dX11_rule_73 : decode cX11_rule 73 = .ok (.iload 4, 2) := by decide +kernel
theorem dX11_rule_75 : decode cX11_rule 75 = .ok (.iconst 2, 1) := by decide +kernel
theorem dX11_rule_76 : decode cX11_rule 76 = .ok (.irem, 1) := by decide +kernel
theorem dX11_rule_77 : decode cX11_rule 77 = .ok (.ifCond .eq 8, 3) := by decide +kernel
theorem dX11_rule_80 : decode cX11_rule 80 = .ok (.ldc 67, 2) := by decide +kernel
theorem dX11_rule_82 : decode cX11_rule 82 = .ok (.goto 5, 3) := by decide +kernel
theorem dX11_rule_85 : decode cX11_rule 85 = .ok (.iload 4, 2) := by decide +kernel
theorem dX11_rule_87 : decode cX11_rule 87 = .ok (.ireturn, 1) := by decide +kernel
theorem dX11_rule_88 : decode cX11_rule 88 = .ok (.iload_n 1, 1) := by decide +kernel
theorem dX11_rule_89 : decode cX11_rule 89 = .ok (.iload_n 3, 1) := by decide +kernel
theorem dX11_rule_90 : decode cX11_rule 90 = .ok (.iadd, 1) := by decide +kernel
theorem dX11_rule_91 : decode cX11_rule 91 = .ok (.invokestatic 63, 3) := by decide +kernel
theorem dX11_rule_94 : decode cX11_rule 94 = .ok (.ireturn, 1) := by decide +kernel
theorem dX11_test_0 : decode cX11_test 0 = .ok (.iload_n 0, 1) := by decide +kernel
theorem dX11_test_1 : decode cX11_test 1 = .ok (.tableswitch 107 0 4 #[35, 50, 65, 79, 93], 35) := by decide +kernel
theorem dX11_test_36 : decode cX11_test 36 = .ok (.iload_n 1, 1) := by decide +kernel
theorem dX11_test_37 : decode cX11_test 37 = .ok (.iconst 2, 1) := by decide +kernel
theorem dX11_test_38 : decode cX11_test 38 = .ok (.irem, 1) := by decide +kernel
theorem dX11_test_39 : decode cX11_test 39 = .ok (.ifCond .ne 7, 3) := by decide +kernel
theorem dX11_test_42 : decode cX11_test 42 = .ok (.iconst 1, 1) := by decide +kernel
theorem dX11_test_43 : decode cX11_test 43 = .ok (.goto 4, 3) := by decide +kernel
theorem dX11_test_46 : decode cX11_test 46 = .ok (.iconst 0, 1) := by decide +kernel
theorem dX11_test_47 : decode cX11_test 47 = .ok (.invokestatic 68, 3) := by decide +kernel
theorem dX11_test_50 : decode cX11_test 50 = .ok (.ireturn, 1) := by decide +kernel
theorem dX11_test_51 : decode cX11_test 51 = .ok (.iload_n 1, 1) := by decide +kernel
theorem dX11_test_52 : decode cX11_test 52 = .ok (.iconst 2, 1) := by decide +kernel
theorem dX11_test_53 : decode cX11_test 53 = .ok (.irem, 1) := by decide +kernel
theorem dX11_test_54 : decode cX11_test 54 = .ok (.ifCond .eq 7, 3) := by decide +kernel
theorem dX11_test_57 : decode cX11_test 57 = .ok (.iconst 1, 1) := by decide +kernel
theorem dX11_test_58 : decode cX11_test 58 = .ok (.goto 4, 3) := by decide +kernel
theorem dX11_test_61 : decode cX11_test 61 = .ok (.iconst 0, 1) := by decide +kernel
theorem dX11_test_62 : decode cX11_test 62 = .ok (.invokestatic 68, 3) := by decide +kernel
theorem dX11_test_65 : decode cX11_test 65 = .ok (.ireturn, 1) := by decide +kernel
theorem dX11_test_66 : decode cX11_test 66 = .ok (.iload_n 1, 1) := by decide +kernel
theorem dX11_test_67 : decode cX11_test 67 = .ok (.iload_n 2, 1) := by decide +kernel
theorem dX11_test_68 : decode cX11_test 68 = .ok (.if_icmp .ge 7, 3) := by decide +kernel
theorem dX11_test_71 : decode cX11_test 71 = .ok (.iconst 1, 1) := by decide +kernel
theorem dX11_test_72 : decode cX11_test 72 = .ok (.goto 4, 3) := by decide +kernel
theorem dX11_test_75 : decode cX11_test 75 = .ok (.iconst 0, 1) := by decide +kernel
theorem dX11_test_76 : decode cX11_test 76 = .ok (.invokestatic 68, 3) := by decide +kernel
theorem dX11_test_79 : decode cX11_test 79 = .ok (.ireturn, 1) := by decide +kernel
theorem dX11_test_80 : decode cX11_test 80 = .ok (.iload_n 1, 1) := by decide +kernel
theorem dX11_test_81 : decode cX11_test 81 = .ok (.iload_n 2, 1) := by decide +kernel
theorem dX11_test_82 : decode cX11_test 82 = .ok (.if_icmp .le 7, 3) := by decide +kernel
theorem dX11_test_85 : decode cX11_test 85 = .ok (.iconst 1, 1) := by decide +kernel
theorem dX11_test_86 : decode cX11_test 86 = .ok (.goto 4, 3) := by decide +kernel
theorem dX11_test_89 : decode cX11_test 89 = .ok (.iconst 0, 1) := by decide +kernel
theorem dX11_test_90 : decode cX11_test 90 = .ok (.invokestatic 68, 3) := by decide +kernel
theorem dX11_test_93 : decode cX11_test 93 = .ok (.ireturn, 1) := by decide +kernel
theorem dX11_test_94 : decode cX11_test 94 = .ok (.iload_n 1, 1) := by decide +kernel
theorem dX11_test_95 : decode cX11_test 95 = .ok (.iload_n 2, 1) := by decide +kernel
theorem dX11_test_96 : decode cX11_test 96 = .ok (.if_icmp .ne 7, 3) := by decide +kernel
theorem dX11_test_99 : decode cX11_test 99 = .ok (.iconst 1, 1) := by decide +kernel
theorem dX11_test_100 : decode cX11_test 100 = .ok (.goto 4, 3) := by decide +kernel
theorem dX11_test_103 : decode cX11_test 103 = .ok (.iconst 0, 1) := by decide +kernel
theorem dX11_test_104 : decode cX11_test 104 = .ok (.invokestatic 68, 3) := by decide +kernel
theorem dX11_test_107 : decode cX11_test 107 = .ok (.ireturn, 1) := by decide +kernel
theorem dX11_test_108 : decode cX11_test 108 = .ok (.iload_n 1, 1) := by decide +kernel
theorem dX11_test_109 : decode cX11_test 109 = .ok (.iload_n 2, 1) := by decide +kernel
theorem dX11_test_110 : decode cX11_test 110 = .ok (.if_icmp .ne 8, 3) := by decide +kernel
theorem dX11_test_113 : decode cX11_test 113 = .ok (.ldc 67, 2) := by decide +kernel
theorem dX11_test_115 : decode cX11_test 115 = .ok (.goto 4, 3) := by decide +kernel
theorem dX11_test_118 : decode cX11_test 118 = .ok (.iconst 0, 1) := by decide +kernel
theorem dX11_test_119 : decode cX11_test 119 = .ok (.ireturn, 1) := by decide +kernel
theorem dX11_type_0 : decode cX11_type 0 = .ok (.aload_n 0, 1) := by decide +kernel
theorem dX11_type_1 : decode cX11_type 1 = .ok (.iload_n 1, 1) := by decide +kernel
theorem dX11_type_2 : decode cX11_type 2 = .ok (.invokestatic 72, 3) := by decide +kernel
theorem dX11_type_5 : decode cX11_type 5 = .ok (.iconst 1, 1) := by decide +kernel
theorem dX11_type_6 : decode cX11_type 6 = .ok (.invokevirtual 76, 3) := by decide +kernel
theorem dX11_type_9 : decode cX11_type 9 = .ok (.ifCond .ne 47, 3) := by decide +kernel
theorem dX11_type_12 : decode cX11_type 12 = .ok (.aload_n 0, 1) := by decide +kernel
theorem dX11_type_13 : decode cX11_type 13 = .ok (.iload_n 2, 1) := by decide +kernel
theorem dX11_type_14 : decode cX11_type 14 = .ok (.invokestatic 79, 3) := by decide +kernel
theorem dX11_type_17 : decode cX11_type 17 = .ok (.iconst 2, 1) := by decide +kernel
theorem dX11_type_18 : decode cX11_type 18 = .ok (.invokevirtual 52, 3) := by decide +kernel
theorem dX11_type_21 : decode cX11_type 21 = .ok (.ifCond .ne 35, 3) := by decide +kernel
theorem dX11_type_24 : decode cX11_type 24 = .ok (.aload_n 0, 1) := by decide +kernel
theorem dX11_type_25 : decode cX11_type 25 = .ok (.aload_n 0, 1) := by decide +kernel
theorem dX11_type_26 : decode cX11_type 26 = .ok (.getfield 21, 3) := by decide +kernel
theorem dX11_type_29 : decode cX11_type 29 = .ok (.iload_n 1, 1) := by decide +kernel
theorem dX11_type_30 : decode cX11_type 30 = .ok (.invokevirtual 82, 3) := by decide +kernel
theorem dX11_type_33 : decode cX11_type 33 = .ok (.checkcast 18, 3) := by decide +kernel
theorem dX11_type_36 : decode cX11_type 36 = .ok (.invokevirtual 86, 3) := by decide +kernel
theorem dX11_type_39 : decode cX11_type 39 = .ok (.bipush 12, 2) := by decide +kernel
theorem dX11_type_41 : decode cX11_type 41 = .ok (.if_icmp .ne 7, 3) := by decide +kernel
theorem dX11_type_44 : decode cX11_type 44 = .ok (.iconst 1, 1) := by decide +kernel
theorem dX11_type_45 : decode cX11_type 45 = .ok (.goto 4, 3) := by decide +kernel
theorem dX11_type_48 : decode cX11_type 48 = .ok (.iconst 0, 1) := by decide +kernel
theorem dX11_type_49 : decode cX11_type 49 = .ok (.iconst 3, 1) := by decide +kernel
theorem dX11_type_50 : decode cX11_type 50 = .ok (.invokevirtual 52, 3) := by decide +kernel
theorem dX11_type_53 : decode cX11_type 53 = .ok (.ifCond .eq 5, 3) := by decide +kernel
theorem dX11_type_56 : decode cX11_type 56 = .ok (.iconst 0, 1) := by decide +kernel
theorem dX11_type_57 : decode cX11_type 57 = .ok (.ireturn, 1) := by decide +kernel
theorem dX11_type_58 : decode cX11_type 58 = .ok (.aload_n 0, 1) := by decide +kernel
theorem dX11_type_59 : decode cX11_type 59 = .ok (.getfield 21, 3) := by decide +kernel
theorem dX11_type_62 : decode cX11_type 62 = .ok (.iload_n 1, 1) := by decide +kernel
theorem dX11_type_63 : decode cX11_type 63 = .ok (.invokevirtual 82, 3) := by decide +kernel
theorem dX11_type_66 : decode cX11_type 66 = .ok (.checkcast 18, 3) := by decide +kernel
theorem dX11_type_69 : decode cX11_type 69 = .ok (.iload_n 2, 1) := by decide +kernel
theorem dX11_type_70 : decode cX11_type 70 = .ok (.invokestatic 90, 3) := by decide +kernel
theorem dX11_type_73 : decode cX11_type 73 = .ok (.invokevirtual 44, 3) := by decide +kernel
theorem dX11_type_76 : decode cX11_type 76 = .ok (.pop, 1) := by decide +kernel
theorem dX11_type_77 : decode cX11_type 77 = .ok (.aload_n 0, 1) := by decide +kernel
theorem dX11_type_78 : decode cX11_type 78 = .ok (.getfield 21, 3) := by decide +kernel
theorem dX11_type_81 : decode cX11_type 81 = .ok (.iload_n 1, 1) := by decide +kernel
theorem dX11_type_82 : decode cX11_type 82 = .ok (.invokevirtual 82, 3) := by decide +kernel
theorem dX11_type_85 : decode cX11_type 85 = .ok (.checkcast 18, 3) := by decide +kernel
theorem dX11_type_88 : decode cX11_type 88 = .ok (.invokevirtual 86, 3) := by decide +kernel
theorem dX11_type_91 : decode cX11_type 91 = .ok (.ireturn, 1) := by decide +kernel
theorem dX11_drop_0 : decode cX11_drop 0 = .ok (.aload_n 0, 1) := by decide +kernel
theorem dX11_drop_1 : decode cX11_drop 1 = .ok (.iload_n 1, 1) := by decide +kernel
theorem dX11_drop_2 : decode cX11_drop 2 = .ok (.invokestatic 72, 3) := by decide +kernel
theorem dX11_drop_5 : decode cX11_drop 5 = .ok (.iconst 1, 1) := by decide +kernel
theorem dX11_drop_6 : decode cX11_drop 6 = .ok (.invokevirtual 76, 3) := by decide +kernel
theorem dX11_drop_9 : decode cX11_drop 9 = .ok (.ifCond .ne 38, 3) := by decide +kernel
theorem dX11_drop_12 : decode cX11_drop 12 = .ok (.aload_n 0, 1) := by decide +kernel
theorem dX11_drop_13 : decode cX11_drop 13 = .ok (.iload_n 2, 1) := by decide +kernel
theorem dX11_drop_14 : decode cX11_drop 14 = .ok (.iconst 1, 1) := by decide +kernel
theorem dX11_drop_15 : decode cX11_drop 15 = .ok (.aload_n 0, 1) := by decide +kernel
theorem dX11_drop_16 : decode cX11_drop 16 = .ok (.getfield 21, 3) := by decide +kernel
theorem dX11_drop_19 : decode cX11_drop 19 = .ok (.iload_n 1, 1) := by decide +kernel
theorem dX11_drop_20 : decode cX11_drop 20 = .ok (.invokevirtual 82, 3) := by decide +kernel
theorem dX11_drop_23 : decode cX11_drop 23 = .ok (.checkcast 18, 3) := by decide +kernel
theorem dX11_drop_26 : decode cX11_drop 26 = .ok (.invokevirtual 86, 3) := by decide +kernel
theorem dX11_drop_29 : decode cX11_drop 29 = .ok (.invokestatic 59, 3) := by decide +kernel
theorem dX11_drop_32 : decode cX11_drop 32 = .ok (.ifCond .ne 7, 3) := by decide +kernel
theorem dX11_drop_35 : decode cX11_drop 35 = .ok (.iconst 1, 1) := by decide +kernel
theorem dX11_drop_36 : decode cX11_drop 36 = .ok (.goto 4, 3) := by decide +kernel
theorem dX11_drop_39 : decode cX11_drop 39 = .ok (.iconst 0, 1) := by decide +kernel
theorem dX11_drop_40 : decode cX11_drop 40 = .ok (.iconst 2, 1) := by decide +kernel
theorem dX11_drop_41 : decode cX11_drop 41 = .ok (.invokevirtual 52, 3) := by decide +kernel
theorem dX11_drop_44 : decode cX11_drop 44 = .ok (.ifCond .eq 5, 3) := by decide +kernel
theorem dX11_drop_47 : decode cX11_drop 47 = .ok (.iconst 0, 1) := by decide +kernel
theorem dX11_drop_48 : decode cX11_drop 48 = .ok (.ireturn, 1) := by decide +kernel
theorem dX11_drop_49 : decode cX11_drop 49 = .ok (.iconst 0, 1) := by decide +kernel
theorem dX11_drop_50 : decode cX11_drop 50 = .ok (.istore_n 3, 1) := by decide +kernel
theorem dX11_drop_51 : decode cX11_drop 51 = .ok (.iload_n 3, 1) := by decide +kernel
theorem dX11_drop_52 : decode cX11_drop 52 = .ok (.iload_n 2, 1) := by decide +kernel
theorem dX11_drop_53 : decode cX11_drop 53 = .ok (.if_icmp .ge 40, 3) := by decide +kernel
theorem dX11_drop_56 : decode cX11_drop 56 = .ok (.aload_n 0, 1) := by decide +kernel
theorem dX11_drop_57 : decode cX11_drop 57 = .ok (.getfield 21, 3) := by decide +kernel
theorem dX11_drop_60 : decode cX11_drop 60 = .ok (.iload_n 1, 1) := by decide +kernel
theorem dX11_drop_61 : decode cX11_drop 61 = .ok (.invokevirtual 82, 3) := by decide +kernel
theorem dX11_drop_64 : decode cX11_drop 64 = .ok (.checkcast 18, 3) := by decide +kernel
theorem dX11_drop_67 : decode cX11_drop 67 = .ok (.aload_n 0, 1) := by decide +kernel
theorem dX11_drop_68 : decode cX11_drop 68 = .ok (.getfield 21, 3) := by decide +kernel
theorem dX11_drop_71 : decode cX11_drop 71 = .ok (.iload_n 1, 1) := by decide +kernel
theorem dX11_drop_72 : decode cX11_drop 72 = .ok (.invokevirtual 82, 3) := by decide +kernel
theorem dX11_drop_75 : decode cX11_drop 75 = .ok (.checkcast 18, 3) := by decide +kernel
theorem dX11_drop_78 : decode cX11_drop 78 = .ok (.invokevirtual 86, 3) := by decide +kernel
theorem dX11_drop_81 : decode cX11_drop 81 = .ok (.iconst 1, 1) := by decide +kernel
theorem dX11_drop_82 : decode cX11_drop 82 = .ok (.isub, 1) := by decide +kernel
theorem dX11_drop_83 : decode cX11_drop 83 = .ok (.invokevirtual 96, 3) := by decide +kernel
theorem dX11_drop_86 : decode cX11_drop 86 = .ok (.pop, 1) := by decide +kernel
theorem dX11_drop_87 : decode cX11_drop 87 = .ok (.iinc 3 1, 3) := by decide +kernel
theorem dX11_drop_90 : decode cX11_drop 90 = .ok (.goto (-39), 3) := by decide +kernel
theorem dX11_drop_93 : decode cX11_drop 93 = .ok (.aload_n 0, 1) := by decide +kernel
theorem dX11_drop_94 : decode cX11_drop 94 = .ok (.getfield 21, 3) := by decide +kernel
theorem dX11_drop_97 : decode cX11_drop 97 = .ok (.iload_n 1, 1) := by decide +kernel
theorem dX11_drop_98 : decode cX11_drop 98 = .ok (.invokevirtual 82, 3) := by decide +kernel
theorem dX11_drop_101 : decode cX11_drop 101 = .ok (.checkcast 18, 3) := by decide +kernel
theorem dX11_drop_104 : decode cX11_drop 104 = .ok (.invokevirtual 86, 3) := by decide +kernel
theorem dX11_drop_107 : decode cX11_drop 107 = .ok (.ireturn, 1) := by decide +kernel
theorem dX11_fix_0 : decode cX11_fix 0 = .ok (.aload_n 0, 1) := by decide +kernel
theorem dX11_fix_1 : decode cX11_fix 1 = .ok (.iload_n 1, 1) := by decide +kernel
theorem dX11_fix_2 : decode cX11_fix 2 = .ok (.invokestatic 72, 3) := by decide +kernel
theorem dX11_fix_5 : decode cX11_fix 5 = .ok (.iconst 1, 1) := by decide +kernel
theorem dX11_fix_6 : decode cX11_fix 6 = .ok (.invokevirtual 76, 3) := by decide +kernel
theorem dX11_fix_9 : decode cX11_fix 9 = .ok (.ifCond .eq 5, 3) := by decide +kernel
theorem dX11_fix_12 : decode cX11_fix 12 = .ok (.iconst 0, 1) := by decide +kernel
theorem dX11_fix_13 : decode cX11_fix 13 = .ok (.ireturn, 1) := by decide +kernel
theorem dX11_fix_14 : decode cX11_fix 14 = .ok (.aload_n 0, 1) := by decide +kernel
theorem dX11_fix_15 : decode cX11_fix 15 = .ok (.getfield 25, 3) := by decide +kernel
theorem dX11_fix_18 : decode cX11_fix 18 = .ok (.iload_n 1, 1) := by decide +kernel
theorem dX11_fix_19 : decode cX11_fix 19 = .ok (.baload, 1) := by decide +kernel
theorem dX11_fix_20 : decode cX11_fix 20 = .ok (.invokestatic 68, 3) := by decide +kernel
theorem dX11_fix_23 : decode cX11_fix 23 = .ok (.istore_n 3, 1) := by decide +kernel
theorem dX11_fix_24 : decode cX11_fix 24 = .ok (.aload_n 0, 1) := by decide +kernel
theorem dX11_fix_25 : decode cX11_fix 25 = .ok (.getfield 25, 3) := by decide +kernel
theorem dX11_fix_28 : decode cX11_fix 28 = .ok (.iload_n 1, 1) := by decide +kernel
theorem dX11_fix_29 : decode cX11_fix 29 = .ok (.iload_n 2, 1) := by decide +kernel
theorem dX11_fix_30 : decode cX11_fix 30 = .ok (.bastore, 1) := by decide +kernel
theorem dX11_fix_31 : decode cX11_fix 31 = .ok (.iload_n 3, 1) := by decide +kernel
theorem dX11_fix_32 : decode cX11_fix 32 = .ok (.ireturn, 1) := by decide +kernel
theorem dX11_hearRow_0 : decode cX11_hearRow 0 = .ok (.aload_n 0, 1) := by decide +kernel
theorem dX11_hearRow_1 : decode cX11_hearRow 1 = .ok (.getfield 31, 3) := by decide +kernel
theorem dX11_hearRow_4 : decode cX11_hearRow 4 = .ok (.iload_n 1, 1) := by decide +kernel
theorem dX11_hearRow_5 : decode cX11_hearRow 5 = .ok (.aaload, 1) := by decide +kernel
theorem dX11_hearRow_6 : decode cX11_hearRow 6 = .ok (.iconst 0, 1) := by decide +kernel
theorem dX11_hearRow_7 : decode cX11_hearRow 7 = .ok (.dup2, 1) := by decide +kernel
theorem dX11_hearRow_8 : decode cX11_hearRow 8 = .ok (.iaload, 1) := by decide +kernel
theorem dX11_hearRow_9 : decode cX11_hearRow 9 = .ok (.iconst 1, 1) := by decide +kernel
theorem dX11_hearRow_10 : decode cX11_hearRow 10 = .ok (.iadd, 1) := by decide +kernel
theorem dX11_hearRow_11 : decode cX11_hearRow 11 = .ok (.iastore, 1) := by decide +kernel
theorem dX11_hearRow_12 : decode cX11_hearRow 12 = .ok (.aload_n 0, 1) := by decide +kernel
theorem dX11_hearRow_13 : decode cX11_hearRow 13 = .ok (.getfield 31, 3) := by decide +kernel
theorem dX11_hearRow_16 : decode cX11_hearRow 16 = .ok (.iload_n 1, 1) := by decide +kernel
theorem dX11_hearRow_17 : decode cX11_hearRow 17 = .ok (.aaload, 1) := by decide +kernel
theorem dX11_hearRow_18 : decode cX11_hearRow 18 = .ok (.iconst 2, 1) := by decide +kernel
theorem dX11_hearRow_19 : decode cX11_hearRow 19 = .ok (.dup2, 1) := by decide +kernel
theorem dX11_hearRow_20 : decode cX11_hearRow 20 = .ok (.iaload, 1) := by decide +kernel
theorem dX11_hearRow_21 : decode cX11_hearRow 21 = .ok (.iload_n 2, 1) := by decide +kernel
theorem dX11_hearRow_22 : decode cX11_hearRow 22 = .ok (.iadd, 1) := by decide +kernel
theorem dX11_hearRow_23 : decode cX11_hearRow 23 = .ok (.iastore, 1) := by decide +kernel
theorem dX11_hearRow_24 : decode cX11_hearRow 24 = .ok (.iconst 0, 1) := by decide +kernel
theorem dX11_hearRow_25 : decode cX11_hearRow 25 = .ok (.istore 4, 2) := by decide +kernel
theorem dX11_hearRow_27 : decode cX11_hearRow 27 = .ok (.iload_n 2, 1) := by decide +kernel
theorem dX11_hearRow_28 : decode cX11_hearRow 28 = .ok (.istore 5, 2) := by decide +kernel
theorem dX11_hearRow_30 : decode cX11_hearRow 30 = .ok (.iload 5, 2) := by decide +kernel
theorem dX11_hearRow_32 : decode cX11_hearRow 32 = .ok (.aload_n 0, 1) := by decide +kernel
theorem dX11_hearRow_33 : decode cX11_hearRow 33 = .ok (.getfield 21, 3) := by decide +kernel
theorem dX11_hearRow_36 : decode cX11_hearRow 36 = .ok (.iload_n 1, 1) := by decide +kernel
theorem dX11_hearRow_37 : decode cX11_hearRow 37 = .ok (.invokevirtual 82, 3) := by decide +kernel
theorem dX11_hearRow_40 : decode cX11_hearRow 40 = .ok (.checkcast 18, 3) := by decide +kernel
theorem dX11_hearRow_43 : decode cX11_hearRow 43 = .ok (.invokevirtual 86, 3) := by decide +kernel
theorem dX11_hearRow_46 : decode cX11_hearRow 46 = .ok (.if_icmp .ge 75, 3) := by decide +kernel
theorem dX11_hearRow_49 : decode cX11_hearRow 49 = .ok (.aload_n 0, 1) := by decide +kernel
theorem dX11_hearRow_50 : decode cX11_hearRow 50 = .ok (.getfield 31, 3) := by decide +kernel
theorem dX11_hearRow_53 : decode cX11_hearRow 53 = .ok (.iload_n 1, 1) := by decide +kernel
theorem dX11_hearRow_54 : decode cX11_hearRow 54 = .ok (.aaload, 1) := by decide +kernel
theorem dX11_hearRow_55 : decode cX11_hearRow 55 = .ok (.iconst 1, 1) := by decide +kernel
theorem dX11_hearRow_56 : decode cX11_hearRow 56 = .ok (.dup2, 1) := by decide +kernel
theorem dX11_hearRow_57 : decode cX11_hearRow 57 = .ok (.iaload, 1) := by decide +kernel
theorem dX11_hearRow_58 : decode cX11_hearRow 58 = .ok (.iconst 1, 1) := by decide +kernel
theorem dX11_hearRow_59 : decode cX11_hearRow 59 = .ok (.iadd, 1) := by decide +kernel
theorem dX11_hearRow_60 : decode cX11_hearRow 60 = .ok (.iastore, 1) := by decide +kernel
theorem dX11_hearRow_61 : decode cX11_hearRow 61 = .ok (.aload_n 0, 1) := by decide +kernel
theorem dX11_hearRow_62 : decode cX11_hearRow 62 = .ok (.getfield 31, 3) := by decide +kernel
theorem dX11_hearRow_65 : decode cX11_hearRow 65 = .ok (.iload_n 1, 1) := by decide +kernel
theorem dX11_hearRow_66 : decode cX11_hearRow 66 = .ok (.aaload, 1) := by decide +kernel
theorem dX11_hearRow_67 : decode cX11_hearRow 67 = .ok (.iconst 2, 1) := by decide +kernel
theorem dX11_hearRow_68 : decode cX11_hearRow 68 = .ok (.dup2, 1) := by decide +kernel
theorem dX11_hearRow_69 : decode cX11_hearRow 69 = .ok (.iaload, 1) := by decide +kernel
theorem dX11_hearRow_70 : decode cX11_hearRow 70 = .ok (.iconst 1, 1) := by decide +kernel
theorem dX11_hearRow_71 : decode cX11_hearRow 71 = .ok (.iadd, 1) := by decide +kernel
theorem dX11_hearRow_72 : decode cX11_hearRow 72 = .ok (.iastore, 1) := by decide +kernel
theorem dX11_hearRow_73 : decode cX11_hearRow 73 = .ok (.aload_n 0, 1) := by decide +kernel
theorem dX11_hearRow_74 : decode cX11_hearRow 74 = .ok (.getfield 40, 3) := by decide +kernel
theorem dX11_hearRow_77 : decode cX11_hearRow 77 = .ok (.iload_n 3, 1) := by decide +kernel
theorem dX11_hearRow_78 : decode cX11_hearRow 78 = .ok (.aaload, 1) := by decide +kernel
theorem dX11_hearRow_79 : decode cX11_hearRow 79 = .ok (.aload_n 0, 1) := by decide +kernel
theorem dX11_hearRow_80 : decode cX11_hearRow 80 = .ok (.getfield 21, 3) := by decide +kernel
theorem dX11_hearRow_83 : decode cX11_hearRow 83 = .ok (.iload_n 1, 1) := by decide +kernel
theorem dX11_hearRow_84 : decode cX11_hearRow 84 = .ok (.invokevirtual 82, 3) := by decide +kernel
theorem dX11_hearRow_87 : decode cX11_hearRow 87 = .ok (.checkcast 18, 3) := by decide +kernel
theorem dX11_hearRow_90 : decode cX11_hearRow 90 = .ok (.iload 5, 2) := by decide +kernel
theorem dX11_hearRow_92 : decode cX11_hearRow 92 = .ok (.invokevirtual 82, 3) := by decide +kernel
theorem dX11_hearRow_95 : decode cX11_hearRow 95 = .ok (.checkcast 91, 3) := by decide +kernel
theorem dX11_hearRow_98 : decode cX11_hearRow 98 = .ok (.invokevirtual 99, 3) := by decide +kernel
theorem dX11_hearRow_101 : decode cX11_hearRow 101 = .ok (.invokevirtual 102, 3) := by decide +kernel
theorem dX11_hearRow_104 : decode cX11_hearRow 104 = .ok (.ifCond .eq 8, 3) := by decide +kernel
theorem dX11_hearRow_107 : decode cX11_hearRow 107 = .ok (.aload_n 0, 1) := by decide +kernel
theorem dX11_hearRow_108 : decode cX11_hearRow 108 = .ok (.invokevirtual 105, 3) := by decide +kernel
theorem dX11_hearRow_111 : decode cX11_hearRow 111 = .ok (.ireturn, 1) := by decide +kernel
theorem dX11_hearRow_112 : decode cX11_hearRow 112 = .ok (.iinc 4 1, 3) := by decide +kernel
theorem dX11_hearRow_115 : decode cX11_hearRow 115 = .ok (.iinc 5 1, 3) := by decide +kernel
theorem dX11_hearRow_118 : decode cX11_hearRow 118 = .ok (.goto (-88), 3) := by decide +kernel
theorem dX11_hearRow_121 : decode cX11_hearRow 121 = .ok (.aload_n 0, 1) := by decide +kernel
theorem dX11_hearRow_122 : decode cX11_hearRow 122 = .ok (.getfield 31, 3) := by decide +kernel
theorem dX11_hearRow_125 : decode cX11_hearRow 125 = .ok (.iload_n 1, 1) := by decide +kernel
theorem dX11_hearRow_126 : decode cX11_hearRow 126 = .ok (.aaload, 1) := by decide +kernel
theorem dX11_hearRow_127 : decode cX11_hearRow 127 = .ok (.iconst 1, 1) := by decide +kernel
theorem dX11_hearRow_128 : decode cX11_hearRow 128 = .ok (.dup2, 1) := by decide +kernel
theorem dX11_hearRow_129 : decode cX11_hearRow 129 = .ok (.iaload, 1) := by decide +kernel
theorem dX11_hearRow_130 : decode cX11_hearRow 130 = .ok (.iconst 1, 1) := by decide +kernel
theorem dX11_hearRow_131 : decode cX11_hearRow 131 = .ok (.iadd, 1) := by decide +kernel
theorem dX11_hearRow_132 : decode cX11_hearRow 132 = .ok (.iastore, 1) := by decide +kernel
theorem dX11_hearRow_133 : decode cX11_hearRow 133 = .ok (.iload 4, 2) := by decide +kernel
theorem dX11_hearRow_135 : decode cX11_hearRow 135 = .ok (.ireturn, 1) := by decide +kernel
theorem dX11_hear_0 : decode cX11_hear 0 = .ok (.aload_n 0, 1) := by decide +kernel
theorem dX11_hear_1 : decode cX11_hear 1 = .ok (.iload_n 1, 1) := by decide +kernel
theorem dX11_hear_2 : decode cX11_hear 2 = .ok (.invokestatic 72, 3) := by decide +kernel
theorem dX11_hear_5 : decode cX11_hear 5 = .ok (.ifCond .ne 10, 3) := by decide +kernel
theorem dX11_hear_8 : decode cX11_hear 8 = .ok (.iload_n 2, 1) := by decide +kernel
theorem dX11_hear_9 : decode cX11_hear 9 = .ok (.invokestatic 72, 3) := by decide +kernel
theorem dX11_hear_12 : decode cX11_hear 12 = .ok (.ifCond .eq 7, 3) := by decide +kernel
theorem dX11_hear_15 : decode cX11_hear 15 = .ok (.iconst 1, 1) := by decide +kernel
theorem dX11_hear_16 : decode cX11_hear 16 = .ok (.goto 4, 3) := by decide +kernel
theorem dX11_hear_19 : decode cX11_hear 19 = .ok (.iconst 0, 1) := by decide +kernel
theorem dX11_hear_20 : decode cX11_hear 20 = .ok (.iconst 1, 1) := by decide +kernel
theorem dX11_hear_21 : decode cX11_hear 21 = .ok (.invokevirtual 76, 3) := by decide +kernel
theorem dX11_hear_24 : decode cX11_hear 24 = .ok (.ifCond .eq 7, 3) := by decide +kernel
theorem dX11_hear_27 : decode cX11_hear 27 = .ok (.iconst 0, 1) := by decide +kernel
theorem dX11_hear_28 : decode cX11_hear 28 = .ok (.goto 10, 3) := by decide +kernel
theorem dX11_hear_31 : decode cX11_hear 31 = .ok (.aload_n 0, 1) := by decide +kernel
theorem dX11_hear_32 : decode cX11_hear 32 = .ok (.iload_n 1, 1) := by decide +kernel
theorem dX11_hear_33 : decode cX11_hear 33 = .ok (.iconst 0, 1) := by decide +kernel
theorem dX11_hear_34 : decode cX11_hear 34 = .ok (.iload_n 2, 1) := by decide +kernel
theorem dX11_hear_35 : decode cX11_hear 35 = .ok (.invokevirtual 108, 3) := by decide +kernel
theorem dX11_hear_38 : decode cX11_hear 38 = .ok (.ireturn, 1) := by decide +kernel
theorem dX11_rest_0 : decode cX11_rest 0 = .ok (.aload_n 0, 1) := by decide +kernel
theorem dX11_rest_1 : decode cX11_rest 1 = .ok (.iload_n 1, 1) := by decide +kernel
theorem dX11_rest_2 : decode cX11_rest 2 = .ok (.invokestatic 72, 3) := by decide +kernel
theorem dX11_rest_5 : decode cX11_rest 5 = .ok (.ifCond .ne 10, 3) := by decide +kernel
theorem dX11_rest_8 : decode cX11_rest 8 = .ok (.iload_n 3, 1) := by decide +kernel
theorem dX11_rest_9 : decode cX11_rest 9 = .ok (.invokestatic 72, 3) := by decide +kernel
theorem dX11_rest_12 : decode cX11_rest 12 = .ok (.ifCond .eq 7, 3) := by decide +kernel
theorem dX11_rest_15 : decode cX11_rest 15 = .ok (.iconst 1, 1) := by decide +kernel
theorem dX11_rest_16 : decode cX11_rest 16 = .ok (.goto 4, 3) := by decide +kernel
theorem dX11_rest_19 : decode cX11_rest 19 = .ok (.iconst 0, 1) := by decide +kernel
theorem dX11_rest_20 : decode cX11_rest 20 = .ok (.iconst 1, 1) := by decide +kernel
theorem dX11_rest_21 : decode cX11_rest 21 = .ok (.invokevirtual 76, 3) := by decide +kernel
theorem dX11_rest_24 : decode cX11_rest 24 = .ok (.ifCond .ne 38, 3) := by decide +kernel
theorem dX11_rest_27 : decode cX11_rest 27 = .ok (.aload_n 0, 1) := by decide +kernel
theorem dX11_rest_28 : decode cX11_rest 28 = .ok (.iload_n 2, 1) := by decide +kernel
theorem dX11_rest_29 : decode cX11_rest 29 = .ok (.iconst 0, 1) := by decide +kernel
theorem dX11_rest_30 : decode cX11_rest 30 = .ok (.aload_n 0, 1) := by decide +kernel
theorem dX11_rest_31 : decode cX11_rest 31 = .ok (.getfield 21, 3) := by decide +kernel
theorem dX11_rest_34 : decode cX11_rest 34 = .ok (.iload_n 1, 1) := by decide +kernel
theorem dX11_rest_35 : decode cX11_rest 35 = .ok (.invokevirtual 82, 3) := by decide +kernel
theorem dX11_rest_38 : decode cX11_rest 38 = .ok (.checkcast 18, 3) := by decide +kernel
theorem dX11_rest_41 : decode cX11_rest 41 = .ok (.invokevirtual 86, 3) := by decide +kernel
theorem dX11_rest_44 : decode cX11_rest 44 = .ok (.invokestatic 59, 3) := by decide +kernel
theorem dX11_rest_47 : decode cX11_rest 47 = .ok (.ifCond .ne 7, 3) := by decide +kernel
theorem dX11_rest_50 : decode cX11_rest 50 = .ok (.iconst 1, 1) := by decide +kernel
theorem dX11_rest_51 : decode cX11_rest 51 = .ok (.goto 4, 3) := by decide +kernel
theorem dX11_rest_54 : decode cX11_rest 54 = .ok (.iconst 0, 1) := by decide +kernel
theorem dX11_rest_55 : decode cX11_rest 55 = .ok (.iconst 2, 1) := by decide +kernel
theorem dX11_rest_56 : decode cX11_rest 56 = .ok (.invokevirtual 52, 3) := by decide +kernel
theorem dX11_rest_59 : decode cX11_rest 59 = .ok (.ifCond .eq 7, 3) := by decide +kernel
theorem dX11_rest_62 : decode cX11_rest 62 = .ok (.iconst 0, 1) := by decide +kernel
theorem dX11_rest_63 : decode cX11_rest 63 = .ok (.goto 10, 3) := by decide +kernel
theorem dX11_rest_66 : decode cX11_rest 66 = .ok (.aload_n 0, 1) := by decide +kernel
theorem dX11_rest_67 : decode cX11_rest 67 = .ok (.iload_n 1, 1) := by decide +kernel
theorem dX11_rest_68 : decode cX11_rest 68 = .ok (.iload_n 2, 1) := by decide +kernel
theorem dX11_rest_69 : decode cX11_rest 69 = .ok (.iload_n 3, 1) := by decide +kernel
theorem dX11_rest_70 : decode cX11_rest 70 = .ok (.invokevirtual 108, 3) := by decide +kernel
theorem dX11_rest_73 : decode cX11_rest 73 = .ok (.ireturn, 1) := by decide +kernel
theorem dX11_removeIf_0 : decode cX11_removeIf 0 = .ok (.aload_n 0, 1) := by decide +kernel
theorem dX11_removeIf_1 : decode cX11_removeIf 1 = .ok (.iload_n 1, 1) := by decide +kernel
theorem dX11_removeIf_2 : decode cX11_removeIf 2 = .ok (.invokestatic 72, 3) := by decide +kernel
theorem dX11_removeIf_5 : decode cX11_removeIf 5 = .ok (.iconst 1, 1) := by decide +kernel
theorem dX11_removeIf_6 : decode cX11_removeIf 6 = .ok (.invokevirtual 76, 3) := by decide +kernel
theorem dX11_removeIf_9 : decode cX11_removeIf 9 = .ok (.ifCond .ne 32, 3) := by decide +kernel
theorem dX11_removeIf_12 : decode cX11_removeIf 12 = .ok (.aload_n 0, 1) := by decide +kernel
theorem dX11_removeIf_13 : decode cX11_removeIf 13 = .ok (.iload_n 2, 1) := by decide +kernel
theorem dX11_removeIf_14 : decode cX11_removeIf 14 = .ok (.iconst 0, 1) := by decide +kernel
theorem dX11_removeIf_15 : decode cX11_removeIf 15 = .ok (.iconst 5, 1) := by decide +kernel
theorem dX11_removeIf_16 : decode cX11_removeIf 16 = .ok (.invokestatic 59, 3) := by decide +kernel
theorem dX11_removeIf_19 : decode cX11_removeIf 19 = .ok (.ifCond .eq 10, 3) := by decide +kernel
theorem dX11_removeIf_22 : decode cX11_removeIf 22 = .ok (.iload_n 3, 1) := by decide +kernel
theorem dX11_removeIf_23 : decode cX11_removeIf 23 = .ok (.invokestatic 79, 3) := by decide +kernel
theorem dX11_removeIf_26 : decode cX11_removeIf 26 = .ok (.ifCond .eq 7, 3) := by decide +kernel
theorem dX11_removeIf_29 : decode cX11_removeIf 29 = .ok (.iconst 1, 1) := by decide +kernel
theorem dX11_removeIf_30 : decode cX11_removeIf 30 = .ok (.goto 4, 3) := by decide +kernel
theorem dX11_removeIf_33 : decode cX11_removeIf 33 = .ok (.iconst 0, 1) := by decide +kernel
theorem dX11_removeIf_34 : decode cX11_removeIf 34 = .ok (.iconst 2, 1) := by decide +kernel
theorem dX11_removeIf_35 : decode cX11_removeIf 35 = .ok (.invokevirtual 52, 3) := by decide +kernel
theorem dX11_removeIf_38 : decode cX11_removeIf 38 = .ok (.ifCond .eq 5, 3) := by decide +kernel
theorem dX11_removeIf_41 : decode cX11_removeIf 41 = .ok (.iconst 0, 1) := by decide +kernel
theorem dX11_removeIf_42 : decode cX11_removeIf 42 = .ok (.ireturn, 1) := by decide +kernel
theorem dX11_removeIf_43 : decode cX11_removeIf 43 = .ok (.aload_n 0, 1) := by decide +kernel
theorem dX11_removeIf_44 : decode cX11_removeIf 44 = .ok (.getfield 31, 3) := by decide +kernel
theorem dX11_removeIf_47 : decode cX11_removeIf 47 = .ok (.iload_n 1, 1) := by decide +kernel
theorem dX11_removeIf_48 : decode cX11_removeIf 48 = .ok (.aaload, 1) := by decide +kernel
theorem dX11_removeIf_49 : decode cX11_removeIf 49 = .ok (.iconst 0, 1) := by decide +kernel
theorem dX11_removeIf_50 : decode cX11_removeIf 50 = .ok (.dup2, 1) := by decide +kernel
theorem dX11_removeIf_51 : decode cX11_removeIf 51 = .ok (.iaload, 1) := by decide +kernel
theorem dX11_removeIf_52 : decode cX11_removeIf 52 = .ok (.iconst 1, 1) := by decide +kernel
theorem dX11_removeIf_53 : decode cX11_removeIf 53 = .ok (.iadd, 1) := by decide +kernel
theorem dX11_removeIf_54 : decode cX11_removeIf 54 = .ok (.iastore, 1) := by decide +kernel
theorem dX11_removeIf_55 : decode cX11_removeIf 55 = .ok (.iconst 0, 1) := by decide +kernel
theorem dX11_removeIf_56 : decode cX11_removeIf 56 = .ok (.istore 4, 2) := by decide +kernel
theorem dX11_removeIf_58 : decode cX11_removeIf 58 = .ok (.iconst 0, 1) := by decide +kernel
theorem dX11_removeIf_59 : decode cX11_removeIf 59 = .ok (.istore 5, 2) := by decide +kernel
theorem dX11_removeIf_61 : decode cX11_removeIf 61 = .ok (.iload 5, 2) := by decide +kernel
theorem dX11_removeIf_63 : decode cX11_removeIf 63 = .ok (.aload_n 0, 1) := by decide +kernel
theorem dX11_removeIf_64 : decode cX11_removeIf 64 = .ok (.getfield 21, 3) := by decide +kernel
theorem dX11_removeIf_67 : decode cX11_removeIf 67 = .ok (.iload_n 1, 1) := by decide +kernel
theorem dX11_removeIf_68 : decode cX11_removeIf 68 = .ok (.invokevirtual 82, 3) := by decide +kernel
theorem dX11_removeIf_71 : decode cX11_removeIf 71 = .ok (.checkcast 18, 3) := by decide +kernel
theorem dX11_removeIf_74 : decode cX11_removeIf 74 = .ok (.invokevirtual 86, 3) := by decide +kernel
theorem dX11_removeIf_77 : decode cX11_removeIf 77 = .ok (.if_icmp .ge 130, 3) := by decide +kernel
theorem dX11_removeIf_80 : decode cX11_removeIf 80 = .ok (.aload_n 0, 1) := by decide +kernel
theorem dX11_removeIf_81 : decode cX11_removeIf 81 = .ok (.getfield 31, 3) := by decide +kernel
theorem dX11_removeIf_84 : decode cX11_removeIf 84 = .ok (.iload_n 1, 1) := by decide +kernel
theorem dX11_removeIf_85 : decode cX11_removeIf 85 = .ok (.aaload, 1) := by decide +kernel
theorem dX11_removeIf_86 : decode cX11_removeIf 86 = .ok (.iconst 1, 1) := by decide +kernel
theorem dX11_removeIf_87 : decode cX11_removeIf 87 = .ok (.dup2, 1) := by decide +kernel
theorem dX11_removeIf_88 : decode cX11_removeIf 88 = .ok (.iaload, 1) := by decide +kernel
theorem dX11_removeIf_89 : decode cX11_removeIf 89 = .ok (.iconst 1, 1) := by decide +kernel
theorem dX11_removeIf_90 : decode cX11_removeIf 90 = .ok (.iadd, 1) := by decide +kernel
theorem dX11_removeIf_91 : decode cX11_removeIf 91 = .ok (.iastore, 1) := by decide +kernel
theorem dX11_removeIf_92 : decode cX11_removeIf 92 = .ok (.aload_n 0, 1) := by decide +kernel
theorem dX11_removeIf_93 : decode cX11_removeIf 93 = .ok (.getfield 31, 3) := by decide +kernel
theorem dX11_removeIf_96 : decode cX11_removeIf 96 = .ok (.iload_n 1, 1) := by decide +kernel
theorem dX11_removeIf_97 : decode cX11_removeIf 97 = .ok (.aaload, 1) := by decide +kernel
theorem dX11_removeIf_98 : decode cX11_removeIf 98 = .ok (.iconst 2, 1) := by decide +kernel
theorem dX11_removeIf_99 : decode cX11_removeIf 99 = .ok (.dup2, 1) := by decide +kernel
theorem dX11_removeIf_100 : decode cX11_removeIf 100 = .ok (.iaload, 1) := by decide +kernel
theorem dX11_removeIf_101 : decode cX11_removeIf 101 = .ok (.iconst 1, 1) := by decide +kernel
theorem dX11_removeIf_102 : decode cX11_removeIf 102 = .ok (.iadd, 1) := by decide +kernel
theorem dX11_removeIf_103 : decode cX11_removeIf 103 = .ok (.iastore, 1) := by decide +kernel
theorem dX11_removeIf_104 : decode cX11_removeIf 104 = .ok (.iload_n 2, 1) := by decide +kernel
theorem dX11_removeIf_105 : decode cX11_removeIf 105 = .ok (.aload_n 0, 1) := by decide +kernel
theorem dX11_removeIf_106 : decode cX11_removeIf 106 = .ok (.getfield 21, 3) := by decide +kernel
theorem dX11_removeIf_109 : decode cX11_removeIf 109 = .ok (.iload_n 1, 1) := by decide +kernel
theorem dX11_removeIf_110 : decode cX11_removeIf 110 = .ok (.invokevirtual 82, 3) := by decide +kernel
theorem dX11_removeIf_113 : decode cX11_removeIf 113 = .ok (.checkcast 18, 3) := by decide +kernel
theorem dX11_removeIf_116 : decode cX11_removeIf 116 = .ok (.iload 5, 2) := by decide +kernel
theorem dX11_removeIf_118 : decode cX11_removeIf 118 = .ok (.invokevirtual 82, 3) := by decide +kernel
theorem dX11_removeIf_121 : decode cX11_removeIf 121 = .ok (.checkcast 91, 3) := by decide +kernel
theorem dX11_removeIf_124 : decode cX11_removeIf 124 = .ok (.invokevirtual 99, 3) := by decide +kernel
theorem dX11_removeIf_127 : decode cX11_removeIf 127 = .ok (.iload_n 3, 1) := by decide +kernel
theorem dX11_removeIf_128 : decode cX11_removeIf 128 = .ok (.invokestatic 112, 3) := by decide +kernel
theorem dX11_removeIf_131 : decode cX11_removeIf 131 = .ok (.istore 6, 2) := by decide +kernel
theorem dX11_removeIf_133 : decode cX11_removeIf 133 = .ok (.iload 6, 2) := by decide +kernel
theorem dX11_removeIf_135 : decode cX11_removeIf 135 = .ok (.ldc 67, 2) := by decide +kernel
theorem dX11_removeIf_137 : decode cX11_removeIf 137 = .ok (.if_icmp .eq 18, 3) := by decide +kernel
theorem dX11_removeIf_140 : decode cX11_removeIf 140 = .ok (.iload 6, 2) := by decide +kernel
theorem dX11_removeIf_142 : decode cX11_removeIf 142 = .ok (.iconst 1, 1) := by decide +kernel
theorem dX11_removeIf_143 : decode cX11_removeIf 143 = .ok (.if_icmp .ne 17, 3) := by decide +kernel
theorem dX11_removeIf_146 : decode cX11_removeIf 146 = .ok (.aload_n 0, 1) := by decide +kernel
theorem dX11_removeIf_147 : decode cX11_removeIf 147 = .ok (.getfield 25, 3) := by decide +kernel
theorem dX11_removeIf_150 : decode cX11_removeIf 150 = .ok (.iload_n 1, 1) := by decide +kernel
theorem dX11_removeIf_151 : decode cX11_removeIf 151 = .ok (.baload, 1) := by decide +kernel
theorem dX11_removeIf_152 : decode cX11_removeIf 152 = .ok (.ifCond .eq 8, 3) := by decide +kernel
theorem dX11_removeIf_155 : decode cX11_removeIf 155 = .ok (.aload_n 0, 1) := by decide +kernel
theorem dX11_removeIf_156 : decode cX11_removeIf 156 = .ok (.invokevirtual 105, 3) := by decide +kernel
theorem dX11_removeIf_159 : decode cX11_removeIf 159 = .ok (.ireturn, 1) := by decide +kernel
theorem dX11_removeIf_160 : decode cX11_removeIf 160 = .ok (.iload 6, 2) := by decide +kernel
theorem dX11_removeIf_162 : decode cX11_removeIf 162 = .ok (.iconst 1, 1) := by decide +kernel
theorem dX11_removeIf_163 : decode cX11_removeIf 163 = .ok (.if_icmp .ne 38, 3) := by decide +kernel
theorem dX11_removeIf_166 : decode cX11_removeIf 166 = .ok (.aload_n 0, 1) := by decide +kernel
theorem dX11_removeIf_167 : decode cX11_removeIf 167 = .ok (.getfield 21, 3) := by decide +kernel
theorem dX11_removeIf_170 : decode cX11_removeIf 170 = .ok (.iload_n 1, 1) := by decide +kernel
theorem dX11_removeIf_171 : decode cX11_removeIf 171 = .ok (.invokevirtual 82, 3) := by decide +kernel
theorem dX11_removeIf_174 : decode cX11_removeIf 174 = .ok (.checkcast 18, 3) := by decide +kernel
theorem dX11_removeIf_177 : decode cX11_removeIf 177 = .ok (.iload 5, 2) := by decide +kernel
theorem dX11_removeIf_179 : decode cX11_removeIf 179 = .ok (.invokevirtual 96, 3) := by decide +kernel
theorem dX11_removeIf_182 : decode cX11_removeIf 182 = .ok (.pop, 1) := by decide +kernel
theorem dX11_removeIf_183 : decode cX11_removeIf 183 = .ok (.aload_n 0, 1) := by decide +kernel
theorem dX11_removeIf_184 : decode cX11_removeIf 184 = .ok (.getfield 31, 3) := by decide +kernel
theorem dX11_removeIf_187 : decode cX11_removeIf 187 = .ok (.iload_n 1, 1) := by decide +kernel
theorem dX11_removeIf_188 : decode cX11_removeIf 188 = .ok (.aaload, 1) := by decide +kernel
theorem dX11_removeIf_189 : decode cX11_removeIf 189 = .ok (.iconst 4, 1) := by decide +kernel
theorem dX11_removeIf_190 : decode cX11_removeIf 190 = .ok (.dup2, 1) := by decide +kernel
theorem dX11_removeIf_191 : decode cX11_removeIf 191 = .ok (.iaload, 1) := by decide +kernel
theorem dX11_removeIf_192 : decode cX11_removeIf 192 = .ok (.iconst 1, 1) := by decide +kernel
theorem dX11_removeIf_193 : decode cX11_removeIf 193 = .ok (.iadd, 1) := by decide +kernel
theorem dX11_removeIf_194 : decode cX11_removeIf 194 = .ok (.iastore, 1) := by decide +kernel
theorem dX11_removeIf_195 : decode cX11_removeIf 195 = .ok (.iconst 1, 1) := by decide +kernel
theorem dX11_removeIf_196 : decode cX11_removeIf 196 = .ok (.istore 4, 2) := by decide +kernel
theorem dX11_removeIf_198 : decode cX11_removeIf 198 = .ok (.goto 6, 3) := by decide +kernel
theorem dX11_removeIf_201 : decode cX11_removeIf 201 = .ok (.iinc 5 1, 3) := by decide +kernel
theorem dX11_removeIf_204 : decode cX11_removeIf 204 = .ok (.goto (-143), 3) := by decide +kernel
theorem dX11_removeIf_207 : decode cX11_removeIf 207 = .ok (.aload_n 0, 1) := by decide +kernel
theorem dX11_removeIf_208 : decode cX11_removeIf 208 = .ok (.getfield 31, 3) := by decide +kernel
theorem dX11_removeIf_211 : decode cX11_removeIf 211 = .ok (.iload_n 1, 1) := by decide +kernel
theorem dX11_removeIf_212 : decode cX11_removeIf 212 = .ok (.aaload, 1) := by decide +kernel
theorem dX11_removeIf_213 : decode cX11_removeIf 213 = .ok (.iconst 1, 1) := by decide +kernel
theorem dX11_removeIf_214 : decode cX11_removeIf 214 = .ok (.dup2, 1) := by decide +kernel
theorem dX11_removeIf_215 : decode cX11_removeIf 215 = .ok (.iaload, 1) := by decide +kernel
theorem dX11_removeIf_216 : decode cX11_removeIf 216 = .ok (.iconst 1, 1) := by decide +kernel
theorem dX11_removeIf_217 : decode cX11_removeIf 217 = .ok (.iadd, 1) := by decide +kernel
theorem dX11_removeIf_218 : decode cX11_removeIf 218 = .ok (.iastore, 1) := by decide +kernel
theorem dX11_removeIf_219 : decode cX11_removeIf 219 = .ok (.iload 4, 2) := by decide +kernel
theorem dX11_removeIf_221 : decode cX11_removeIf 221 = .ok (.invokestatic 68, 3) := by decide +kernel
theorem dX11_removeIf_224 : decode cX11_removeIf 224 = .ok (.ireturn, 1) := by decide +kernel
theorem dX11_replaceAll_0 : decode cX11_replaceAll 0 = .ok (.aload_n 0, 1) := by decide +kernel
theorem dX11_replaceAll_1 : decode cX11_replaceAll 1 = .ok (.iload_n 1, 1) := by decide +kernel
theorem dX11_replaceAll_2 : decode cX11_replaceAll 2 = .ok (.invokestatic 72, 3) := by decide +kernel
theorem dX11_replaceAll_5 : decode cX11_replaceAll 5 = .ok (.iconst 1, 1) := by decide +kernel
theorem dX11_replaceAll_6 : decode cX11_replaceAll 6 = .ok (.invokevirtual 76, 3) := by decide +kernel
theorem dX11_replaceAll_9 : decode cX11_replaceAll 9 = .ok (.ifCond .ne 37, 3) := by decide +kernel
theorem dX11_replaceAll_12 : decode cX11_replaceAll 12 = .ok (.aload_n 0, 1) := by decide +kernel
theorem dX11_replaceAll_13 : decode cX11_replaceAll 13 = .ok (.iload_n 2, 1) := by decide +kernel
theorem dX11_replaceAll_14 : decode cX11_replaceAll 14 = .ok (.ifCond .eq 13, 3) := by decide +kernel
theorem dX11_replaceAll_17 : decode cX11_replaceAll 17 = .ok (.iload_n 2, 1) := by decide +kernel
theorem dX11_replaceAll_18 : decode cX11_replaceAll 18 = .ok (.iconst 1, 1) := by decide +kernel
theorem dX11_replaceAll_19 : decode cX11_replaceAll 19 = .ok (.if_icmp .eq 8, 3) := by decide +kernel
theorem dX11_replaceAll_22 : decode cX11_replaceAll 22 = .ok (.iload_n 2, 1) := by decide +kernel
theorem dX11_replaceAll_23 : decode cX11_replaceAll 23 = .ok (.iconst 4, 1) := by decide +kernel
theorem dX11_replaceAll_24 : decode cX11_replaceAll 24 = .ok (.if_icmp .ne 10, 3) := by decide +kernel
theorem dX11_replaceAll_27 : decode cX11_replaceAll 27 = .ok (.iload_n 3, 1) := by decide +kernel
theorem dX11_replaceAll_28 : decode cX11_replaceAll 28 = .ok (.invokestatic 79, 3) := by decide +kernel
theorem dX11_replaceAll_31 : decode cX11_replaceAll 31 = .ok (.ifCond .eq 7, 3) := by decide +kernel
theorem dX11_replaceAll_34 : decode cX11_replaceAll 34 = .ok (.iconst 1, 1) := by decide +kernel
theorem dX11_replaceAll_35 : decode cX11_replaceAll 35 = .ok (.goto 4, 3) := by decide +kernel
theorem dX11_replaceAll_38 : decode cX11_replaceAll 38 = .ok (.iconst 0, 1) := by decide +kernel
theorem dX11_replaceAll_39 : decode cX11_replaceAll 39 = .ok (.iconst 2, 1) := by decide +kernel
theorem dX11_replaceAll_40 : decode cX11_replaceAll 40 = .ok (.invokevirtual 52, 3) := by decide +kernel
theorem dX11_replaceAll_43 : decode cX11_replaceAll 43 = .ok (.ifCond .eq 5, 3) := by decide +kernel
theorem dX11_replaceAll_46 : decode cX11_replaceAll 46 = .ok (.iconst 0, 1) := by decide +kernel
theorem dX11_replaceAll_47 : decode cX11_replaceAll 47 = .ok (.ireturn, 1) := by decide +kernel
theorem dX11_replaceAll_48 : decode cX11_replaceAll 48 = .ok (.aload_n 0, 1) := by decide +kernel
theorem dX11_replaceAll_49 : decode cX11_replaceAll 49 = .ok (.getfield 31, 3) := by decide +kernel
theorem dX11_replaceAll_52 : decode cX11_replaceAll 52 = .ok (.iload_n 1, 1) := by decide +kernel
theorem dX11_replaceAll_53 : decode cX11_replaceAll 53 = .ok (.aaload, 1) := by decide +kernel
theorem dX11_replaceAll_54 : decode cX11_replaceAll 54 = .ok (.iconst 0, 1) := by decide +kernel
theorem dX11_replaceAll_55 : decode cX11_replaceAll 55 = .ok (.dup2, 1) := by decide +kernel
theorem dX11_replaceAll_56 : decode cX11_replaceAll 56 = .ok (.iaload, 1) := by decide +kernel
theorem dX11_replaceAll_57 : decode cX11_replaceAll 57 = .ok (.iconst 1, 1) := by decide +kernel
theorem dX11_replaceAll_58 : decode cX11_replaceAll 58 = .ok (.iadd, 1) := by decide +kernel
theorem dX11_replaceAll_59 : decode cX11_replaceAll 59 = .ok (.iastore, 1) := by decide +kernel
theorem dX11_replaceAll_60 : decode cX11_replaceAll 60 = .ok (.iconst 0, 1) := by decide +kernel
theorem dX11_replaceAll_61 : decode cX11_replaceAll 61 = .ok (.istore 4, 2) := by decide +kernel
theorem dX11_replaceAll_63 : decode cX11_replaceAll 63 = .ok (.iload 4, 2) := by decide +kernel
theorem dX11_replaceAll_65 : decode cX11_replaceAll 65 = .ok (.aload_n 0, 1) := by decide +kernel
theorem dX11_replaceAll_66 : decode cX11_replaceAll 66 = .ok (.getfield 21, 3) := by decide +kernel
theorem dX11_replaceAll_69 : decode cX11_replaceAll 69 = .ok (.iload_n 1, 1) := by decide +kernel
theorem dX11_replaceAll_70 : decode cX11_replaceAll 70 = .ok (.invokevirtual 82, 3) := by decide +kernel
theorem dX11_replaceAll_73 : decode cX11_replaceAll 73 = .ok (.checkcast 18, 3) := by decide +kernel
theorem dX11_replaceAll_76 : decode cX11_replaceAll 76 = .ok (.invokevirtual 86, 3) := by decide +kernel
theorem dX11_replaceAll_79 : decode cX11_replaceAll 79 = .ok (.if_icmp .ge 118, 3) := by decide +kernel
theorem dX11_replaceAll_82 : decode cX11_replaceAll 82 = .ok (.aload_n 0, 1) := by decide +kernel
theorem dX11_replaceAll_83 : decode cX11_replaceAll 83 = .ok (.getfield 31, 3) := by decide +kernel
theorem dX11_replaceAll_86 : decode cX11_replaceAll 86 = .ok (.iload_n 1, 1) := by decide +kernel
theorem dX11_replaceAll_87 : decode cX11_replaceAll 87 = .ok (.aaload, 1) := by decide +kernel
theorem dX11_replaceAll_88 : decode cX11_replaceAll 88 = .ok (.iconst 1, 1) := by decide +kernel
theorem dX11_replaceAll_89 : decode cX11_replaceAll 89 = .ok (.dup2, 1) := by decide +kernel
theorem dX11_replaceAll_90 : decode cX11_replaceAll 90 = .ok (.iaload, 1) := by decide +kernel
theorem dX11_replaceAll_91 : decode cX11_replaceAll 91 = .ok (.iconst 1, 1) := by decide +kernel
theorem dX11_replaceAll_92 : decode cX11_replaceAll 92 = .ok (.iadd, 1) := by decide +kernel
theorem dX11_replaceAll_93 : decode cX11_replaceAll 93 = .ok (.iastore, 1) := by decide +kernel
theorem dX11_replaceAll_94 : decode cX11_replaceAll 94 = .ok (.aload_n 0, 1) := by decide +kernel
theorem dX11_replaceAll_95 : decode cX11_replaceAll 95 = .ok (.getfield 31, 3) := by decide +kernel
theorem dX11_replaceAll_98 : decode cX11_replaceAll 98 = .ok (.iload_n 1, 1) := by decide +kernel
theorem dX11_replaceAll_99 : decode cX11_replaceAll 99 = .ok (.aaload, 1) := by decide +kernel
theorem dX11_replaceAll_100 : decode cX11_replaceAll 100 = .ok (.iconst 2, 1) := by decide +kernel
theorem dX11_replaceAll_101 : decode cX11_replaceAll 101 = .ok (.dup2, 1) := by decide +kernel
theorem dX11_replaceAll_102 : decode cX11_replaceAll 102 = .ok (.iaload, 1) := by decide +kernel
theorem dX11_replaceAll_103 : decode cX11_replaceAll 103 = .ok (.iconst 1, 1) := by decide +kernel
theorem dX11_replaceAll_104 : decode cX11_replaceAll 104 = .ok (.iadd, 1) := by decide +kernel
theorem dX11_replaceAll_105 : decode cX11_replaceAll 105 = .ok (.iastore, 1) := by decide +kernel
theorem dX11_replaceAll_106 : decode cX11_replaceAll 106 = .ok (.iload_n 2, 1) := by decide +kernel
theorem dX11_replaceAll_107 : decode cX11_replaceAll 107 = .ok (.iconst 0, 1) := by decide +kernel
theorem dX11_replaceAll_108 : decode cX11_replaceAll 108 = .ok (.aload_n 0, 1) := by decide +kernel
theorem dX11_replaceAll_109 : decode cX11_replaceAll 109 = .ok (.getfield 21, 3) := by decide +kernel
theorem dX11_replaceAll_112 : decode cX11_replaceAll 112 = .ok (.iload_n 1, 1) := by decide +kernel
theorem dX11_replaceAll_113 : decode cX11_replaceAll 113 = .ok (.invokevirtual 82, 3) := by decide +kernel
theorem dX11_replaceAll_116 : decode cX11_replaceAll 116 = .ok (.checkcast 18, 3) := by decide +kernel
theorem dX11_replaceAll_119 : decode cX11_replaceAll 119 = .ok (.iload 4, 2) := by decide +kernel
theorem dX11_replaceAll_121 : decode cX11_replaceAll 121 = .ok (.invokevirtual 82, 3) := by decide +kernel
theorem dX11_replaceAll_124 : decode cX11_replaceAll 124 = .ok (.checkcast 91, 3) := by decide +kernel
theorem dX11_replaceAll_127 : decode cX11_replaceAll 127 = .ok (.invokevirtual 99, 3) := by decide +kernel
theorem dX11_replaceAll_130 : decode cX11_replaceAll 130 = .ok (.iload_n 3, 1) := by decide +kernel
theorem dX11_replaceAll_131 : decode cX11_replaceAll 131 = .ok (.invokestatic 115, 3) := by decide +kernel
theorem dX11_replaceAll_134 : decode cX11_replaceAll 134 = .ok (.istore 5, 2) := by decide +kernel
theorem dX11_replaceAll_136 : decode cX11_replaceAll 136 = .ok (.iload 5, 2) := by decide +kernel
theorem dX11_replaceAll_138 : decode cX11_replaceAll 138 = .ok (.ldc 67, 2) := by decide +kernel
theorem dX11_replaceAll_140 : decode cX11_replaceAll 140 = .ok (.if_icmp .eq 12, 3) := by decide +kernel
theorem dX11_replaceAll_143 : decode cX11_replaceAll 143 = .ok (.aload_n 0, 1) := by decide +kernel
theorem dX11_replaceAll_144 : decode cX11_replaceAll 144 = .ok (.getfield 25, 3) := by decide +kernel
theorem dX11_replaceAll_147 : decode cX11_replaceAll 147 = .ok (.iload_n 1, 1) := by decide +kernel
theorem dX11_replaceAll_148 : decode cX11_replaceAll 148 = .ok (.baload, 1) := by decide +kernel
theorem dX11_replaceAll_149 : decode cX11_replaceAll 149 = .ok (.ifCond .eq 8, 3) := by decide +kernel
theorem dX11_replaceAll_152 : decode cX11_replaceAll 152 = .ok (.aload_n 0, 1) := by decide +kernel
theorem dX11_replaceAll_153 : decode cX11_replaceAll 153 = .ok (.invokevirtual 105, 3) := by decide +kernel
theorem dX11_replaceAll_156 : decode cX11_replaceAll 156 = .ok (.ireturn, 1) := by decide +kernel
theorem dX11_replaceAll_157 : decode cX11_replaceAll 157 = .ok (.aload_n 0, 1) := by decide +kernel
theorem dX11_replaceAll_158 : decode cX11_replaceAll 158 = .ok (.getfield 21, 3) := by decide +kernel
theorem dX11_replaceAll_161 : decode cX11_replaceAll 161 = .ok (.iload_n 1, 1) := by decide +kernel
theorem dX11_replaceAll_162 : decode cX11_replaceAll 162 = .ok (.invokevirtual 82, 3) := by decide +kernel
theorem dX11_replaceAll_165 : decode cX11_replaceAll 165 = .ok (.checkcast 18, 3) := by decide +kernel
theorem dX11_replaceAll_168 : decode cX11_replaceAll 168 = .ok (.iload 4, 2) := by decide +kernel
theorem dX11_replaceAll_170 : decode cX11_replaceAll 170 = .ok (.iload 5, 2) := by decide +kernel
theorem dX11_replaceAll_172 : decode cX11_replaceAll 172 = .ok (.invokestatic 90, 3) := by decide +kernel
theorem dX11_replaceAll_175 : decode cX11_replaceAll 175 = .ok (.invokevirtual 119, 3) := by decide +kernel
theorem dX11_replaceAll_178 : decode cX11_replaceAll 178 = .ok (.pop, 1) := by decide +kernel
theorem dX11_replaceAll_179 : decode cX11_replaceAll 179 = .ok (.aload_n 0, 1) := by decide +kernel
theorem dX11_replaceAll_180 : decode cX11_replaceAll 180 = .ok (.getfield 31, 3) := by decide +kernel
theorem dX11_replaceAll_183 : decode cX11_replaceAll 183 = .ok (.iload_n 1, 1) := by decide +kernel
theorem dX11_replaceAll_184 : decode cX11_replaceAll 184 = .ok (.aaload, 1) := by decide +kernel
theorem dX11_replaceAll_185 : decode cX11_replaceAll 185 = .ok (.iconst 3, 1) := by decide +kernel
theorem dX11_replaceAll_186 : decode cX11_replaceAll 186 = .ok (.dup2, 1) := by decide +kernel
theorem dX11_replaceAll_187 : decode cX11_replaceAll 187 = .ok (.iaload, 1) := by decide +kernel
theorem dX11_replaceAll_188 : decode cX11_replaceAll 188 = .ok (.iconst 1, 1) := by decide +kernel
theorem dX11_replaceAll_189 : decode cX11_replaceAll 189 = .ok (.iadd, 1) := by decide +kernel
theorem dX11_replaceAll_190 : decode cX11_replaceAll 190 = .ok (.iastore, 1) := by decide +kernel
theorem dX11_replaceAll_191 : decode cX11_replaceAll 191 = .ok (.iinc 4 1, 3) := by decide +kernel
theorem dX11_replaceAll_194 : decode cX11_replaceAll 194 = .ok (.goto (-131), 3) := by decide +kernel
theorem dX11_replaceAll_197 : decode cX11_replaceAll 197 = .ok (.aload_n 0, 1) := by decide +kernel
theorem dX11_replaceAll_198 : decode cX11_replaceAll 198 = .ok (.getfield 31, 3) := by decide +kernel
theorem dX11_replaceAll_201 : decode cX11_replaceAll 201 = .ok (.iload_n 1, 1) := by decide +kernel
theorem dX11_replaceAll_202 : decode cX11_replaceAll 202 = .ok (.aaload, 1) := by decide +kernel
theorem dX11_replaceAll_203 : decode cX11_replaceAll 203 = .ok (.iconst 1, 1) := by decide +kernel
theorem dX11_replaceAll_204 : decode cX11_replaceAll 204 = .ok (.dup2, 1) := by decide +kernel
theorem dX11_replaceAll_205 : decode cX11_replaceAll 205 = .ok (.iaload, 1) := by decide +kernel
theorem dX11_replaceAll_206 : decode cX11_replaceAll 206 = .ok (.iconst 1, 1) := by decide +kernel
theorem dX11_replaceAll_207 : decode cX11_replaceAll 207 = .ok (.iadd, 1) := by decide +kernel
theorem dX11_replaceAll_208 : decode cX11_replaceAll 208 = .ok (.iastore, 1) := by decide +kernel
theorem dX11_replaceAll_209 : decode cX11_replaceAll 209 = .ok (.aload_n 0, 1) := by decide +kernel
theorem dX11_replaceAll_210 : decode cX11_replaceAll 210 = .ok (.getfield 21, 3) := by decide +kernel
theorem dX11_replaceAll_213 : decode cX11_replaceAll 213 = .ok (.iload_n 1, 1) := by decide +kernel
theorem dX11_replaceAll_214 : decode cX11_replaceAll 214 = .ok (.invokevirtual 82, 3) := by decide +kernel
theorem dX11_replaceAll_217 : decode cX11_replaceAll 217 = .ok (.checkcast 18, 3) := by decide +kernel
theorem dX11_replaceAll_220 : decode cX11_replaceAll 220 = .ok (.invokevirtual 86, 3) := by decide +kernel
theorem dX11_replaceAll_223 : decode cX11_replaceAll 223 = .ok (.ireturn, 1) := by decide +kernel
theorem dX11_copy_0 : decode cX11_copy 0 = .ok (.aload_n 0, 1) := by decide +kernel
theorem dX11_copy_1 : decode cX11_copy 1 = .ok (.iload_n 1, 1) := by decide +kernel
theorem dX11_copy_2 : decode cX11_copy 2 = .ok (.invokestatic 72, 3) := by decide +kernel
theorem dX11_copy_5 : decode cX11_copy 5 = .ok (.iconst 1, 1) := by decide +kernel
theorem dX11_copy_6 : decode cX11_copy 6 = .ok (.invokevirtual 76, 3) := by decide +kernel
theorem dX11_copy_9 : decode cX11_copy 9 = .ok (.ifCond .eq 5, 3) := by decide +kernel
theorem dX11_copy_12 : decode cX11_copy 12 = .ok (.iconst 0, 1) := by decide +kernel
theorem dX11_copy_13 : decode cX11_copy 13 = .ok (.ireturn, 1) := by decide +kernel
theorem dX11_copy_14 : decode cX11_copy 14 = .ok (.aload_n 0, 1) := by decide +kernel
theorem dX11_copy_15 : decode cX11_copy 15 = .ok (.getfield 21, 3) := by decide +kernel
theorem dX11_copy_18 : decode cX11_copy 18 = .ok (.iload_n 1, 1) := by decide +kernel
theorem dX11_copy_19 : decode cX11_copy 19 = .ok (.new 18, 3) := by decide +kernel
theorem dX11_copy_22 : decode cX11_copy 22 = .ok (.dup, 1) := by decide +kernel
theorem dX11_copy_23 : decode cX11_copy 23 = .ok (.aload_n 0, 1) := by decide +kernel
theorem dX11_copy_24 : decode cX11_copy 24 = .ok (.getfield 21, 3) := by decide +kernel
theorem dX11_copy_27 : decode cX11_copy 27 = .ok (.iconst 1, 1) := by decide +kernel
theorem dX11_copy_28 : decode cX11_copy 28 = .ok (.iload_n 1, 1) := by decide +kernel
theorem dX11_copy_29 : decode cX11_copy 29 = .ok (.isub, 1) := by decide +kernel
theorem dX11_copy_30 : decode cX11_copy 30 = .ok (.invokevirtual 82, 3) := by decide +kernel
theorem dX11_copy_33 : decode cX11_copy 33 = .ok (.checkcast 123, 3) := by decide +kernel
theorem dX11_copy_36 : decode cX11_copy 36 = .ok (.invokespecial 125, 3) := by decide +kernel
theorem dX11_copy_39 : decode cX11_copy 39 = .ok (.invokevirtual 119, 3) := by decide +kernel
theorem dX11_copy_42 : decode cX11_copy 42 = .ok (.pop, 1) := by decide +kernel
theorem dX11_copy_43 : decode cX11_copy 43 = .ok (.aload_n 0, 1) := by decide +kernel
theorem dX11_copy_44 : decode cX11_copy 44 = .ok (.getfield 21, 3) := by decide +kernel
theorem dX11_copy_47 : decode cX11_copy 47 = .ok (.iload_n 1, 1) := by decide +kernel
theorem dX11_copy_48 : decode cX11_copy 48 = .ok (.invokevirtual 82, 3) := by decide +kernel
theorem dX11_copy_51 : decode cX11_copy 51 = .ok (.checkcast 18, 3) := by decide +kernel
theorem dX11_copy_54 : decode cX11_copy 54 = .ok (.invokevirtual 86, 3) := by decide +kernel
theorem dX11_copy_57 : decode cX11_copy 57 = .ok (.ireturn, 1) := by decide +kernel
theorem dX11_place_0 : decode cX11_place 0 = .ok (.iconst 0, 1) := by decide +kernel
theorem dX11_place_1 : decode cX11_place 1 = .ok (.istore_n 3, 1) := by decide +kernel
theorem dX11_place_2 : decode cX11_place 2 = .ok (.iload_n 3, 1) := by decide +kernel
theorem dX11_place_3 : decode cX11_place 3 = .ok (.aload_n 0, 1) := by decide +kernel
theorem dX11_place_4 : decode cX11_place 4 = .ok (.getfield 34, 3) := by decide +kernel
theorem dX11_place_7 : decode cX11_place 7 = .ok (.iload_n 1, 1) := by decide +kernel
theorem dX11_place_8 : decode cX11_place 8 = .ok (.invokevirtual 82, 3) := by decide +kernel
theorem dX11_place_11 : decode cX11_place 11 = .ok (.checkcast 18, 3) := by decide +kernel
theorem dX11_place_14 : decode cX11_place 14 = .ok (.invokevirtual 86, 3) := by decide +kernel
theorem dX11_place_17 : decode cX11_place 17 = .ok (.if_icmp .ge 35, 3) := by decide +kernel
theorem dX11_place_20 : decode cX11_place 20 = .ok (.aload_n 0, 1) := by decide +kernel
theorem dX11_place_21 : decode cX11_place 21 = .ok (.getfield 34, 3) := by decide +kernel
theorem dX11_place_24 : decode cX11_place 24 = .ok (.iload_n 1, 1) := by decide +kernel
theorem dX11_place_25 : decode cX11_place 25 = .ok (.invokevirtual 82, 3) := by decide +kernel
theorem dX11_place_28 : decode cX11_place 28 = .ok (.checkcast 18, 3) := by decide +kernel
theorem dX11_place_31 : decode cX11_place 31 = .ok (.iload_n 3, 1) := by decide +kernel
theorem dX11_place_32 : decode cX11_place 32 = .ok (.invokevirtual 82, 3) := by decide +kernel
theorem dX11_place_35 : decode cX11_place 35 = .ok (.checkcast 128, 3) := by decide +kernel
theorem dX11_place_38 : decode cX11_place 38 = .ok (.iconst 0, 1) := by decide +kernel
theorem dX11_place_39 : decode cX11_place 39 = .ok (.iaload, 1) := by decide +kernel
theorem dX11_place_40 : decode cX11_place 40 = .ok (.iload_n 2, 1) := by decide +kernel
theorem dX11_place_41 : decode cX11_place 41 = .ok (.if_icmp .ne 5, 3) := by decide +kernel
theorem dX11_place_44 : decode cX11_place 44 = .ok (.iload_n 3, 1) := by decide +kernel
theorem dX11_place_45 : decode cX11_place 45 = .ok (.ireturn, 1) := by decide +kernel
theorem dX11_place_46 : decode cX11_place 46 = .ok (.iinc 3 1, 3) := by decide +kernel
theorem dX11_place_49 : decode cX11_place 49 = .ok (.goto (-47), 3) := by decide +kernel
theorem dX11_place_52 : decode cX11_place 52 = .ok (.iconst (-1), 1) := by decide +kernel
theorem dX11_place_53 : decode cX11_place 53 = .ok (.ireturn, 1) := by decide +kernel
theorem dX11_valueOf_0 : decode cX11_valueOf 0 = .ok (.aload_n 0, 1) := by decide +kernel
theorem dX11_valueOf_1 : decode cX11_valueOf 1 = .ok (.iload_n 1, 1) := by decide +kernel
theorem dX11_valueOf_2 : decode cX11_valueOf 2 = .ok (.iload_n 2, 1) := by decide +kernel
theorem dX11_valueOf_3 : decode cX11_valueOf 3 = .ok (.invokevirtual 130, 3) := by decide +kernel
theorem dX11_valueOf_6 : decode cX11_valueOf 6 = .ok (.istore_n 3, 1) := by decide +kernel
theorem dX11_valueOf_7 : decode cX11_valueOf 7 = .ok (.iload_n 3, 1) := by decide +kernel
theorem dX11_valueOf_8 : decode cX11_valueOf 8 = .ok (.ifCond .ge 9, 3) := by decide +kernel
theorem dX11_valueOf_11 : decode cX11_valueOf 11 = .ok (.sipush (-1000), 3) := by decide +kernel
theorem dX11_valueOf_14 : decode cX11_valueOf 14 = .ok (.goto 23, 3) := by decide +kernel
theorem dX11_valueOf_17 : decode cX11_valueOf 17 = .ok (.aload_n 0, 1) := by decide +kernel
theorem dX11_valueOf_18 : decode cX11_valueOf 18 = .ok (.getfield 34, 3) := by decide +kernel
theorem dX11_valueOf_21 : decode cX11_valueOf 21 = .ok (.iload_n 1, 1) := by decide +kernel
theorem dX11_valueOf_22 : decode cX11_valueOf 22 = .ok (.invokevirtual 82, 3) := by decide +kernel
theorem dX11_valueOf_25 : decode cX11_valueOf 25 = .ok (.checkcast 18, 3) := by decide +kernel
theorem dX11_valueOf_28 : decode cX11_valueOf 28 = .ok (.iload_n 3, 1) := by decide +kernel
theorem dX11_valueOf_29 : decode cX11_valueOf 29 = .ok (.invokevirtual 82, 3) := by decide +kernel
theorem dX11_valueOf_32 : decode cX11_valueOf 32 = .ok (.checkcast 128, 3) := by decide +kernel
theorem dX11_valueOf_35 : decode cX11_valueOf 35 = .ok (.iconst 1, 1) := by decide +kernel
theorem dX11_valueOf_36 : decode cX11_valueOf 36 = .ok (.iaload, 1) := by decide +kernel
theorem dX11_valueOf_37 : decode cX11_valueOf 37 = .ok (.ireturn, 1) := by decide +kernel
theorem dX11_lay_0 : decode cX11_lay 0 = .ok (.iload_n 1, 1) := by decide +kernel
theorem dX11_lay_1 : decode cX11_lay 1 = .ok (.ifCond .ne 15, 3) := by decide +kernel
theorem dX11_lay_4 : decode cX11_lay 4 = .ok (.aload_n 0, 1) := by decide +kernel
theorem dX11_lay_5 : decode cX11_lay 5 = .ok (.getfield 31, 3) := by decide +kernel
theorem dX11_lay_8 : decode cX11_lay 8 = .ok (.iconst 2, 1) := by decide +kernel
theorem dX11_lay_9 : decode cX11_lay 9 = .ok (.aaload, 1) := by decide +kernel
theorem dX11_lay_10 : decode cX11_lay 10 = .ok (.iconst 5, 1) := by decide +kernel
theorem dX11_lay_11 : decode cX11_lay 11 = .ok (.dup2, 1) := by decide +kernel
theorem dX11_lay_12 : decode cX11_lay 12 = .ok (.iaload, 1) := by decide +kernel
theorem dX11_lay_13 : decode cX11_lay 13 = .ok (.iconst 1, 1) := by decide +kernel
theorem dX11_lay_14 : decode cX11_lay 14 = .ok (.iadd, 1) := by decide +kernel
theorem dX11_lay_15 : decode cX11_lay 15 = .ok (.iastore, 1) := by decide +kernel
theorem dX11_lay_16 : decode cX11_lay 16 = .ok (.aload_n 0, 1) := by decide +kernel
theorem dX11_lay_17 : decode cX11_lay 17 = .ok (.iload_n 1, 1) := by decide +kernel
theorem dX11_lay_18 : decode cX11_lay 18 = .ok (.iload_n 2, 1) := by decide +kernel
theorem dX11_lay_19 : decode cX11_lay 19 = .ok (.invokevirtual 130, 3) := by decide +kernel
theorem dX11_lay_22 : decode cX11_lay 22 = .ok (.istore 4, 2) := by decide +kernel
theorem dX11_lay_24 : decode cX11_lay 24 = .ok (.iload 4, 2) := by decide +kernel
theorem dX11_lay_26 : decode cX11_lay 26 = .ok (.ifCond .lt 26, 3) := by decide +kernel
theorem dX11_lay_29 : decode cX11_lay 29 = .ok (.aload_n 0, 1) := by decide +kernel
theorem dX11_lay_30 : decode cX11_lay 30 = .ok (.getfield 34, 3) := by decide +kernel
theorem dX11_lay_33 : decode cX11_lay 33 = .ok (.iload_n 1, 1) := by decide +kernel
theorem dX11_lay_34 : decode cX11_lay 34 = .ok (.invokevirtual 82, 3) := by decide +kernel
theorem dX11_lay_37 : decode cX11_lay 37 = .ok (.checkcast 18, 3) := by decide +kernel
theorem dX11_lay_40 : decode cX11_lay 40 = .ok (.iload 4, 2) := by decide +kernel
theorem dX11_lay_42 : decode cX11_lay 42 = .ok (.invokevirtual 82, 3) := by decide +kernel
theorem dX11_lay_45 : decode cX11_lay 45 = .ok (.checkcast 128, 3) := by decide +kernel
theorem dX11_lay_48 : decode cX11_lay 48 = .ok (.iconst 1, 1) := by decide +kernel
theorem dX11_lay_49 : decode cX11_lay 49 = .ok (.iload_n 3, 1) := by decide +kernel
theorem dX11_lay_50 : decode cX11_lay 50 = .ok (.iastore, 1) := by decide +kernel
theorem dX11_lay_51 : decode cX11_lay 51 = .ok (.return_, 1) := by decide +kernel
theorem dX11_lay_52 : decode cX11_lay 52 = .ok (.aload_n 0, 1) := by decide +kernel
theorem dX11_lay_53 : decode cX11_lay 53 = .ok (.getfield 34, 3) := by decide +kernel
theorem dX11_lay_56 : decode cX11_lay 56 = .ok (.iload_n 1, 1) := by decide +kernel
theorem dX11_lay_57 : decode cX11_lay 57 = .ok (.invokevirtual 82, 3) := by decide +kernel
theorem dX11_lay_60 : decode cX11_lay 60 = .ok (.checkcast 18, 3) := by decide +kernel
theorem dX11_lay_63 : decode cX11_lay 63 = .ok (.invokevirtual 86, 3) := by decide +kernel
theorem dX11_lay_66 : decode cX11_lay 66 = .ok (.istore 5, 2) := by decide +kernel
theorem dX11_lay_68 : decode cX11_lay 68 = .ok (.iload_n 1, 1) := by decide +kernel
theorem dX11_lay_69 : decode cX11_lay 69 = .ok (.iconst 2, 1) := by decide +kernel
theorem dX11_lay_70 : decode cX11_lay 70 = .ok (.if_icmp .ne 41, 3) := by decide +kernel
theorem dX11_lay_73 : decode cX11_lay 73 = .ok (.iload 5, 2) := by decide +kernel
theorem dX11_lay_75 : decode cX11_lay 75 = .ok (.ifCond .le 36, 3) := by decide +kernel
theorem dX11_lay_78 : decode cX11_lay 78 = .ok (.aload_n 0, 1) := by decide +kernel
theorem dX11_lay_79 : decode cX11_lay 79 = .ok (.getfield 34, 3) := by decide +kernel
theorem dX11_lay_82 : decode cX11_lay 82 = .ok (.iload_n 1, 1) := by decide +kernel
theorem dX11_lay_83 : decode cX11_lay 83 = .ok (.invokevirtual 82, 3) := by decide +kernel
theorem dX11_lay_86 : decode cX11_lay 86 = .ok (.checkcast 18, 3) := by decide +kernel
theorem dX11_lay_89 : decode cX11_lay 89 = .ok (.iload 5, 2) := by decide +kernel
theorem dX11_lay_91 : decode cX11_lay 91 = .ok (.iconst 1, 1) := by decide +kernel
theorem dX11_lay_92 : decode cX11_lay 92 = .ok (.isub, 1) := by decide +kernel
theorem dX11_lay_93 : decode cX11_lay 93 = .ok (.invokevirtual 82, 3) := by decide +kernel
theorem dX11_lay_96 : decode cX11_lay 96 = .ok (.checkcast 128, 3) := by decide +kernel
theorem dX11_lay_99 : decode cX11_lay 99 = .ok (.iconst 0, 1) := by decide +kernel
theorem dX11_lay_100 : decode cX11_lay 100 = .ok (.iaload, 1) := by decide +kernel
theorem dX11_lay_101 : decode cX11_lay 101 = .ok (.iload_n 2, 1) := by decide +kernel
theorem dX11_lay_102 : decode cX11_lay 102 = .ok (.if_icmp .le 9, 3) := by decide +kernel
theorem dX11_lay_105 : decode cX11_lay 105 = .ok (.iinc 5 (-1), 3) := by decide +kernel
theorem dX11_lay_108 : decode cX11_lay 108 = .ok (.goto (-40), 3) := by decide +kernel
theorem dX11_lay_111 : decode cX11_lay 111 = .ok (.aload_n 0, 1) := by decide +kernel
theorem dX11_lay_112 : decode cX11_lay 112 = .ok (.getfield 34, 3) := by decide +kernel
theorem dX11_lay_115 : decode cX11_lay 115 = .ok (.iload_n 1, 1) := by decide +kernel
theorem dX11_lay_116 : decode cX11_lay 116 = .ok (.invokevirtual 82, 3) := by decide +kernel
theorem dX11_lay_119 : decode cX11_lay 119 = .ok (.checkcast 18, 3) := by decide +kernel
theorem dX11_lay_122 : decode cX11_lay 122 = .ok (.iload 5, 2) := by decide +kernel
theorem dX11_lay_124 : decode cX11_lay 124 = .ok (.iconst 2, 1) := by decide +kernel
theorem dX11_lay_125 : decode cX11_lay 125 = .ok (.newarray .int, 2) := by decide +kernel
theorem dX11_lay_127 : decode cX11_lay 127 = .ok (.dup, 1) := by decide +kernel
theorem dX11_lay_128 : decode cX11_lay 128 = .ok (.iconst 0, 1) := by decide +kernel
theorem dX11_lay_129 : decode cX11_lay 129 = .ok (.iload_n 2, 1) := by decide +kernel
theorem dX11_lay_130 : decode cX11_lay 130 = .ok (.iastore, 1) := by decide +kernel
theorem dX11_lay_131 : decode cX11_lay 131 = .ok (.dup, 1) := by decide +kernel
theorem dX11_lay_132 : decode cX11_lay 132 = .ok (.iconst 1, 1) := by decide +kernel
theorem dX11_lay_133 : decode cX11_lay 133 = .ok (.iload_n 3, 1) := by decide +kernel
theorem dX11_lay_134 : decode cX11_lay 134 = .ok (.iastore, 1) := by decide +kernel
theorem dX11_lay_135 : decode cX11_lay 135 = .ok (.invokevirtual 133, 3) := by decide +kernel
theorem dX11_lay_138 : decode cX11_lay 138 = .ok (.return_, 1) := by decide +kernel
theorem dX11_go_0 : decode cX11_go 0 = .ok (.iload_n 1, 1) := by decide +kernel
theorem dX11_go_1 : decode cX11_go 1 = .ok (.ifCond .ne 16, 3) := by decide +kernel
theorem dX11_go_4 : decode cX11_go 4 = .ok (.aload_n 0, 1) := by decide +kernel
theorem dX11_go_5 : decode cX11_go 5 = .ok (.getfield 31, 3) := by decide +kernel
theorem dX11_go_8 : decode cX11_go 8 = .ok (.iconst 2, 1) := by decide +kernel
theorem dX11_go_9 : decode cX11_go 9 = .ok (.aaload, 1) := by decide +kernel
theorem dX11_go_10 : decode cX11_go 10 = .ok (.bipush 6, 2) := by decide +kernel
theorem dX11_go_12 : decode cX11_go 12 = .ok (.dup2, 1) := by decide +kernel
theorem dX11_go_13 : decode cX11_go 13 = .ok (.iaload, 1) := by decide +kernel
theorem dX11_go_14 : decode cX11_go 14 = .ok (.iconst 1, 1) := by decide +kernel
theorem dX11_go_15 : decode cX11_go 15 = .ok (.iadd, 1) := by decide +kernel
theorem dX11_go_16 : decode cX11_go 16 = .ok (.iastore, 1) := by decide +kernel
theorem dX11_go_17 : decode cX11_go 17 = .ok (.aload_n 0, 1) := by decide +kernel
theorem dX11_go_18 : decode cX11_go 18 = .ok (.iload_n 1, 1) := by decide +kernel
theorem dX11_go_19 : decode cX11_go 19 = .ok (.iload_n 2, 1) := by decide +kernel
theorem dX11_go_20 : decode cX11_go 20 = .ok (.invokevirtual 130, 3) := by decide +kernel
theorem dX11_go_23 : decode cX11_go 23 = .ok (.istore_n 3, 1) := by decide +kernel
theorem dX11_go_24 : decode cX11_go 24 = .ok (.iload_n 3, 1) := by decide +kernel
theorem dX11_go_25 : decode cX11_go 25 = .ok (.ifCond .lt 19, 3) := by decide +kernel
theorem dX11_go_28 : decode cX11_go 28 = .ok (.aload_n 0, 1) := by decide +kernel
theorem dX11_go_29 : decode cX11_go 29 = .ok (.getfield 34, 3) := by decide +kernel
theorem dX11_go_32 : decode cX11_go 32 = .ok (.iload_n 1, 1) := by decide +kernel
theorem dX11_go_33 : decode cX11_go 33 = .ok (.invokevirtual 82, 3) := by decide +kernel
theorem dX11_go_36 : decode cX11_go 36 = .ok (.checkcast 18, 3) := by decide +kernel
theorem dX11_go_39 : decode cX11_go 39 = .ok (.iload_n 3, 1) := by decide +kernel
theorem dX11_go_40 : decode cX11_go 40 = .ok (.invokevirtual 96, 3) := by decide +kernel
theorem dX11_go_43 : decode cX11_go 43 = .ok (.pop, 1) := by decide +kernel
theorem dX11_go_44 : decode cX11_go 44 = .ok (.return_, 1) := by decide +kernel
theorem dX11_isNoPair_0 : decode cX11_isNoPair 0 = .ok (.aload_n 0, 1) := by decide +kernel
theorem dX11_isNoPair_1 : decode cX11_isNoPair 1 = .ok (.iload_n 1, 1) := by decide +kernel
theorem dX11_isNoPair_2 : decode cX11_isNoPair 2 = .ok (.invokestatic 136, 3) := by decide +kernel
theorem dX11_isNoPair_5 : decode cX11_isNoPair 5 = .ok (.iconst 1, 1) := by decide +kernel
theorem dX11_isNoPair_6 : decode cX11_isNoPair 6 = .ok (.invokevirtual 76, 3) := by decide +kernel
theorem dX11_isNoPair_9 : decode cX11_isNoPair 9 = .ok (.ifCond .ne 30, 3) := by decide +kernel
theorem dX11_isNoPair_12 : decode cX11_isNoPair 12 = .ok (.aload_n 0, 1) := by decide +kernel
theorem dX11_isNoPair_13 : decode cX11_isNoPair 13 = .ok (.iload_n 2, 1) := by decide +kernel
theorem dX11_isNoPair_14 : decode cX11_isNoPair 14 = .ok (.invokestatic 139, 3) := by decide +kernel
theorem dX11_isNoPair_17 : decode cX11_isNoPair 17 = .ok (.ifCond .ne 10, 3) := by decide +kernel
theorem dX11_isNoPair_20 : decode cX11_isNoPair 20 = .ok (.iload_n 3, 1) := by decide +kernel
theorem dX11_isNoPair_21 : decode cX11_isNoPair 21 = .ok (.invokestatic 79, 3) := by decide +kernel
theorem dX11_isNoPair_24 : decode cX11_isNoPair 24 = .ok (.ifCond .eq 7, 3) := by decide +kernel
theorem dX11_isNoPair_27 : decode cX11_isNoPair 27 = .ok (.iconst 1, 1) := by decide +kernel
theorem dX11_isNoPair_28 : decode cX11_isNoPair 28 = .ok (.goto 4, 3) := by decide +kernel
theorem dX11_isNoPair_31 : decode cX11_isNoPair 31 = .ok (.iconst 0, 1) := by decide +kernel
theorem dX11_isNoPair_32 : decode cX11_isNoPair 32 = .ok (.iconst 2, 1) := by decide +kernel
theorem dX11_isNoPair_33 : decode cX11_isNoPair 33 = .ok (.invokevirtual 52, 3) := by decide +kernel
theorem dX11_isNoPair_36 : decode cX11_isNoPair 36 = .ok (.ifCond .eq 7, 3) := by decide +kernel
theorem dX11_isNoPair_39 : decode cX11_isNoPair 39 = .ok (.iconst 1, 1) := by decide +kernel
theorem dX11_isNoPair_40 : decode cX11_isNoPair 40 = .ok (.goto 4, 3) := by decide +kernel
theorem dX11_isNoPair_43 : decode cX11_isNoPair 43 = .ok (.iconst 0, 1) := by decide +kernel
theorem dX11_isNoPair_44 : decode cX11_isNoPair 44 = .ok (.ireturn, 1) := by decide +kernel
theorem dX11_put_0 : decode cX11_put 0 = .ok (.aload_n 0, 1) := by decide +kernel
theorem dX11_put_1 : decode cX11_put 1 = .ok (.iload_n 1, 1) := by decide +kernel
theorem dX11_put_2 : decode cX11_put 2 = .ok (.iload_n 2, 1) := by decide +kernel
theorem dX11_put_3 : decode cX11_put 3 = .ok (.iload_n 3, 1) := by decide +kernel
theorem dX11_put_4 : decode cX11_put 4 = .ok (.invokevirtual 142, 3) := by decide +kernel
theorem dX11_put_7 : decode cX11_put 7 = .ok (.ifCond .eq 5, 3) := by decide +kernel
theorem dX11_put_10 : decode cX11_put 10 = .ok (.iconst 0, 1) := by decide +kernel
theorem dX11_put_11 : decode cX11_put 11 = .ok (.ireturn, 1) := by decide +kernel
theorem dX11_put_12 : decode cX11_put 12 = .ok (.aload_n 0, 1) := by decide +kernel
theorem dX11_put_13 : decode cX11_put 13 = .ok (.iload_n 1, 1) := by decide +kernel
theorem dX11_put_14 : decode cX11_put 14 = .ok (.iload_n 2, 1) := by decide +kernel
theorem dX11_put_15 : decode cX11_put 15 = .ok (.invokevirtual 145, 3) := by decide +kernel
theorem dX11_put_18 : decode cX11_put 18 = .ok (.istore 4, 2) := by decide +kernel
theorem dX11_put_20 : decode cX11_put 20 = .ok (.aload_n 0, 1) := by decide +kernel
theorem dX11_put_21 : decode cX11_put 21 = .ok (.iload_n 1, 1) := by decide +kernel
theorem dX11_put_22 : decode cX11_put 22 = .ok (.iload_n 2, 1) := by decide +kernel
theorem dX11_put_23 : decode cX11_put 23 = .ok (.iload_n 3, 1) := by decide +kernel
theorem dX11_put_24 : decode cX11_put 24 = .ok (.invokevirtual 147, 3) := by decide +kernel
theorem dX11_put_27 : decode cX11_put 27 = .ok (.iload 4, 2) := by decide +kernel
theorem dX11_put_29 : decode cX11_put 29 = .ok (.ireturn, 1) := by decide +kernel
theorem dX11_remove_0 : decode cX11_remove 0 = .ok (.aload_n 0, 1) := by decide +kernel
theorem dX11_remove_1 : decode cX11_remove 1 = .ok (.iload_n 1, 1) := by decide +kernel
theorem dX11_remove_2 : decode cX11_remove 2 = .ok (.iload_n 2, 1) := by decide +kernel
theorem dX11_remove_3 : decode cX11_remove 3 = .ok (.iconst 0, 1) := by decide +kernel
theorem dX11_remove_4 : decode cX11_remove 4 = .ok (.invokevirtual 142, 3) := by decide +kernel
theorem dX11_remove_7 : decode cX11_remove 7 = .ok (.ifCond .eq 5, 3) := by decide +kernel
theorem dX11_remove_10 : decode cX11_remove 10 = .ok (.iconst 0, 1) := by decide +kernel
theorem dX11_remove_11 : decode cX11_remove 11 = .ok (.ireturn, 1) := by decide +kernel
theorem dX11_remove_12 : decode cX11_remove 12 = .ok (.aload_n 0, 1) := by decide +kernel
theorem dX11_remove_13 : decode cX11_remove 13 = .ok (.iload_n 1, 1) := by decide +kernel
theorem dX11_remove_14 : decode cX11_remove 14 = .ok (.iload_n 2, 1) := by decide +kernel
theorem dX11_remove_15 : decode cX11_remove 15 = .ok (.invokevirtual 145, 3) := by decide +kernel
theorem dX11_remove_18 : decode cX11_remove 18 = .ok (.istore_n 3, 1) := by decide +kernel
theorem dX11_remove_19 : decode cX11_remove 19 = .ok (.aload_n 0, 1) := by decide +kernel
theorem dX11_remove_20 : decode cX11_remove 20 = .ok (.iload_n 1, 1) := by decide +kernel
theorem dX11_remove_21 : decode cX11_remove 21 = .ok (.iload_n 2, 1) := by decide +kernel
theorem dX11_remove_22 : decode cX11_remove 22 = .ok (.invokevirtual 151, 3) := by decide +kernel
theorem dX11_remove_25 : decode cX11_remove 25 = .ok (.iload_n 3, 1) := by decide +kernel
theorem dX11_remove_26 : decode cX11_remove 26 = .ok (.ireturn, 1) := by decide +kernel
theorem dX11_putIfAbsent_0 : decode cX11_putIfAbsent 0 = .ok (.aload_n 0, 1) := by decide +kernel
theorem dX11_putIfAbsent_1 : decode cX11_putIfAbsent 1 = .ok (.iload_n 1, 1) := by decide +kernel
theorem dX11_putIfAbsent_2 : decode cX11_putIfAbsent 2 = .ok (.iload_n 2, 1) := by decide +kernel
theorem dX11_putIfAbsent_3 : decode cX11_putIfAbsent 3 = .ok (.iload_n 3, 1) := by decide +kernel
theorem dX11_putIfAbsent_4 : decode cX11_putIfAbsent 4 = .ok (.invokevirtual 142, 3) := by decide +kernel
theorem dX11_putIfAbsent_7 : decode cX11_putIfAbsent 7 = .ok (.ifCond .eq 5, 3) := by decide +kernel
theorem dX11_putIfAbsent_10 : decode cX11_putIfAbsent 10 = .ok (.iconst 0, 1) := by decide +kernel
theorem dX11_putIfAbsent_11 : decode cX11_putIfAbsent 11 = .ok (.ireturn, 1) := by decide +kernel
theorem dX11_putIfAbsent_12 : decode cX11_putIfAbsent 12 = .ok (.aload_n 0, 1) := by decide +kernel
theorem dX11_putIfAbsent_13 : decode cX11_putIfAbsent 13 = .ok (.iload_n 1, 1) := by decide +kernel
theorem dX11_putIfAbsent_14 : decode cX11_putIfAbsent 14 = .ok (.iload_n 2, 1) := by decide +kernel
theorem dX11_putIfAbsent_15 : decode cX11_putIfAbsent 15 = .ok (.invokevirtual 145, 3) := by decide +kernel
theorem dX11_putIfAbsent_18 : decode cX11_putIfAbsent 18 = .ok (.istore 4, 2) := by decide +kernel
theorem dX11_putIfAbsent_20 : decode cX11_putIfAbsent 20 = .ok (.iload 4, 2) := by decide +kernel
theorem dX11_putIfAbsent_22 : decode cX11_putIfAbsent 22 = .ok (.sipush (-1000), 3) := by decide +kernel
theorem dX11_putIfAbsent_25 : decode cX11_putIfAbsent 25 = .ok (.if_icmp .ne 10, 3) := by decide +kernel
theorem dX11_putIfAbsent_28 : decode cX11_putIfAbsent 28 = .ok (.aload_n 0, 1) := by decide +kernel
theorem dX11_putIfAbsent_29 : decode cX11_putIfAbsent 29 = .ok (.iload_n 1, 1) := by decide +kernel
theorem dX11_putIfAbsent_30 : decode cX11_putIfAbsent 30 = .ok (.iload_n 2, 1) := by decide +kernel
theorem dX11_putIfAbsent_31 : decode cX11_putIfAbsent 31 = .ok (.iload_n 3, 1) := by decide +kernel
theorem dX11_putIfAbsent_32 : decode cX11_putIfAbsent 32 = .ok (.invokevirtual 147, 3) := by decide +kernel
theorem dX11_putIfAbsent_35 : decode cX11_putIfAbsent 35 = .ok (.iload 4, 2) := by decide +kernel
theorem dX11_putIfAbsent_37 : decode cX11_putIfAbsent 37 = .ok (.ireturn, 1) := by decide +kernel
theorem dX11_replace_0 : decode cX11_replace 0 = .ok (.aload_n 0, 1) := by decide +kernel
theorem dX11_replace_1 : decode cX11_replace 1 = .ok (.iload_n 1, 1) := by decide +kernel
theorem dX11_replace_2 : decode cX11_replace 2 = .ok (.iload_n 2, 1) := by decide +kernel
theorem dX11_replace_3 : decode cX11_replace 3 = .ok (.iload_n 3, 1) := by decide +kernel
theorem dX11_replace_4 : decode cX11_replace 4 = .ok (.invokevirtual 142, 3) := by decide +kernel
theorem dX11_replace_7 : decode cX11_replace 7 = .ok (.ifCond .eq 5, 3) := by decide +kernel
theorem dX11_replace_10 : decode cX11_replace 10 = .ok (.iconst 0, 1) := by decide +kernel
theorem dX11_replace_11 : decode cX11_replace 11 = .ok (.ireturn, 1) := by decide +kernel
theorem dX11_replace_12 : decode cX11_replace 12 = .ok (.aload_n 0, 1) := by decide +kernel
theorem dX11_replace_13 : decode cX11_replace 13 = .ok (.iload_n 1, 1) := by decide +kernel
theorem dX11_replace_14 : decode cX11_replace 14 = .ok (.iload_n 2, 1) := by decide +kernel
theorem dX11_replace_15 : decode cX11_replace 15 = .ok (.invokevirtual 145, 3) := by decide +kernel
theorem dX11_replace_18 : decode cX11_replace 18 = .ok (.istore 4, 2) := by decide +kernel
theorem dX11_replace_20 : decode cX11_replace 20 = .ok (.iload 4, 2) := by decide +kernel
theorem dX11_replace_22 : decode cX11_replace 22 = .ok (.sipush (-1000), 3) := by decide +kernel
theorem dX11_replace_25 : decode cX11_replace 25 = .ok (.if_icmp .eq 10, 3) := by decide +kernel
theorem dX11_replace_28 : decode cX11_replace 28 = .ok (.aload_n 0, 1) := by decide +kernel
theorem dX11_replace_29 : decode cX11_replace 29 = .ok (.iload_n 1, 1) := by decide +kernel
theorem dX11_replace_30 : decode cX11_replace 30 = .ok (.iload_n 2, 1) := by decide +kernel
theorem dX11_replace_31 : decode cX11_replace 31 = .ok (.iload_n 3, 1) := by decide +kernel
theorem dX11_replace_32 : decode cX11_replace 32 = .ok (.invokevirtual 147, 3) := by decide +kernel
theorem dX11_replace_35 : decode cX11_replace 35 = .ok (.iload 4, 2) := by decide +kernel
theorem dX11_replace_37 : decode cX11_replace 37 = .ok (.ireturn, 1) := by decide +kernel
theorem dX11_replaceIf_0 : decode cX11_replaceIf 0 = .ok (.aload_n 0, 1) := by decide +kernel
theorem dX11_replaceIf_1 : decode cX11_replaceIf 1 = .ok (.iload_n 1, 1) := by decide +kernel
theorem dX11_replaceIf_2 : decode cX11_replaceIf 2 = .ok (.iload_n 2, 1) := by decide +kernel
theorem dX11_replaceIf_3 : decode cX11_replaceIf 3 = .ok (.iload_n 3, 1) := by decide +kernel
theorem dX11_replaceIf_4 : decode cX11_replaceIf 4 = .ok (.invokevirtual 142, 3) := by decide +kernel
theorem dX11_replaceIf_7 : decode cX11_replaceIf 7 = .ok (.ifCond .ne 16, 3) := by decide +kernel
theorem dX11_replaceIf_10 : decode cX11_replaceIf 10 = .ok (.aload_n 0, 1) := by decide +kernel
theorem dX11_replaceIf_11 : decode cX11_replaceIf 11 = .ok (.iload 4, 2) := by decide +kernel
theorem dX11_replaceIf_13 : decode cX11_replaceIf 13 = .ok (.invokestatic 79, 3) := by decide +kernel
theorem dX11_replaceIf_16 : decode cX11_replaceIf 16 = .ok (.iconst 2, 1) := by decide +kernel
theorem dX11_replaceIf_17 : decode cX11_replaceIf 17 = .ok (.invokevirtual 52, 3) := by decide +kernel
theorem dX11_replaceIf_20 : decode cX11_replaceIf 20 = .ok (.ifCond .eq 5, 3) := by decide +kernel
theorem dX11_replaceIf_23 : decode cX11_replaceIf 23 = .ok (.iconst 0, 1) := by decide +kernel
theorem dX11_replaceIf_24 : decode cX11_replaceIf 24 = .ok (.ireturn, 1) := by decide +kernel
theorem dX11_replaceIf_25 : decode cX11_replaceIf 25 = .ok (.aload_n 0, 1) := by decide +kernel
theorem dX11_replaceIf_26 : decode cX11_replaceIf 26 = .ok (.iload_n 1, 1) := by decide +kernel
theorem dX11_replaceIf_27 : decode cX11_replaceIf 27 = .ok (.iload_n 2, 1) := by decide +kernel
theorem dX11_replaceIf_28 : decode cX11_replaceIf 28 = .ok (.invokevirtual 145, 3) := by decide +kernel
theorem dX11_replaceIf_31 : decode cX11_replaceIf 31 = .ok (.iload_n 3, 1) := by decide +kernel
theorem dX11_replaceIf_32 : decode cX11_replaceIf 32 = .ok (.if_icmp .ne 7, 3) := by decide +kernel
theorem dX11_replaceIf_35 : decode cX11_replaceIf 35 = .ok (.iconst 1, 1) := by decide +kernel
theorem dX11_replaceIf_36 : decode cX11_replaceIf 36 = .ok (.goto 4, 3) := by decide +kernel
theorem dX11_replaceIf_39 : decode cX11_replaceIf 39 = .ok (.iconst 0, 1) := by decide +kernel
theorem dX11_replaceIf_40 : decode cX11_replaceIf 40 = .ok (.istore 5, 2) := by decide +kernel
theorem dX11_replaceIf_42 : decode cX11_replaceIf 42 = .ok (.iload 5, 2) := by decide +kernel
theorem dX11_replaceIf_44 : decode cX11_replaceIf 44 = .ok (.ifCond .eq 11, 3) := by decide +kernel
theorem dX11_replaceIf_47 : decode cX11_replaceIf 47 = .ok (.aload_n 0, 1) := by decide +kernel
theorem dX11_replaceIf_48 : decode cX11_replaceIf 48 = .ok (.iload_n 1, 1) := by decide +kernel
theorem dX11_replaceIf_49 : decode cX11_replaceIf 49 = .ok (.iload_n 2, 1) := by decide +kernel
theorem dX11_replaceIf_50 : decode cX11_replaceIf 50 = .ok (.iload 4, 2) := by decide +kernel
theorem dX11_replaceIf_52 : decode cX11_replaceIf 52 = .ok (.invokevirtual 147, 3) := by decide +kernel
theorem dX11_replaceIf_55 : decode cX11_replaceIf 55 = .ok (.iload 5, 2) := by decide +kernel
theorem dX11_replaceIf_57 : decode cX11_replaceIf 57 = .ok (.ireturn, 1) := by decide +kernel
theorem dX11_removePair_0 : decode cX11_removePair 0 = .ok (.aload_n 0, 1) := by decide +kernel
theorem dX11_removePair_1 : decode cX11_removePair 1 = .ok (.iload_n 1, 1) := by decide +kernel
theorem dX11_removePair_2 : decode cX11_removePair 2 = .ok (.iload_n 2, 1) := by decide +kernel
theorem dX11_removePair_3 : decode cX11_removePair 3 = .ok (.iload_n 3, 1) := by decide +kernel
theorem dX11_removePair_4 : decode cX11_removePair 4 = .ok (.invokevirtual 142, 3) := by decide +kernel
theorem dX11_removePair_7 : decode cX11_removePair 7 = .ok (.ifCond .eq 5, 3) := by decide +kernel
theorem dX11_removePair_10 : decode cX11_removePair 10 = .ok (.iconst 0, 1) := by decide +kernel
theorem dX11_removePair_11 : decode cX11_removePair 11 = .ok (.ireturn, 1) := by decide +kernel
theorem dX11_removePair_12 : decode cX11_removePair 12 = .ok (.aload_n 0, 1) := by decide +kernel
theorem dX11_removePair_13 : decode cX11_removePair 13 = .ok (.iload_n 1, 1) := by decide +kernel
theorem dX11_removePair_14 : decode cX11_removePair 14 = .ok (.iload_n 2, 1) := by decide +kernel
theorem dX11_removePair_15 : decode cX11_removePair 15 = .ok (.invokevirtual 145, 3) := by decide +kernel
theorem dX11_removePair_18 : decode cX11_removePair 18 = .ok (.iload_n 3, 1) := by decide +kernel
theorem dX11_removePair_19 : decode cX11_removePair 19 = .ok (.if_icmp .ne 7, 3) := by decide +kernel
theorem dX11_removePair_22 : decode cX11_removePair 22 = .ok (.iconst 1, 1) := by decide +kernel
theorem dX11_removePair_23 : decode cX11_removePair 23 = .ok (.goto 4, 3) := by decide +kernel
theorem dX11_removePair_26 : decode cX11_removePair 26 = .ok (.iconst 0, 1) := by decide +kernel
theorem dX11_removePair_27 : decode cX11_removePair 27 = .ok (.istore 4, 2) := by decide +kernel
theorem dX11_removePair_29 : decode cX11_removePair 29 = .ok (.iload 4, 2) := by decide +kernel
theorem dX11_removePair_31 : decode cX11_removePair 31 = .ok (.ifCond .eq 9, 3) := by decide +kernel
theorem dX11_removePair_34 : decode cX11_removePair 34 = .ok (.aload_n 0, 1) := by decide +kernel
theorem dX11_removePair_35 : decode cX11_removePair 35 = .ok (.iload_n 1, 1) := by decide +kernel
theorem dX11_removePair_36 : decode cX11_removePair 36 = .ok (.iload_n 2, 1) := by decide +kernel
theorem dX11_removePair_37 : decode cX11_removePair 37 = .ok (.invokevirtual 151, 3) := by decide +kernel
theorem dX11_removePair_40 : decode cX11_removePair 40 = .ok (.iload 4, 2) := by decide +kernel
theorem dX11_removePair_42 : decode cX11_removePair 42 = .ok (.ireturn, 1) := by decide +kernel
theorem dX11_isNoRule_0 : decode cX11_isNoRule 0 = .ok (.aload_n 0, 1) := by decide +kernel
theorem dX11_isNoRule_1 : decode cX11_isNoRule 1 = .ok (.iload_n 1, 1) := by decide +kernel
theorem dX11_isNoRule_2 : decode cX11_isNoRule 2 = .ok (.iload_n 2, 1) := by decide +kernel
theorem dX11_isNoRule_3 : decode cX11_isNoRule 3 = .ok (.iload 4, 2) := by decide +kernel
theorem dX11_isNoRule_5 : decode cX11_isNoRule 5 = .ok (.invokevirtual 142, 3) := by decide +kernel
theorem dX11_isNoRule_8 : decode cX11_isNoRule 8 = .ok (.ifCond .ne 25, 3) := by decide +kernel
theorem dX11_isNoRule_11 : decode cX11_isNoRule 11 = .ok (.aload_n 0, 1) := by decide +kernel
theorem dX11_isNoRule_12 : decode cX11_isNoRule 12 = .ok (.iload_n 3, 1) := by decide +kernel
theorem dX11_isNoRule_13 : decode cX11_isNoRule 13 = .ok (.iconst 0, 1) := by decide +kernel
theorem dX11_isNoRule_14 : decode cX11_isNoRule 14 = .ok (.iconst 5, 1) := by decide +kernel
theorem dX11_isNoRule_15 : decode cX11_isNoRule 15 = .ok (.invokestatic 59, 3) := by decide +kernel
theorem dX11_isNoRule_18 : decode cX11_isNoRule 18 = .ok (.ifCond .ne 7, 3) := by decide +kernel
theorem dX11_isNoRule_21 : decode cX11_isNoRule 21 = .ok (.iconst 1, 1) := by decide +kernel
theorem dX11_isNoRule_22 : decode cX11_isNoRule 22 = .ok (.goto 4, 3) := by decide +kernel
theorem dX11_isNoRule_25 : decode cX11_isNoRule 25 = .ok (.iconst 0, 1) := by decide +kernel
theorem dX11_isNoRule_26 : decode cX11_isNoRule 26 = .ok (.iconst 2, 1) := by decide +kernel
theorem dX11_isNoRule_27 : decode cX11_isNoRule 27 = .ok (.invokevirtual 52, 3) := by decide +kernel
theorem dX11_isNoRule_30 : decode cX11_isNoRule 30 = .ok (.ifCond .eq 7, 3) := by decide +kernel
theorem dX11_isNoRule_33 : decode cX11_isNoRule 33 = .ok (.iconst 1, 1) := by decide +kernel
theorem dX11_isNoRule_34 : decode cX11_isNoRule 34 = .ok (.goto 4, 3) := by decide +kernel
theorem dX11_isNoRule_37 : decode cX11_isNoRule 37 = .ok (.iconst 0, 1) := by decide +kernel
theorem dX11_isNoRule_38 : decode cX11_isNoRule 38 = .ok (.ireturn, 1) := by decide +kernel
theorem dX11_become_0 : decode cX11_become 0 = .ok (.iload_n 3, 1) := by decide +kernel
theorem dX11_become_1 : decode cX11_become 1 = .ok (.ldc 67, 2) := by decide +kernel
theorem dX11_become_3 : decode cX11_become 3 = .ok (.if_icmp .ne 8, 3) := by decide +kernel
theorem dX11_become_6 : decode cX11_become 6 = .ok (.aload_n 0, 1) := by decide +kernel
theorem dX11_become_7 : decode cX11_become 7 = .ok (.invokevirtual 105, 3) := by decide +kernel
theorem dX11_become_10 : decode cX11_become 10 = .ok (.ireturn, 1) := by decide +kernel
theorem dX11_become_11 : decode cX11_become 11 = .ok (.iload_n 3, 1) := by decide +kernel
theorem dX11_become_12 : decode cX11_become 12 = .ok (.sipush (-1000), 3) := by decide +kernel
theorem dX11_become_15 : decode cX11_become 15 = .ok (.if_icmp .eq 13, 3) := by decide +kernel
theorem dX11_become_18 : decode cX11_become 18 = .ok (.aload_n 0, 1) := by decide +kernel
theorem dX11_become_19 : decode cX11_become 19 = .ok (.iload_n 1, 1) := by decide +kernel
theorem dX11_become_20 : decode cX11_become 20 = .ok (.iload_n 2, 1) := by decide +kernel
theorem dX11_become_21 : decode cX11_become 21 = .ok (.iload_n 3, 1) := by decide +kernel
theorem dX11_become_22 : decode cX11_become 22 = .ok (.invokevirtual 147, 3) := by decide +kernel
theorem dX11_become_25 : decode cX11_become 25 = .ok (.goto 18, 3) := by decide +kernel
theorem dX11_become_28 : decode cX11_become 28 = .ok (.aload_n 0, 1) := by decide +kernel
theorem dX11_become_29 : decode cX11_become 29 = .ok (.iload_n 1, 1) := by decide +kernel
theorem dX11_become_30 : decode cX11_become 30 = .ok (.iload_n 2, 1) := by decide +kernel
theorem dX11_become_31 : decode cX11_become 31 = .ok (.invokevirtual 130, 3) := by decide +kernel
theorem dX11_become_34 : decode cX11_become 34 = .ok (.ifCond .lt 9, 3) := by decide +kernel
theorem dX11_become_37 : decode cX11_become 37 = .ok (.aload_n 0, 1) := by decide +kernel
theorem dX11_become_38 : decode cX11_become 38 = .ok (.iload_n 1, 1) := by decide +kernel
theorem dX11_become_39 : decode cX11_become 39 = .ok (.iload_n 2, 1) := by decide +kernel
theorem dX11_become_40 : decode cX11_become 40 = .ok (.invokevirtual 151, 3) := by decide +kernel
theorem dX11_become_43 : decode cX11_become 43 = .ok (.iload_n 3, 1) := by decide +kernel
theorem dX11_become_44 : decode cX11_become 44 = .ok (.ireturn, 1) := by decide +kernel
theorem dX11_computeIfAbsent_0 : decode cX11_computeIfAbsent 0 = .ok (.aload_n 0, 1) := by decide +kernel
theorem dX11_computeIfAbsent_1 : decode cX11_computeIfAbsent 1 = .ok (.iload_n 1, 1) := by decide +kernel
theorem dX11_computeIfAbsent_2 : decode cX11_computeIfAbsent 2 = .ok (.iload_n 2, 1) := by decide +kernel
theorem dX11_computeIfAbsent_3 : decode cX11_computeIfAbsent 3 = .ok (.iload_n 3, 1) := by decide +kernel
theorem dX11_computeIfAbsent_4 : decode cX11_computeIfAbsent 4 = .ok (.iload 4, 2) := by decide +kernel
theorem dX11_computeIfAbsent_6 : decode cX11_computeIfAbsent 6 = .ok (.invokevirtual 155, 3) := by decide +kernel
theorem dX11_computeIfAbsent_9 : decode cX11_computeIfAbsent 9 = .ok (.ifCond .eq 5, 3) := by decide +kernel
theorem dX11_computeIfAbsent_12 : decode cX11_computeIfAbsent 12 = .ok (.iconst 0, 1) := by decide +kernel
theorem dX11_computeIfAbsent_13 : decode cX11_computeIfAbsent 13 = .ok (.ireturn, 1) := by decide +kernel
theorem dX11_computeIfAbsent_14 : decode cX11_computeIfAbsent 14 = .ok (.aload_n 0, 1) := by decide +kernel
theorem dX11_computeIfAbsent_15 : decode cX11_computeIfAbsent 15 = .ok (.iload_n 1, 1) := by decide +kernel
theorem dX11_computeIfAbsent_16 : decode cX11_computeIfAbsent 16 = .ok (.iload_n 2, 1) := by decide +kernel
theorem dX11_computeIfAbsent_17 : decode cX11_computeIfAbsent 17 = .ok (.invokevirtual 145, 3) := by decide +kernel
theorem dX11_computeIfAbsent_20 : decode cX11_computeIfAbsent 20 = .ok (.istore 5, 2) := by decide +kernel
theorem dX11_computeIfAbsent_22 : decode cX11_computeIfAbsent 22 = .ok (.iload 5, 2) := by decide +kernel
theorem dX11_computeIfAbsent_24 : decode cX11_computeIfAbsent 24 = .ok (.sipush (-1000), 3) := by decide +kernel
theorem dX11_computeIfAbsent_27 : decode cX11_computeIfAbsent 27 = .ok (.if_icmp .eq 8, 3) := by decide +kernel
theorem dX11_computeIfAbsent_30 : decode cX11_computeIfAbsent 30 = .ok (.iload 5, 2) := by decide +kernel
theorem dX11_computeIfAbsent_32 : decode cX11_computeIfAbsent 32 = .ok (.goto 17, 3) := by decide +kernel
theorem dX11_computeIfAbsent_35 : decode cX11_computeIfAbsent 35 = .ok (.aload_n 0, 1) := by decide +kernel
theorem dX11_computeIfAbsent_36 : decode cX11_computeIfAbsent 36 = .ok (.iload_n 1, 1) := by decide +kernel
theorem dX11_computeIfAbsent_37 : decode cX11_computeIfAbsent 37 = .ok (.iload_n 2, 1) := by decide +kernel
theorem dX11_computeIfAbsent_38 : decode cX11_computeIfAbsent 38 = .ok (.iload_n 3, 1) := by decide +kernel
theorem dX11_computeIfAbsent_39 : decode cX11_computeIfAbsent 39 = .ok (.iload_n 2, 1) := by decide +kernel
theorem dX11_computeIfAbsent_40 : decode cX11_computeIfAbsent 40 = .ok (.iconst 0, 1) := by decide +kernel
theorem dX11_computeIfAbsent_41 : decode cX11_computeIfAbsent 41 = .ok (.iload 4, 2) := by decide +kernel
theorem dX11_computeIfAbsent_43 : decode cX11_computeIfAbsent 43 = .ok (.invokestatic 115, 3) := by decide +kernel
theorem dX11_computeIfAbsent_46 : decode cX11_computeIfAbsent 46 = .ok (.invokevirtual 159, 3) := by decide +kernel
theorem dX11_computeIfAbsent_49 : decode cX11_computeIfAbsent 49 = .ok (.ireturn, 1) := by decide +kernel
theorem dX11_computeIfPresent_0 : decode cX11_computeIfPresent 0 = .ok (.aload_n 0, 1) := by decide +kernel
theorem dX11_computeIfPresent_1 : decode cX11_computeIfPresent 1 = .ok (.iload_n 1, 1) := by decide +kernel
theorem dX11_computeIfPresent_2 : decode cX11_computeIfPresent 2 = .ok (.iload_n 2, 1) := by decide +kernel
theorem dX11_computeIfPresent_3 : decode cX11_computeIfPresent 3 = .ok (.iload_n 3, 1) := by decide +kernel
theorem dX11_computeIfPresent_4 : decode cX11_computeIfPresent 4 = .ok (.iload 4, 2) := by decide +kernel
theorem dX11_computeIfPresent_6 : decode cX11_computeIfPresent 6 = .ok (.invokevirtual 155, 3) := by decide +kernel
theorem dX11_computeIfPresent_9 : decode cX11_computeIfPresent 9 = .ok (.ifCond .eq 5, 3) := by decide +kernel
theorem dX11_computeIfPresent_12 : decode cX11_computeIfPresent 12 = .ok (.iconst 0, 1) := by decide +kernel
theorem dX11_computeIfPresent_13 : decode cX11_computeIfPresent 13 = .ok (.ireturn, 1) := by decide +kernel
theorem dX11_computeIfPresent_14 : decode cX11_computeIfPresent 14 = .ok (.aload_n 0, 1) := by decide +kernel
theorem dX11_computeIfPresent_15 : decode cX11_computeIfPresent 15 = .ok (.iload_n 1, 1) := by decide +kernel
theorem dX11_computeIfPresent_16 : decode cX11_computeIfPresent 16 = .ok (.iload_n 2, 1) := by decide +kernel
theorem dX11_computeIfPresent_17 : decode cX11_computeIfPresent 17 = .ok (.invokevirtual 145, 3) := by decide +kernel
theorem dX11_computeIfPresent_20 : decode cX11_computeIfPresent 20 = .ok (.istore 5, 2) := by decide +kernel
theorem dX11_computeIfPresent_22 : decode cX11_computeIfPresent 22 = .ok (.iload 5, 2) := by decide +kernel
theorem dX11_computeIfPresent_24 : decode cX11_computeIfPresent 24 = .ok (.sipush (-1000), 3) := by decide +kernel
theorem dX11_computeIfPresent_27 : decode cX11_computeIfPresent 27 = .ok (.if_icmp .ne 9, 3) := by decide +kernel
theorem dX11_computeIfPresent_30 : decode cX11_computeIfPresent 30 = .ok (.sipush (-1000), 3) := by decide +kernel
theorem dX11_computeIfPresent_33 : decode cX11_computeIfPresent 33 = .ok (.goto 18, 3) := by decide +kernel
theorem dX11_computeIfPresent_36 : decode cX11_computeIfPresent 36 = .ok (.aload_n 0, 1) := by decide +kernel
theorem dX11_computeIfPresent_37 : decode cX11_computeIfPresent 37 = .ok (.iload_n 1, 1) := by decide +kernel
theorem dX11_computeIfPresent_38 : decode cX11_computeIfPresent 38 = .ok (.iload_n 2, 1) := by decide +kernel
theorem dX11_computeIfPresent_39 : decode cX11_computeIfPresent 39 = .ok (.iload_n 3, 1) := by decide +kernel
theorem dX11_computeIfPresent_40 : decode cX11_computeIfPresent 40 = .ok (.iload_n 2, 1) := by decide +kernel
theorem dX11_computeIfPresent_41 : decode cX11_computeIfPresent 41 = .ok (.iload 5, 2) := by decide +kernel
theorem dX11_computeIfPresent_43 : decode cX11_computeIfPresent 43 = .ok (.iload 4, 2) := by decide +kernel
theorem dX11_computeIfPresent_45 : decode cX11_computeIfPresent 45 = .ok (.invokestatic 115, 3) := by decide +kernel
theorem dX11_computeIfPresent_48 : decode cX11_computeIfPresent 48 = .ok (.invokevirtual 159, 3) := by decide +kernel
theorem dX11_computeIfPresent_51 : decode cX11_computeIfPresent 51 = .ok (.ireturn, 1) := by decide +kernel
theorem dX11_compute_0 : decode cX11_compute 0 = .ok (.aload_n 0, 1) := by decide +kernel
theorem dX11_compute_1 : decode cX11_compute 1 = .ok (.iload_n 1, 1) := by decide +kernel
theorem dX11_compute_2 : decode cX11_compute 2 = .ok (.iload_n 2, 1) := by decide +kernel
theorem dX11_compute_3 : decode cX11_compute 3 = .ok (.iload_n 3, 1) := by decide +kernel
theorem dX11_compute_4 : decode cX11_compute 4 = .ok (.iload 4, 2) := by decide +kernel
theorem dX11_compute_6 : decode cX11_compute 6 = .ok (.invokevirtual 155, 3) := by decide +kernel
theorem dX11_compute_9 : decode cX11_compute 9 = .ok (.ifCond .eq 5, 3) := by decide +kernel
theorem dX11_compute_12 : decode cX11_compute 12 = .ok (.iconst 0, 1) := by decide +kernel
theorem dX11_compute_13 : decode cX11_compute 13 = .ok (.ireturn, 1) := by decide +kernel
theorem dX11_compute_14 : decode cX11_compute 14 = .ok (.aload_n 0, 1) := by decide +kernel
theorem dX11_compute_15 : decode cX11_compute 15 = .ok (.iload_n 1, 1) := by decide +kernel
theorem dX11_compute_16 : decode cX11_compute 16 = .ok (.iload_n 2, 1) := by decide +kernel
theorem dX11_compute_17 : decode cX11_compute 17 = .ok (.invokevirtual 145, 3) := by decide +kernel
theorem dX11_compute_20 : decode cX11_compute 20 = .ok (.istore 5, 2) := by decide +kernel
theorem dX11_compute_22 : decode cX11_compute 22 = .ok (.aload_n 0, 1) := by decide +kernel
theorem dX11_compute_23 : decode cX11_compute 23 = .ok (.iload_n 1, 1) := by decide +kernel
theorem dX11_compute_24 : decode cX11_compute 24 = .ok (.iload_n 2, 1) := by decide +kernel
theorem dX11_compute_25 : decode cX11_compute 25 = .ok (.iload_n 3, 1) := by decide +kernel
theorem dX11_compute_26 : decode cX11_compute 26 = .ok (.iload_n 2, 1) := by decide +kernel
theorem dX11_compute_27 : decode cX11_compute 27 = .ok (.iload 5, 2) := by decide +kernel
theorem dX11_compute_29 : decode cX11_compute 29 = .ok (.sipush (-1000), 3) := by decide +kernel
theorem dX11_compute_32 : decode cX11_compute 32 = .ok (.if_icmp .ne 7, 3) := by decide +kernel
theorem dX11_compute_35 : decode cX11_compute 35 = .ok (.iconst 0, 1) := by decide +kernel
theorem dX11_compute_36 : decode cX11_compute 36 = .ok (.goto 5, 3) := by decide +kernel
theorem dX11_compute_39 : decode cX11_compute 39 = .ok (.iload 5, 2) := by decide +kernel
theorem dX11_compute_41 : decode cX11_compute 41 = .ok (.iload 4, 2) := by decide +kernel
theorem dX11_compute_43 : decode cX11_compute 43 = .ok (.invokestatic 115, 3) := by decide +kernel
theorem dX11_compute_46 : decode cX11_compute 46 = .ok (.invokevirtual 159, 3) := by decide +kernel
theorem dX11_compute_49 : decode cX11_compute 49 = .ok (.ireturn, 1) := by decide +kernel
theorem dX11_merge_0 : decode cX11_merge 0 = .ok (.aload_n 0, 1) := by decide +kernel
theorem dX11_merge_1 : decode cX11_merge 1 = .ok (.iload_n 1, 1) := by decide +kernel
theorem dX11_merge_2 : decode cX11_merge 2 = .ok (.iload_n 2, 1) := by decide +kernel
theorem dX11_merge_3 : decode cX11_merge 3 = .ok (.iload 4, 2) := by decide +kernel
theorem dX11_merge_5 : decode cX11_merge 5 = .ok (.iload_n 3, 1) := by decide +kernel
theorem dX11_merge_6 : decode cX11_merge 6 = .ok (.invokevirtual 155, 3) := by decide +kernel
theorem dX11_merge_9 : decode cX11_merge 9 = .ok (.ifCond .eq 5, 3) := by decide +kernel
theorem dX11_merge_12 : decode cX11_merge 12 = .ok (.iconst 0, 1) := by decide +kernel
theorem dX11_merge_13 : decode cX11_merge 13 = .ok (.ireturn, 1) := by decide +kernel
theorem dX11_merge_14 : decode cX11_merge 14 = .ok (.aload_n 0, 1) := by decide +kernel
theorem dX11_merge_15 : decode cX11_merge 15 = .ok (.iload_n 1, 1) := by decide +kernel
theorem dX11_merge_16 : decode cX11_merge 16 = .ok (.iload_n 2, 1) := by decide +kernel
theorem dX11_merge_17 : decode cX11_merge 17 = .ok (.invokevirtual 145, 3) := by decide +kernel
theorem dX11_merge_20 : decode cX11_merge 20 = .ok (.istore 5, 2) := by decide +kernel
theorem dX11_merge_22 : decode cX11_merge 22 = .ok (.aload_n 0, 1) := by decide +kernel
theorem dX11_merge_23 : decode cX11_merge 23 = .ok (.iload_n 1, 1) := by decide +kernel
theorem dX11_merge_24 : decode cX11_merge 24 = .ok (.iload_n 2, 1) := by decide +kernel
theorem dX11_merge_25 : decode cX11_merge 25 = .ok (.iload 5, 2) := by decide +kernel
theorem dX11_merge_27 : decode cX11_merge 27 = .ok (.sipush (-1000), 3) := by decide +kernel
theorem dX11_merge_30 : decode cX11_merge 30 = .ok (.if_icmp .ne 7, 3) := by decide +kernel
theorem dX11_merge_33 : decode cX11_merge 33 = .ok (.iload_n 3, 1) := by decide +kernel
theorem dX11_merge_34 : decode cX11_merge 34 = .ok (.goto 12, 3) := by decide +kernel
theorem dX11_merge_37 : decode cX11_merge 37 = .ok (.iload 4, 2) := by decide +kernel
theorem dX11_merge_39 : decode cX11_merge 39 = .ok (.iload_n 2, 1) := by decide +kernel
theorem dX11_merge_40 : decode cX11_merge 40 = .ok (.iload 5, 2) := by decide +kernel
theorem dX11_merge_42 : decode cX11_merge 42 = .ok (.iload_n 3, 1) := by decide +kernel
theorem dX11_merge_43 : decode cX11_merge 43 = .ok (.invokestatic 115, 3) := by decide +kernel
theorem dX11_merge_46 : decode cX11_merge 46 = .ok (.invokevirtual 159, 3) := by decide +kernel
theorem dX11_merge_49 : decode cX11_merge 49 = .ok (.ireturn, 1) := by decide +kernel
theorem dX11_hearTable_0 : decode cX11_hearTable 0 = .ok (.aload_n 0, 1) := by decide +kernel
theorem dX11_hearTable_1 : decode cX11_hearTable 1 = .ok (.iload_n 1, 1) := by decide +kernel
theorem dX11_hearTable_2 : decode cX11_hearTable 2 = .ok (.invokestatic 136, 3) := by decide +kernel
theorem dX11_hearTable_5 : decode cX11_hearTable 5 = .ok (.ifCond .ne 10, 3) := by decide +kernel
theorem dX11_hearTable_8 : decode cX11_hearTable 8 = .ok (.iload_n 2, 1) := by decide +kernel
theorem dX11_hearTable_9 : decode cX11_hearTable 9 = .ok (.invokestatic 72, 3) := by decide +kernel
theorem dX11_hearTable_12 : decode cX11_hearTable 12 = .ok (.ifCond .eq 7, 3) := by decide +kernel
theorem dX11_hearTable_15 : decode cX11_hearTable 15 = .ok (.iconst 1, 1) := by decide +kernel
theorem dX11_hearTable_16 : decode cX11_hearTable 16 = .ok (.goto 4, 3) := by decide +kernel
theorem dX11_hearTable_19 : decode cX11_hearTable 19 = .ok (.iconst 0, 1) := by decide +kernel
theorem dX11_hearTable_20 : decode cX11_hearTable 20 = .ok (.iconst 1, 1) := by decide +kernel
theorem dX11_hearTable_21 : decode cX11_hearTable 21 = .ok (.invokevirtual 76, 3) := by decide +kernel
theorem dX11_hearTable_24 : decode cX11_hearTable 24 = .ok (.ifCond .eq 5, 3) := by decide +kernel
theorem dX11_hearTable_27 : decode cX11_hearTable 27 = .ok (.iconst 0, 1) := by decide +kernel
theorem dX11_hearTable_28 : decode cX11_hearTable 28 = .ok (.ireturn, 1) := by decide +kernel
theorem dX11_hearTable_29 : decode cX11_hearTable 29 = .ok (.iload_n 1, 1) := by decide +kernel
theorem dX11_hearTable_30 : decode cX11_hearTable 30 = .ok (.ifCond .ne 12, 3) := by decide +kernel
theorem dX11_hearTable_33 : decode cX11_hearTable 33 = .ok (.aload_n 0, 1) := by decide +kernel
theorem dX11_hearTable_34 : decode cX11_hearTable 34 = .ok (.getfield 31, 3) := by decide +kernel
theorem dX11_hearTable_37 : decode cX11_hearTable 37 = .ok (.iconst 2, 1) := by decide +kernel
theorem dX11_hearTable_38 : decode cX11_hearTable 38 = .ok (.aaload, 1) := by decide +kernel
theorem dX11_hearTable_39 : decode cX11_hearTable 39 = .ok (.goto 7, 3) := by decide +kernel
theorem dX11_hearTable_42 : decode cX11_hearTable 42 = .ok (.bipush 7, 2) := by decide +kernel
theorem dX11_hearTable_44 : decode cX11_hearTable 44 = .ok (.newarray .int, 2) := by decide +kernel
theorem dX11_hearTable_46 : decode cX11_hearTable 46 = .ok (.astore_n 3, 1) := by decide +kernel
theorem dX11_hearTable_47 : decode cX11_hearTable 47 = .ok (.aload_n 3, 1) := by decide +kernel
theorem dX11_hearTable_48 : decode cX11_hearTable 48 = .ok (.iconst 0, 1) := by decide +kernel
theorem dX11_hearTable_49 : decode cX11_hearTable 49 = .ok (.dup2, 1) := by decide +kernel
theorem dX11_hearTable_50 : decode cX11_hearTable 50 = .ok (.iaload, 1) := by decide +kernel
theorem dX11_hearTable_51 : decode cX11_hearTable 51 = .ok (.iconst 1, 1) := by decide +kernel
theorem dX11_hearTable_52 : decode cX11_hearTable 52 = .ok (.iadd, 1) := by decide +kernel
theorem dX11_hearTable_53 : decode cX11_hearTable 53 = .ok (.iastore, 1) := by decide +kernel
theorem dX11_hearTable_54 : decode cX11_hearTable 54 = .ok (.iconst 0, 1) := by decide +kernel
theorem dX11_hearTable_55 : decode cX11_hearTable 55 = .ok (.istore 4, 2) := by decide +kernel
theorem dX11_hearTable_57 : decode cX11_hearTable 57 = .ok (.aload_n 0, 1) := by decide +kernel
theorem dX11_hearTable_58 : decode cX11_hearTable 58 = .ok (.getfield 34, 3) := by decide +kernel
theorem dX11_hearTable_61 : decode cX11_hearTable 61 = .ok (.iload_n 1, 1) := by decide +kernel
theorem dX11_hearTable_62 : decode cX11_hearTable 62 = .ok (.invokevirtual 82, 3) := by decide +kernel
theorem dX11_hearTable_65 : decode cX11_hearTable 65 = .ok (.checkcast 18, 3) := by decide +kernel
theorem dX11_hearTable_68 : decode cX11_hearTable 68 = .ok (.invokevirtual 162, 3) := by decide +kernel
theorem dX11_hearTable_71 : decode cX11_hearTable 71 = .ok (.astore 5, 2) := by decide +kernel
theorem dX11_hearTable_73 : decode cX11_hearTable 73 = .ok (.aload 5, 2) := by decide +kernel
theorem dX11_hearTable_75 : decode cX11_hearTable 75 = .ok (.invokeinterface 166 1, 5) := by decide +kernel
theorem dX11_hearTable_80 : decode cX11_hearTable 80 = .ok (.ifCond .eq 65, 3) := by decide +kernel
theorem dX11_hearTable_83 : decode cX11_hearTable 83 = .ok (.aload 5, 2) := by decide +kernel
theorem dX11_hearTable_85 : decode cX11_hearTable 85 = .ok (.invokeinterface 172 1, 5) := by decide +kernel
theorem dX11_hearTable_90 : decode cX11_hearTable 90 = .ok (.checkcast 128, 3) := by decide +kernel
theorem dX11_hearTable_93 : decode cX11_hearTable 93 = .ok (.astore 6, 2) := by decide +kernel
theorem dX11_hearTable_95 : decode cX11_hearTable 95 = .ok (.aload_n 3, 1) := by decide +kernel
theorem dX11_hearTable_96 : decode cX11_hearTable 96 = .ok (.iconst 1, 1) := by decide +kernel
theorem dX11_hearTable_97 : decode cX11_hearTable 97 = .ok (.dup2, 1) := by decide +kernel
theorem dX11_hearTable_98 : decode cX11_hearTable 98 = .ok (.iaload, 1) := by decide +kernel
theorem dX11_hearTable_99 : decode cX11_hearTable 99 = .ok (.iconst 1, 1) := by decide +kernel
theorem dX11_hearTable_100 : decode cX11_hearTable 100 = .ok (.iadd, 1) := by decide +kernel
theorem dX11_hearTable_101 : decode cX11_hearTable 101 = .ok (.iastore, 1) := by decide +kernel
theorem dX11_hearTable_102 : decode cX11_hearTable 102 = .ok (.aload_n 3, 1) := by decide +kernel
theorem dX11_hearTable_103 : decode cX11_hearTable 103 = .ok (.iconst 2, 1) := by decide +kernel
theorem dX11_hearTable_104 : decode cX11_hearTable 104 = .ok (.dup2, 1) := by decide +kernel
theorem dX11_hearTable_105 : decode cX11_hearTable 105 = .ok (.iaload, 1) := by decide +kernel
theorem dX11_hearTable_106 : decode cX11_hearTable 106 = .ok (.iconst 1, 1) := by decide +kernel
theorem dX11_hearTable_107 : decode cX11_hearTable 107 = .ok (.iadd, 1) := by decide +kernel
theorem dX11_hearTable_108 : decode cX11_hearTable 108 = .ok (.iastore, 1) := by decide +kernel
theorem dX11_hearTable_109 : decode cX11_hearTable 109 = .ok (.aload_n 0, 1) := by decide +kernel
theorem dX11_hearTable_110 : decode cX11_hearTable 110 = .ok (.getfield 40, 3) := by decide +kernel
theorem dX11_hearTable_113 : decode cX11_hearTable 113 = .ok (.iload_n 2, 1) := by decide +kernel
theorem dX11_hearTable_114 : decode cX11_hearTable 114 = .ok (.aaload, 1) := by decide +kernel
theorem dX11_hearTable_115 : decode cX11_hearTable 115 = .ok (.sipush 1000, 3) := by decide +kernel
theorem dX11_hearTable_118 : decode cX11_hearTable 118 = .ok (.aload 6, 2) := by decide +kernel
theorem dX11_hearTable_120 : decode cX11_hearTable 120 = .ok (.iconst 0, 1) := by decide +kernel
theorem dX11_hearTable_121 : decode cX11_hearTable 121 = .ok (.iaload, 1) := by decide +kernel
theorem dX11_hearTable_122 : decode cX11_hearTable 122 = .ok (.imul, 1) := by decide +kernel
theorem dX11_hearTable_123 : decode cX11_hearTable 123 = .ok (.aload 6, 2) := by decide +kernel
theorem dX11_hearTable_125 : decode cX11_hearTable 125 = .ok (.iconst 1, 1) := by decide +kernel
theorem dX11_hearTable_126 : decode cX11_hearTable 126 = .ok (.iaload, 1) := by decide +kernel
theorem dX11_hearTable_127 : decode cX11_hearTable 127 = .ok (.iadd, 1) := by decide +kernel
theorem dX11_hearTable_128 : decode cX11_hearTable 128 = .ok (.invokevirtual 102, 3) := by decide +kernel
theorem dX11_hearTable_131 : decode cX11_hearTable 131 = .ok (.ifCond .eq 8, 3) := by decide +kernel
theorem dX11_hearTable_134 : decode cX11_hearTable 134 = .ok (.aload_n 0, 1) := by decide +kernel
theorem dX11_hearTable_135 : decode cX11_hearTable 135 = .ok (.invokevirtual 105, 3) := by decide +kernel
theorem dX11_hearTable_138 : decode cX11_hearTable 138 = .ok (.ireturn, 1) := by decide +kernel
theorem dX11_hearTable_139 : decode cX11_hearTable 139 = .ok (.iinc 4 1, 3) := by decide +kernel
theorem dX11_hearTable_142 : decode cX11_hearTable 142 = .ok (.goto (-69), 3) := by decide +kernel
theorem dX11_hearTable_145 : decode cX11_hearTable 145 = .ok (.aload_n 3, 1) := by decide +kernel
theorem dX11_hearTable_146 : decode cX11_hearTable 146 = .ok (.iconst 1, 1) := by decide +kernel
theorem dX11_hearTable_147 : decode cX11_hearTable 147 = .ok (.dup2, 1) := by decide +kernel
theorem dX11_hearTable_148 : decode cX11_hearTable 148 = .ok (.iaload, 1) := by decide +kernel
theorem dX11_hearTable_149 : decode cX11_hearTable 149 = .ok (.iconst 1, 1) := by decide +kernel
theorem dX11_hearTable_150 : decode cX11_hearTable 150 = .ok (.iadd, 1) := by decide +kernel
theorem dX11_hearTable_151 : decode cX11_hearTable 151 = .ok (.iastore, 1) := by decide +kernel
theorem dX11_hearTable_152 : decode cX11_hearTable 152 = .ok (.iload 4, 2) := by decide +kernel
theorem dX11_hearTable_154 : decode cX11_hearTable 154 = .ok (.ireturn, 1) := by decide +kernel
theorem dX11_replaceTable_0 : decode cX11_replaceTable 0 = .ok (.aload_n 0, 1) := by decide +kernel
theorem dX11_replaceTable_1 : decode cX11_replaceTable 1 = .ok (.iload_n 1, 1) := by decide +kernel
theorem dX11_replaceTable_2 : decode cX11_replaceTable 2 = .ok (.invokestatic 136, 3) := by decide +kernel
theorem dX11_replaceTable_5 : decode cX11_replaceTable 5 = .ok (.iconst 1, 1) := by decide +kernel
theorem dX11_replaceTable_6 : decode cX11_replaceTable 6 = .ok (.invokevirtual 76, 3) := by decide +kernel
theorem dX11_replaceTable_9 : decode cX11_replaceTable 9 = .ok (.ifCond .ne 42, 3) := by decide +kernel
theorem dX11_replaceTable_12 : decode cX11_replaceTable 12 = .ok (.aload_n 0, 1) := by decide +kernel
theorem dX11_replaceTable_13 : decode cX11_replaceTable 13 = .ok (.iload_n 2, 1) := by decide +kernel
theorem dX11_replaceTable_14 : decode cX11_replaceTable 14 = .ok (.ifCond .eq 18, 3) := by decide +kernel
theorem dX11_replaceTable_17 : decode cX11_replaceTable 17 = .ok (.iload_n 2, 1) := by decide +kernel
theorem dX11_replaceTable_18 : decode cX11_replaceTable 18 = .ok (.iconst 1, 1) := by decide +kernel
theorem dX11_replaceTable_19 : decode cX11_replaceTable 19 = .ok (.if_icmp .eq 13, 3) := by decide +kernel
theorem dX11_replaceTable_22 : decode cX11_replaceTable 22 = .ok (.iload_n 2, 1) := by decide +kernel
theorem dX11_replaceTable_23 : decode cX11_replaceTable 23 = .ok (.iconst 4, 1) := by decide +kernel
theorem dX11_replaceTable_24 : decode cX11_replaceTable 24 = .ok (.if_icmp .eq 8, 3) := by decide +kernel
theorem dX11_replaceTable_27 : decode cX11_replaceTable 27 = .ok (.iload_n 2, 1) := by decide +kernel
theorem dX11_replaceTable_28 : decode cX11_replaceTable 28 = .ok (.iconst 5, 1) := by decide +kernel
theorem dX11_replaceTable_29 : decode cX11_replaceTable 29 = .ok (.if_icmp .ne 10, 3) := by decide +kernel
theorem dX11_replaceTable_32 : decode cX11_replaceTable 32 = .ok (.iload_n 3, 1) := by decide +kernel
theorem dX11_replaceTable_33 : decode cX11_replaceTable 33 = .ok (.invokestatic 79, 3) := by decide +kernel
theorem dX11_replaceTable_36 : decode cX11_replaceTable 36 = .ok (.ifCond .eq 7, 3) := by decide +kernel
theorem dX11_replaceTable_39 : decode cX11_replaceTable 39 = .ok (.iconst 1, 1) := by decide +kernel
theorem dX11_replaceTable_40 : decode cX11_replaceTable 40 = .ok (.goto 4, 3) := by decide +kernel
theorem dX11_replaceTable_43 : decode cX11_replaceTable 43 = .ok (.iconst 0, 1) := by decide +kernel
theorem dX11_replaceTable_44 : decode cX11_replaceTable 44 = .ok (.iconst 2, 1) := by decide +kernel
theorem dX11_replaceTable_45 : decode cX11_replaceTable 45 = .ok (.invokevirtual 52, 3) := by decide +kernel
theorem dX11_replaceTable_48 : decode cX11_replaceTable 48 = .ok (.ifCond .eq 5, 3) := by decide +kernel
theorem dX11_replaceTable_51 : decode cX11_replaceTable 51 = .ok (.iconst 0, 1) := by decide +kernel
theorem dX11_replaceTable_52 : decode cX11_replaceTable 52 = .ok (.ireturn, 1) := by decide +kernel
theorem dX11_replaceTable_53 : decode cX11_replaceTable 53 = .ok (.iload_n 1, 1) := by decide +kernel
theorem dX11_replaceTable_54 : decode cX11_replaceTable 54 = .ok (.ifCond .ne 12, 3) := by decide +kernel
theorem dX11_replaceTable_57 : decode cX11_replaceTable 57 = .ok (.aload_n 0, 1) := by decide +kernel
theorem dX11_replaceTable_58 : decode cX11_replaceTable 58 = .ok (.getfield 31, 3) := by decide +kernel
theorem dX11_replaceTable_61 : decode cX11_replaceTable 61 = .ok (.iconst 2, 1) := by decide +kernel
theorem dX11_replaceTable_62 : decode cX11_replaceTable 62 = .ok (.aaload, 1) := by decide +kernel
theorem dX11_replaceTable_63 : decode cX11_replaceTable 63 = .ok (.goto 7, 3) := by decide +kernel
theorem dX11_replaceTable_66 : decode cX11_replaceTable 66 = .ok (.bipush 7, 2) := by decide +kernel
theorem dX11_replaceTable_68 : decode cX11_replaceTable 68 = .ok (.newarray .int, 2) := by decide +kernel
theorem dX11_replaceTable_70 : decode cX11_replaceTable 70 = .ok (.astore 4, 2) := by decide +kernel
theorem dX11_replaceTable_72 : decode cX11_replaceTable 72 = .ok (.aload 4, 2) := by decide +kernel
theorem dX11_replaceTable_74 : decode cX11_replaceTable 74 = .ok (.iconst 0, 1) := by decide +kernel
theorem dX11_replaceTable_75 : decode cX11_replaceTable 75 = .ok (.dup2, 1) := by decide +kernel
theorem dX11_replaceTable_76 : decode cX11_replaceTable 76 = .ok (.iaload, 1) := by decide +kernel
theorem dX11_replaceTable_77 : decode cX11_replaceTable 77 = .ok (.iconst 1, 1) := by decide +kernel
theorem dX11_replaceTable_78 : decode cX11_replaceTable 78 = .ok (.iadd, 1) := by decide +kernel
theorem dX11_replaceTable_79 : decode cX11_replaceTable 79 = .ok (.iastore, 1) := by decide +kernel
theorem dX11_replaceTable_80 : decode cX11_replaceTable 80 = .ok (.aload_n 0, 1) := by decide +kernel
theorem dX11_replaceTable_81 : decode cX11_replaceTable 81 = .ok (.getfield 34, 3) := by decide +kernel
theorem dX11_replaceTable_84 : decode cX11_replaceTable 84 = .ok (.iload_n 1, 1) := by decide +kernel
theorem dX11_replaceTable_85 : decode cX11_replaceTable 85 = .ok (.invokevirtual 82, 3) := by decide +kernel
theorem dX11_replaceTable_88 : decode cX11_replaceTable 88 = .ok (.checkcast 18, 3) := by decide +kernel
theorem dX11_replaceTable_91 : decode cX11_replaceTable 91 = .ok (.invokevirtual 162, 3) := by decide +kernel
theorem dX11_replaceTable_94 : decode cX11_replaceTable 94 = .ok (.astore 5, 2) := by decide +kernel
theorem dX11_replaceTable_96 : decode cX11_replaceTable 96 = .ok (.aload 5, 2) := by decide +kernel
theorem dX11_replaceTable_98 : decode cX11_replaceTable 98 = .ok (.invokeinterface 166 1, 5) := by decide +kernel
theorem dX11_replaceTable_103 : decode cX11_replaceTable 103 = .ok (.ifCond .eq 75, 3) := by decide +kernel
theorem dX11_replaceTable_106 : decode cX11_replaceTable 106 = .ok (.aload 5, 2) := by decide +kernel
theorem dX11_replaceTable_108 : decode cX11_replaceTable 108 = .ok (.invokeinterface 172 1, 5) := by decide +kernel
theorem dX11_replaceTable_113 : decode cX11_replaceTable 113 = .ok (.checkcast 128, 3) := by decide +kernel
theorem dX11_replaceTable_116 : decode cX11_replaceTable 116 = .ok (.astore 6, 2) := by decide +kernel
theorem dX11_replaceTable_118 : decode cX11_replaceTable 118 = .ok (.aload 4, 2) := by decide +kernel
theorem dX11_replaceTable_120 : decode cX11_replaceTable 120 = .ok (.iconst 1, 1) := by decide +kernel
theorem dX11_replaceTable_121 : decode cX11_replaceTable 121 = .ok (.dup2, 1) := by decide +kernel
theorem dX11_replaceTable_122 : decode cX11_replaceTable 122 = .ok (.iaload, 1) := by decide +kernel
theorem dX11_replaceTable_123 : decode cX11_replaceTable 123 = .ok (.iconst 1, 1) := by decide +kernel
theorem dX11_replaceTable_124 : decode cX11_replaceTable 124 = .ok (.iadd, 1) := by decide +kernel
theorem dX11_replaceTable_125 : decode cX11_replaceTable 125 = .ok (.iastore, 1) := by decide +kernel
theorem dX11_replaceTable_126 : decode cX11_replaceTable 126 = .ok (.aload 4, 2) := by decide +kernel
theorem dX11_replaceTable_128 : decode cX11_replaceTable 128 = .ok (.iconst 2, 1) := by decide +kernel
theorem dX11_replaceTable_129 : decode cX11_replaceTable 129 = .ok (.dup2, 1) := by decide +kernel
theorem dX11_replaceTable_130 : decode cX11_replaceTable 130 = .ok (.iaload, 1) := by decide +kernel
theorem dX11_replaceTable_131 : decode cX11_replaceTable 131 = .ok (.iconst 1, 1) := by decide +kernel
theorem dX11_replaceTable_132 : decode cX11_replaceTable 132 = .ok (.iadd, 1) := by decide +kernel
theorem dX11_replaceTable_133 : decode cX11_replaceTable 133 = .ok (.iastore, 1) := by decide +kernel
theorem dX11_replaceTable_134 : decode cX11_replaceTable 134 = .ok (.iload_n 2, 1) := by decide +kernel
theorem dX11_replaceTable_135 : decode cX11_replaceTable 135 = .ok (.aload 6, 2) := by decide +kernel
theorem dX11_replaceTable_137 : decode cX11_replaceTable 137 = .ok (.iconst 0, 1) := by decide +kernel
theorem dX11_replaceTable_138 : decode cX11_replaceTable 138 = .ok (.iaload, 1) := by decide +kernel
theorem dX11_replaceTable_139 : decode cX11_replaceTable 139 = .ok (.aload 6, 2) := by decide +kernel
theorem dX11_replaceTable_141 : decode cX11_replaceTable 141 = .ok (.iconst 1, 1) := by decide +kernel
theorem dX11_replaceTable_142 : decode cX11_replaceTable 142 = .ok (.iaload, 1) := by decide +kernel
theorem dX11_replaceTable_143 : decode cX11_replaceTable 143 = .ok (.iload_n 3, 1) := by decide +kernel
theorem dX11_replaceTable_144 : decode cX11_replaceTable 144 = .ok (.invokestatic 115, 3) := by decide +kernel
theorem dX11_replaceTable_147 : decode cX11_replaceTable 147 = .ok (.istore 7, 2) := by decide +kernel
theorem dX11_replaceTable_149 : decode cX11_replaceTable 149 = .ok (.iload 7, 2) := by decide +kernel
theorem dX11_replaceTable_151 : decode cX11_replaceTable 151 = .ok (.ldc 67, 2) := by decide +kernel
theorem dX11_replaceTable_153 : decode cX11_replaceTable 153 = .ok (.if_icmp .ne 8, 3) := by decide +kernel
theorem dX11_replaceTable_156 : decode cX11_replaceTable 156 = .ok (.aload_n 0, 1) := by decide +kernel
theorem dX11_replaceTable_157 : decode cX11_replaceTable 157 = .ok (.invokevirtual 105, 3) := by decide +kernel
theorem dX11_replaceTable_160 : decode cX11_replaceTable 160 = .ok (.ireturn, 1) := by decide +kernel
theorem dX11_replaceTable_161 : decode cX11_replaceTable 161 = .ok (.aload 6, 2) := by decide +kernel
theorem dX11_replaceTable_163 : decode cX11_replaceTable 163 = .ok (.iconst 1, 1) := by decide +kernel
theorem dX11_replaceTable_164 : decode cX11_replaceTable 164 = .ok (.iload 7, 2) := by decide +kernel
theorem dX11_replaceTable_166 : decode cX11_replaceTable 166 = .ok (.iastore, 1) := by decide +kernel
theorem dX11_replaceTable_167 : decode cX11_replaceTable 167 = .ok (.aload 4, 2) := by decide +kernel
theorem dX11_replaceTable_169 : decode cX11_replaceTable 169 = .ok (.iconst 3, 1) := by decide +kernel
theorem dX11_replaceTable_170 : decode cX11_replaceTable 170 = .ok (.dup2, 1) := by decide +kernel
theorem dX11_replaceTable_171 : decode cX11_replaceTable 171 = .ok (.iaload, 1) := by decide +kernel
theorem dX11_replaceTable_172 : decode cX11_replaceTable 172 = .ok (.iconst 1, 1) := by decide +kernel
theorem dX11_replaceTable_173 : decode cX11_replaceTable 173 = .ok (.iadd, 1) := by decide +kernel
theorem dX11_replaceTable_174 : decode cX11_replaceTable 174 = .ok (.iastore, 1) := by decide +kernel
theorem dX11_replaceTable_175 : decode cX11_replaceTable 175 = .ok (.goto (-79), 3) := by decide +kernel
theorem dX11_replaceTable_178 : decode cX11_replaceTable 178 = .ok (.aload 4, 2) := by decide +kernel
theorem dX11_replaceTable_180 : decode cX11_replaceTable 180 = .ok (.iconst 1, 1) := by decide +kernel
theorem dX11_replaceTable_181 : decode cX11_replaceTable 181 = .ok (.dup2, 1) := by decide +kernel
theorem dX11_replaceTable_182 : decode cX11_replaceTable 182 = .ok (.iaload, 1) := by decide +kernel
theorem dX11_replaceTable_183 : decode cX11_replaceTable 183 = .ok (.iconst 1, 1) := by decide +kernel
theorem dX11_replaceTable_184 : decode cX11_replaceTable 184 = .ok (.iadd, 1) := by decide +kernel
theorem dX11_replaceTable_185 : decode cX11_replaceTable 185 = .ok (.iastore, 1) := by decide +kernel
theorem dX11_replaceTable_186 : decode cX11_replaceTable 186 = .ok (.aload_n 0, 1) := by decide +kernel
theorem dX11_replaceTable_187 : decode cX11_replaceTable 187 = .ok (.getfield 34, 3) := by decide +kernel
theorem dX11_replaceTable_190 : decode cX11_replaceTable 190 = .ok (.iload_n 1, 1) := by decide +kernel
theorem dX11_replaceTable_191 : decode cX11_replaceTable 191 = .ok (.invokevirtual 82, 3) := by decide +kernel
theorem dX11_replaceTable_194 : decode cX11_replaceTable 194 = .ok (.checkcast 18, 3) := by decide +kernel
theorem dX11_replaceTable_197 : decode cX11_replaceTable 197 = .ok (.invokevirtual 86, 3) := by decide +kernel
theorem dX11_replaceTable_200 : decode cX11_replaceTable 200 = .ok (.ireturn, 1) := by decide +kernel
theorem dX11_clear_0 : decode cX11_clear 0 = .ok (.aload_n 0, 1) := by decide +kernel
theorem dX11_clear_1 : decode cX11_clear 1 = .ok (.iload_n 1, 1) := by decide +kernel
theorem dX11_clear_2 : decode cX11_clear 2 = .ok (.invokestatic 136, 3) := by decide +kernel
theorem dX11_clear_5 : decode cX11_clear 5 = .ok (.iconst 1, 1) := by decide +kernel
theorem dX11_clear_6 : decode cX11_clear 6 = .ok (.invokevirtual 76, 3) := by decide +kernel
theorem dX11_clear_9 : decode cX11_clear 9 = .ok (.ifCond .eq 5, 3) := by decide +kernel
theorem dX11_clear_12 : decode cX11_clear 12 = .ok (.iconst 0, 1) := by decide +kernel
theorem dX11_clear_13 : decode cX11_clear 13 = .ok (.ireturn, 1) := by decide +kernel
theorem dX11_clear_14 : decode cX11_clear 14 = .ok (.aload_n 0, 1) := by decide +kernel
theorem dX11_clear_15 : decode cX11_clear 15 = .ok (.getfield 34, 3) := by decide +kernel
theorem dX11_clear_18 : decode cX11_clear 18 = .ok (.iload_n 1, 1) := by decide +kernel
theorem dX11_clear_19 : decode cX11_clear 19 = .ok (.invokevirtual 82, 3) := by decide +kernel
theorem dX11_clear_22 : decode cX11_clear 22 = .ok (.checkcast 18, 3) := by decide +kernel
theorem dX11_clear_25 : decode cX11_clear 25 = .ok (.invokevirtual 86, 3) := by decide +kernel
theorem dX11_clear_28 : decode cX11_clear 28 = .ok (.istore_n 2, 1) := by decide +kernel
theorem dX11_clear_29 : decode cX11_clear 29 = .ok (.aload_n 0, 1) := by decide +kernel
theorem dX11_clear_30 : decode cX11_clear 30 = .ok (.getfield 34, 3) := by decide +kernel
theorem dX11_clear_33 : decode cX11_clear 33 = .ok (.iload_n 1, 1) := by decide +kernel
theorem dX11_clear_34 : decode cX11_clear 34 = .ok (.invokevirtual 82, 3) := by decide +kernel
theorem dX11_clear_37 : decode cX11_clear 37 = .ok (.checkcast 18, 3) := by decide +kernel
theorem dX11_clear_40 : decode cX11_clear 40 = .ok (.invokevirtual 176, 3) := by decide +kernel
theorem dX11_clear_43 : decode cX11_clear 43 = .ok (.iload_n 2, 1) := by decide +kernel
theorem dX11_clear_44 : decode cX11_clear 44 = .ok (.ireturn, 1) := by decide +kernel
theorem dX11_many_0 : decode cX11_many 0 = .ok (.iload_n 0, 1) := by decide +kernel
theorem dX11_many_1 : decode cX11_many 1 = .ok (.iload_n 1, 1) := by decide +kernel
theorem dX11_many_2 : decode cX11_many 2 = .ok (.if_icmp .le 7, 3) := by decide +kernel
theorem dX11_many_5 : decode cX11_many 5 = .ok (.iconst 0, 1) := by decide +kernel
theorem dX11_many_6 : decode cX11_many 6 = .ok (.goto 10, 3) := by decide +kernel
theorem dX11_many_9 : decode cX11_many 9 = .ok (.iload_n 1, 1) := by decide +kernel
theorem dX11_many_10 : decode cX11_many 10 = .ok (.iload_n 0, 1) := by decide +kernel
theorem dX11_many_11 : decode cX11_many 11 = .ok (.isub, 1) := by decide +kernel
theorem dX11_many_12 : decode cX11_many 12 = .ok (.iload_n 2, 1) := by decide +kernel
theorem dX11_many_13 : decode cX11_many 13 = .ok (.idiv, 1) := by decide +kernel
theorem dX11_many_14 : decode cX11_many 14 = .ok (.iconst 1, 1) := by decide +kernel
theorem dX11_many_15 : decode cX11_many 15 = .ok (.iadd, 1) := by decide +kernel
theorem dX11_many_16 : decode cX11_many 16 = .ok (.ireturn, 1) := by decide +kernel
theorem dX11_isNoSpan_0 : decode cX11_isNoSpan 0 = .ok (.iload_n 0, 1) := by decide +kernel
theorem dX11_isNoSpan_1 : decode cX11_isNoSpan 1 = .ok (.invokestatic 79, 3) := by decide +kernel
theorem dX11_isNoSpan_4 : decode cX11_isNoSpan 4 = .ok (.ifCond .ne 31, 3) := by decide +kernel
theorem dX11_isNoSpan_7 : decode cX11_isNoSpan 7 = .ok (.iload_n 1, 1) := by decide +kernel
theorem dX11_isNoSpan_8 : decode cX11_isNoSpan 8 = .ok (.invokestatic 79, 3) := by decide +kernel
theorem dX11_isNoSpan_11 : decode cX11_isNoSpan 11 = .ok (.ifCond .ne 24, 3) := by decide +kernel
theorem dX11_isNoSpan_14 : decode cX11_isNoSpan 14 = .ok (.iload_n 2, 1) := by decide +kernel
theorem dX11_isNoSpan_15 : decode cX11_isNoSpan 15 = .ok (.iconst 1, 1) := by decide +kernel
theorem dX11_isNoSpan_16 : decode cX11_isNoSpan 16 = .ok (.bipush 99, 2) := by decide +kernel
theorem dX11_isNoSpan_18 : decode cX11_isNoSpan 18 = .ok (.invokestatic 59, 3) := by decide +kernel
theorem dX11_isNoSpan_21 : decode cX11_isNoSpan 21 = .ok (.ifCond .eq 14, 3) := by decide +kernel
theorem dX11_isNoSpan_24 : decode cX11_isNoSpan 24 = .ok (.iload_n 0, 1) := by decide +kernel
theorem dX11_isNoSpan_25 : decode cX11_isNoSpan 25 = .ok (.iload_n 1, 1) := by decide +kernel
theorem dX11_isNoSpan_26 : decode cX11_isNoSpan 26 = .ok (.iload_n 2, 1) := by decide +kernel
theorem dX11_isNoSpan_27 : decode cX11_isNoSpan 27 = .ok (.invokestatic 179, 3) := by decide +kernel
theorem dX11_isNoSpan_30 : decode cX11_isNoSpan 30 = .ok (.bipush 40, 2) := by decide +kernel
theorem dX11_isNoSpan_32 : decode cX11_isNoSpan 32 = .ok (.if_icmp .le 7, 3) := by decide +kernel
theorem dX11_isNoSpan_35 : decode cX11_isNoSpan 35 = .ok (.iconst 1, 1) := by decide +kernel
theorem dX11_isNoSpan_36 : decode cX11_isNoSpan 36 = .ok (.goto 4, 3) := by decide +kernel
theorem dX11_isNoSpan_39 : decode cX11_isNoSpan 39 = .ok (.iconst 0, 1) := by decide +kernel
theorem dX11_isNoSpan_40 : decode cX11_isNoSpan 40 = .ok (.ireturn, 1) := by decide +kernel
theorem dX11_span_0 : decode cX11_span 0 = .ok (.iconst 0, 1) := by decide +kernel
theorem dX11_span_1 : decode cX11_span 1 = .ok (.istore 6, 2) := by decide +kernel
theorem dX11_span_3 : decode cX11_span 3 = .ok (.iload 4, 2) := by decide +kernel
theorem dX11_span_5 : decode cX11_span 5 = .ok (.istore 7, 2) := by decide +kernel
theorem dX11_span_7 : decode cX11_span 7 = .ok (.iload 7, 2) := by decide +kernel
theorem dX11_span_9 : decode cX11_span 9 = .ok (.iload_n 1, 1) := by decide +kernel
theorem dX11_span_10 : decode cX11_span 10 = .ok (.iload_n 2, 1) := by decide +kernel
theorem dX11_span_11 : decode cX11_span 11 = .ok (.iload_n 3, 1) := by decide +kernel
theorem dX11_span_12 : decode cX11_span 12 = .ok (.invokestatic 179, 3) := by decide +kernel
theorem dX11_span_15 : decode cX11_span 15 = .ok (.if_icmp .ge 36, 3) := by decide +kernel
theorem dX11_span_18 : decode cX11_span 18 = .ok (.aload_n 0, 1) := by decide +kernel
theorem dX11_span_19 : decode cX11_span 19 = .ok (.getfield 40, 3) := by decide +kernel
theorem dX11_span_22 : decode cX11_span 22 = .ok (.iload 5, 2) := by decide +kernel
theorem dX11_span_24 : decode cX11_span 24 = .ok (.aaload, 1) := by decide +kernel
theorem dX11_span_25 : decode cX11_span 25 = .ok (.iload_n 1, 1) := by decide +kernel
theorem dX11_span_26 : decode cX11_span 26 = .ok (.iload 7, 2) := by decide +kernel
theorem dX11_span_28 : decode cX11_span 28 = .ok (.iload_n 3, 1) := by decide +kernel
theorem dX11_span_29 : decode cX11_span 29 = .ok (.imul, 1) := by decide +kernel
theorem dX11_span_30 : decode cX11_span 30 = .ok (.iadd, 1) := by decide +kernel
theorem dX11_span_31 : decode cX11_span 31 = .ok (.invokevirtual 102, 3) := by decide +kernel
theorem dX11_span_34 : decode cX11_span 34 = .ok (.ifCond .eq 8, 3) := by decide +kernel
theorem dX11_span_37 : decode cX11_span 37 = .ok (.aload_n 0, 1) := by decide +kernel
theorem dX11_span_38 : decode cX11_span 38 = .ok (.invokevirtual 105, 3) := by decide +kernel
theorem dX11_span_41 : decode cX11_span 41 = .ok (.ireturn, 1) := by decide +kernel
theorem dX11_span_42 : decode cX11_span 42 = .ok (.iinc 6 1, 3) := by decide +kernel
theorem dX11_span_45 : decode cX11_span 45 = .ok (.iinc 7 1, 3) := by decide +kernel
theorem dX11_span_48 : decode cX11_span 48 = .ok (.goto (-41), 3) := by decide +kernel
theorem dX11_span_51 : decode cX11_span 51 = .ok (.iload 6, 2) := by decide +kernel
theorem dX11_span_53 : decode cX11_span 53 = .ok (.ireturn, 1) := by decide +kernel
theorem dX11_hearSpan_0 : decode cX11_hearSpan 0 = .ok (.aload_n 0, 1) := by decide +kernel
theorem dX11_hearSpan_1 : decode cX11_hearSpan 1 = .ok (.iload 4, 2) := by decide +kernel
theorem dX11_hearSpan_3 : decode cX11_hearSpan 3 = .ok (.invokestatic 72, 3) := by decide +kernel
theorem dX11_hearSpan_6 : decode cX11_hearSpan 6 = .ok (.iconst 1, 1) := by decide +kernel
theorem dX11_hearSpan_7 : decode cX11_hearSpan 7 = .ok (.invokevirtual 76, 3) := by decide +kernel
theorem dX11_hearSpan_10 : decode cX11_hearSpan 10 = .ok (.ifCond .ne 17, 3) := by decide +kernel
theorem dX11_hearSpan_13 : decode cX11_hearSpan 13 = .ok (.aload_n 0, 1) := by decide +kernel
theorem dX11_hearSpan_14 : decode cX11_hearSpan 14 = .ok (.iload_n 1, 1) := by decide +kernel
theorem dX11_hearSpan_15 : decode cX11_hearSpan 15 = .ok (.iload_n 2, 1) := by decide +kernel
theorem dX11_hearSpan_16 : decode cX11_hearSpan 16 = .ok (.iload_n 3, 1) := by decide +kernel
theorem dX11_hearSpan_17 : decode cX11_hearSpan 17 = .ok (.invokestatic 182, 3) := by decide +kernel
theorem dX11_hearSpan_20 : decode cX11_hearSpan 20 = .ok (.iconst 2, 1) := by decide +kernel
theorem dX11_hearSpan_21 : decode cX11_hearSpan 21 = .ok (.invokevirtual 52, 3) := by decide +kernel
theorem dX11_hearSpan_24 : decode cX11_hearSpan 24 = .ok (.ifCond .eq 7, 3) := by decide +kernel
theorem dX11_hearSpan_27 : decode cX11_hearSpan 27 = .ok (.iconst 0, 1) := by decide +kernel
theorem dX11_hearSpan_28 : decode cX11_hearSpan 28 = .ok (.goto 13, 3) := by decide +kernel
theorem dX11_hearSpan_31 : decode cX11_hearSpan 31 = .ok (.aload_n 0, 1) := by decide +kernel
theorem dX11_hearSpan_32 : decode cX11_hearSpan 32 = .ok (.iload_n 1, 1) := by decide +kernel
theorem dX11_hearSpan_33 : decode cX11_hearSpan 33 = .ok (.iload_n 2, 1) := by decide +kernel
theorem dX11_hearSpan_34 : decode cX11_hearSpan 34 = .ok (.iload_n 3, 1) := by decide +kernel
theorem dX11_hearSpan_35 : decode cX11_hearSpan 35 = .ok (.iconst 0, 1) := by decide +kernel
theorem dX11_hearSpan_36 : decode cX11_hearSpan 36 = .ok (.iload 4, 2) := by decide +kernel
theorem dX11_hearSpan_38 : decode cX11_hearSpan 38 = .ok (.invokevirtual 185, 3) := by decide +kernel
theorem dX11_hearSpan_41 : decode cX11_hearSpan 41 = .ok (.ireturn, 1) := by decide +kernel
theorem dX11_hearSteps_0 : decode cX11_hearSteps 0 = .ok (.aload_n 0, 1) := by decide +kernel
theorem dX11_hearSteps_1 : decode cX11_hearSteps 1 = .ok (.iload 5, 2) := by decide +kernel
theorem dX11_hearSteps_3 : decode cX11_hearSteps 3 = .ok (.invokestatic 72, 3) := by decide +kernel
theorem dX11_hearSteps_6 : decode cX11_hearSteps 6 = .ok (.iconst 1, 1) := by decide +kernel
theorem dX11_hearSteps_7 : decode cX11_hearSteps 7 = .ok (.invokevirtual 76, 3) := by decide +kernel
theorem dX11_hearSteps_10 : decode cX11_hearSteps 10 = .ok (.ifCond .ne 40, 3) := by decide +kernel
theorem dX11_hearSteps_13 : decode cX11_hearSteps 13 = .ok (.aload_n 0, 1) := by decide +kernel
theorem dX11_hearSteps_14 : decode cX11_hearSteps 14 = .ok (.iload_n 1, 1) := by decide +kernel
theorem dX11_hearSteps_15 : decode cX11_hearSteps 15 = .ok (.iload_n 2, 1) := by decide +kernel
theorem dX11_hearSteps_16 : decode cX11_hearSteps 16 = .ok (.iload_n 3, 1) := by decide +kernel
theorem dX11_hearSteps_17 : decode cX11_hearSteps 17 = .ok (.invokestatic 182, 3) := by decide +kernel
theorem dX11_hearSteps_20 : decode cX11_hearSteps 20 = .ok (.ifCond .ne 18, 3) := by decide +kernel
theorem dX11_hearSteps_23 : decode cX11_hearSteps 23 = .ok (.iload 4, 2) := by decide +kernel
theorem dX11_hearSteps_25 : decode cX11_hearSteps 25 = .ok (.iconst 0, 1) := by decide +kernel
theorem dX11_hearSteps_26 : decode cX11_hearSteps 26 = .ok (.iload_n 1, 1) := by decide +kernel
theorem dX11_hearSteps_27 : decode cX11_hearSteps 27 = .ok (.iload_n 2, 1) := by decide +kernel
theorem dX11_hearSteps_28 : decode cX11_hearSteps 28 = .ok (.iload_n 3, 1) := by decide +kernel
theorem dX11_hearSteps_29 : decode cX11_hearSteps 29 = .ok (.invokestatic 179, 3) := by decide +kernel
theorem dX11_hearSteps_32 : decode cX11_hearSteps 32 = .ok (.invokestatic 59, 3) := by decide +kernel
theorem dX11_hearSteps_35 : decode cX11_hearSteps 35 = .ok (.ifCond .ne 7, 3) := by decide +kernel
theorem dX11_hearSteps_38 : decode cX11_hearSteps 38 = .ok (.iconst 1, 1) := by decide +kernel
theorem dX11_hearSteps_39 : decode cX11_hearSteps 39 = .ok (.goto 4, 3) := by decide +kernel
theorem dX11_hearSteps_42 : decode cX11_hearSteps 42 = .ok (.iconst 0, 1) := by decide +kernel
theorem dX11_hearSteps_43 : decode cX11_hearSteps 43 = .ok (.iconst 2, 1) := by decide +kernel
theorem dX11_hearSteps_44 : decode cX11_hearSteps 44 = .ok (.invokevirtual 52, 3) := by decide +kernel
theorem dX11_hearSteps_47 : decode cX11_hearSteps 47 = .ok (.ifCond .eq 7, 3) := by decide +kernel
theorem dX11_hearSteps_50 : decode cX11_hearSteps 50 = .ok (.iconst 0, 1) := by decide +kernel
theorem dX11_hearSteps_51 : decode cX11_hearSteps 51 = .ok (.goto 14, 3) := by decide +kernel
theorem dX11_hearSteps_54 : decode cX11_hearSteps 54 = .ok (.aload_n 0, 1) := by decide +kernel
theorem dX11_hearSteps_55 : decode cX11_hearSteps 55 = .ok (.iload_n 1, 1) := by decide +kernel
theorem dX11_hearSteps_56 : decode cX11_hearSteps 56 = .ok (.iload_n 2, 1) := by decide +kernel
theorem dX11_hearSteps_57 : decode cX11_hearSteps 57 = .ok (.iload_n 3, 1) := by decide +kernel
theorem dX11_hearSteps_58 : decode cX11_hearSteps 58 = .ok (.iload 4, 2) := by decide +kernel
theorem dX11_hearSteps_60 : decode cX11_hearSteps 60 = .ok (.iload 5, 2) := by decide +kernel
theorem dX11_hearSteps_62 : decode cX11_hearSteps 62 = .ok (.invokevirtual 185, 3) := by decide +kernel
theorem dX11_hearSteps_65 : decode cX11_hearSteps 65 = .ok (.ireturn, 1) := by decide +kernel
theorem dX11_takeStep_0 : decode cX11_takeStep 0 = .ok (.aload_n 0, 1) := by decide +kernel
theorem dX11_takeStep_1 : decode cX11_takeStep 1 = .ok (.iload_n 1, 1) := by decide +kernel
theorem dX11_takeStep_2 : decode cX11_takeStep 2 = .ok (.invokestatic 79, 3) := by decide +kernel
theorem dX11_takeStep_5 : decode cX11_takeStep 5 = .ok (.ifCond .ne 15, 3) := by decide +kernel
theorem dX11_takeStep_8 : decode cX11_takeStep 8 = .ok (.iload_n 2, 1) := by decide +kernel
theorem dX11_takeStep_9 : decode cX11_takeStep 9 = .ok (.invokestatic 79, 3) := by decide +kernel
theorem dX11_takeStep_12 : decode cX11_takeStep 12 = .ok (.ifCond .ne 8, 3) := by decide +kernel
theorem dX11_takeStep_15 : decode cX11_takeStep 15 = .ok (.iload_n 1, 1) := by decide +kernel
theorem dX11_takeStep_16 : decode cX11_takeStep 16 = .ok (.iload_n 2, 1) := by decide +kernel
theorem dX11_takeStep_17 : decode cX11_takeStep 17 = .ok (.if_icmp .le 7, 3) := by decide +kernel
theorem dX11_takeStep_20 : decode cX11_takeStep 20 = .ok (.iconst 1, 1) := by decide +kernel
theorem dX11_takeStep_21 : decode cX11_takeStep 21 = .ok (.goto 4, 3) := by decide +kernel
theorem dX11_takeStep_24 : decode cX11_takeStep 24 = .ok (.iconst 0, 1) := by decide +kernel
theorem dX11_takeStep_25 : decode cX11_takeStep 25 = .ok (.iconst 1, 1) := by decide +kernel
theorem dX11_takeStep_26 : decode cX11_takeStep 26 = .ok (.invokevirtual 76, 3) := by decide +kernel
theorem dX11_takeStep_29 : decode cX11_takeStep 29 = .ok (.ifCond .eq 7, 3) := by decide +kernel
theorem dX11_takeStep_32 : decode cX11_takeStep 32 = .ok (.iconst 0, 1) := by decide +kernel
theorem dX11_takeStep_33 : decode cX11_takeStep 33 = .ok (.goto 7, 3) := by decide +kernel
theorem dX11_takeStep_36 : decode cX11_takeStep 36 = .ok (.aload_n 0, 1) := by decide +kernel
theorem dX11_takeStep_37 : decode cX11_takeStep 37 = .ok (.invokevirtual 105, 3) := by decide +kernel
theorem dX11_takeStep_40 : decode cX11_takeStep 40 = .ok (.ireturn, 1) := by decide +kernel
theorem dX11_stop_0 : decode cX11_stop 0 = .ok (.aload_n 0, 1) := by decide +kernel
theorem dX11_stop_1 : decode cX11_stop 1 = .ok (.iload_n 1, 1) := by decide +kernel
theorem dX11_stop_2 : decode cX11_stop 2 = .ok (.invokestatic 72, 3) := by decide +kernel
theorem dX11_stop_5 : decode cX11_stop 5 = .ok (.iconst 1, 1) := by decide +kernel
theorem dX11_stop_6 : decode cX11_stop 6 = .ok (.invokevirtual 76, 3) := by decide +kernel
theorem dX11_stop_9 : decode cX11_stop 9 = .ok (.ifCond .ne 28, 3) := by decide +kernel
theorem dX11_stop_12 : decode cX11_stop 12 = .ok (.aload_n 0, 1) := by decide +kernel
theorem dX11_stop_13 : decode cX11_stop 13 = .ok (.iload_n 2, 1) := by decide +kernel
theorem dX11_stop_14 : decode cX11_stop 14 = .ok (.sipush (-1000), 3) := by decide +kernel
theorem dX11_stop_17 : decode cX11_stop 17 = .ok (.ldc 189, 2) := by decide +kernel
theorem dX11_stop_19 : decode cX11_stop 19 = .ok (.invokestatic 59, 3) := by decide +kernel
theorem dX11_stop_22 : decode cX11_stop 22 = .ok (.ifCond .ne 7, 3) := by decide +kernel
theorem dX11_stop_25 : decode cX11_stop 25 = .ok (.iconst 1, 1) := by decide +kernel
theorem dX11_stop_26 : decode cX11_stop 26 = .ok (.goto 4, 3) := by decide +kernel
theorem dX11_stop_29 : decode cX11_stop 29 = .ok (.iconst 0, 1) := by decide +kernel
theorem dX11_stop_30 : decode cX11_stop 30 = .ok (.iconst 2, 1) := by decide +kernel
theorem dX11_stop_31 : decode cX11_stop 31 = .ok (.invokevirtual 52, 3) := by decide +kernel
theorem dX11_stop_34 : decode cX11_stop 34 = .ok (.ifCond .eq 5, 3) := by decide +kernel
theorem dX11_stop_37 : decode cX11_stop 37 = .ok (.iconst 0, 1) := by decide +kernel
theorem dX11_stop_38 : decode cX11_stop 38 = .ok (.ireturn, 1) := by decide +kernel
theorem dX11_stop_39 : decode cX11_stop 39 = .ok (.aload_n 0, 1) := by decide +kernel
theorem dX11_stop_40 : decode cX11_stop 40 = .ok (.getfield 40, 3) := by decide +kernel
theorem dX11_stop_43 : decode cX11_stop 43 = .ok (.iload_n 1, 1) := by decide +kernel
theorem dX11_stop_44 : decode cX11_stop 44 = .ok (.aaload, 1) := by decide +kernel
theorem dX11_stop_45 : decode cX11_stop 45 = .ok (.getfield 190, 3) := by decide +kernel
theorem dX11_stop_48 : decode cX11_stop 48 = .ok (.istore_n 3, 1) := by decide +kernel
theorem dX11_stop_49 : decode cX11_stop 49 = .ok (.aload_n 0, 1) := by decide +kernel
theorem dX11_stop_50 : decode cX11_stop 50 = .ok (.getfield 40, 3) := by decide +kernel
theorem dX11_stop_53 : decode cX11_stop 53 = .ok (.iload_n 1, 1) := by decide +kernel
theorem dX11_stop_54 : decode cX11_stop 54 = .ok (.aaload, 1) := by decide +kernel
theorem dX11_stop_55 : decode cX11_stop 55 = .ok (.iload_n 2, 1) := by decide +kernel
theorem dX11_stop_56 : decode cX11_stop 56 = .ok (.putfield 190, 3) := by decide +kernel
theorem dX11_stop_59 : decode cX11_stop 59 = .ok (.iload_n 3, 1) := by decide +kernel
theorem dX11_stop_60 : decode cX11_stop 60 = .ok (.ireturn, 1) := by decide +kernel
theorem dX11_forget_0 : decode cX11_forget 0 = .ok (.aload_n 0, 1) := by decide +kernel
theorem dX11_forget_1 : decode cX11_forget 1 = .ok (.iload_n 1, 1) := by decide +kernel
theorem dX11_forget_2 : decode cX11_forget 2 = .ok (.invokestatic 72, 3) := by decide +kernel
theorem dX11_forget_5 : decode cX11_forget 5 = .ok (.iconst 1, 1) := by decide +kernel
theorem dX11_forget_6 : decode cX11_forget 6 = .ok (.invokevirtual 76, 3) := by decide +kernel
theorem dX11_forget_9 : decode cX11_forget 9 = .ok (.ifCond .eq 5, 3) := by decide +kernel
theorem dX11_forget_12 : decode cX11_forget 12 = .ok (.iconst 0, 1) := by decide +kernel
theorem dX11_forget_13 : decode cX11_forget 13 = .ok (.ireturn, 1) := by decide +kernel
theorem dX11_forget_14 : decode cX11_forget 14 = .ok (.aload_n 0, 1) := by decide +kernel
theorem dX11_forget_15 : decode cX11_forget 15 = .ok (.getfield 40, 3) := by decide +kernel
theorem dX11_forget_18 : decode cX11_forget 18 = .ok (.iload_n 1, 1) := by decide +kernel
theorem dX11_forget_19 : decode cX11_forget 19 = .ok (.aaload, 1) := by decide +kernel
theorem dX11_forget_20 : decode cX11_forget 20 = .ok (.getfield 193, 3) := by decide +kernel
theorem dX11_forget_23 : decode cX11_forget 23 = .ok (.istore_n 2, 1) := by decide +kernel
theorem dX11_forget_24 : decode cX11_forget 24 = .ok (.aload_n 0, 1) := by decide +kernel
theorem dX11_forget_25 : decode cX11_forget 25 = .ok (.getfield 40, 3) := by decide +kernel
theorem dX11_forget_28 : decode cX11_forget 28 = .ok (.iload_n 1, 1) := by decide +kernel
theorem dX11_forget_29 : decode cX11_forget 29 = .ok (.aaload, 1) := by decide +kernel
theorem dX11_forget_30 : decode cX11_forget 30 = .ok (.invokevirtual 196, 3) := by decide +kernel
theorem dX11_forget_33 : decode cX11_forget 33 = .ok (.iload_n 2, 1) := by decide +kernel
theorem dX11_forget_34 : decode cX11_forget 34 = .ok (.ireturn, 1) := by decide +kernel
theorem dX11_heardTold_0 : decode cX11_heardTold 0 = .ok (.aload_n 0, 1) := by decide +kernel
theorem dX11_heardTold_1 : decode cX11_heardTold 1 = .ok (.getfield 40, 3) := by decide +kernel
theorem dX11_heardTold_4 : decode cX11_heardTold 4 = .ok (.iload_n 1, 1) := by decide +kernel
theorem dX11_heardTold_5 : decode cX11_heardTold 5 = .ok (.aaload, 1) := by decide +kernel
theorem dX11_heardTold_6 : decode cX11_heardTold 6 = .ok (.astore_n 3, 1) := by decide +kernel
theorem dX11_heardTold_7 : decode cX11_heardTold 7 = .ok (.iload_n 2, 1) := by decide +kernel
theorem dX11_heardTold_8 : decode cX11_heardTold 8 = .ok (.ifCond .ne 10, 3) := by decide +kernel
theorem dX11_heardTold_11 : decode cX11_heardTold 11 = .ok (.aload_n 3, 1) := by decide +kernel
theorem dX11_heardTold_12 : decode cX11_heardTold 12 = .ok (.getfield 193, 3) := by decide +kernel
theorem dX11_heardTold_15 : decode cX11_heardTold 15 = .ok (.goto 31, 3) := by decide +kernel
theorem dX11_heardTold_18 : decode cX11_heardTold 18 = .ok (.iload_n 2, 1) := by decide +kernel
theorem dX11_heardTold_19 : decode cX11_heardTold 19 = .ok (.iconst 1, 1) := by decide +kernel
theorem dX11_heardTold_20 : decode cX11_heardTold 20 = .ok (.if_icmp .ne 10, 3) := by decide +kernel
theorem dX11_heardTold_23 : decode cX11_heardTold 23 = .ok (.aload_n 3, 1) := by decide +kernel
theorem dX11_heardTold_24 : decode cX11_heardTold 24 = .ok (.getfield 199, 3) := by decide +kernel
theorem dX11_heardTold_27 : decode cX11_heardTold 27 = .ok (.goto 19, 3) := by decide +kernel
theorem dX11_heardTold_30 : decode cX11_heardTold 30 = .ok (.iload_n 2, 1) := by decide +kernel
theorem dX11_heardTold_31 : decode cX11_heardTold 31 = .ok (.iconst 2, 1) := by decide +kernel
theorem dX11_heardTold_32 : decode cX11_heardTold 32 = .ok (.if_icmp .ne 10, 3) := by decide +kernel
theorem dX11_heardTold_35 : decode cX11_heardTold 35 = .ok (.aload_n 3, 1) := by decide +kernel
theorem dX11_heardTold_36 : decode cX11_heardTold 36 = .ok (.getfield 202, 3) := by decide +kernel
theorem dX11_heardTold_39 : decode cX11_heardTold 39 = .ok (.goto 7, 3) := by decide +kernel
theorem dX11_heardTold_42 : decode cX11_heardTold 42 = .ok (.aload_n 3, 1) := by decide +kernel
theorem dX11_heardTold_43 : decode cX11_heardTold 43 = .ok (.getfield 190, 3) := by decide +kernel
theorem dX11_heardTold_46 : decode cX11_heardTold 46 = .ok (.ireturn, 1) := by decide +kernel
theorem dX11_heard_0 : decode cX11_heard 0 = .ok (.aload_n 0, 1) := by decide +kernel
theorem dX11_heard_1 : decode cX11_heard 1 = .ok (.iload_n 1, 1) := by decide +kernel
theorem dX11_heard_2 : decode cX11_heard 2 = .ok (.invokestatic 72, 3) := by decide +kernel
theorem dX11_heard_5 : decode cX11_heard 5 = .ok (.iconst 1, 1) := by decide +kernel
theorem dX11_heard_6 : decode cX11_heard 6 = .ok (.invokevirtual 76, 3) := by decide +kernel
theorem dX11_heard_9 : decode cX11_heard 9 = .ok (.ifCond .ne 25, 3) := by decide +kernel
theorem dX11_heard_12 : decode cX11_heard 12 = .ok (.aload_n 0, 1) := by decide +kernel
theorem dX11_heard_13 : decode cX11_heard 13 = .ok (.iload_n 2, 1) := by decide +kernel
theorem dX11_heard_14 : decode cX11_heard 14 = .ok (.iconst 0, 1) := by decide +kernel
theorem dX11_heard_15 : decode cX11_heard 15 = .ok (.iconst 3, 1) := by decide +kernel
theorem dX11_heard_16 : decode cX11_heard 16 = .ok (.invokestatic 59, 3) := by decide +kernel
theorem dX11_heard_19 : decode cX11_heard 19 = .ok (.ifCond .ne 7, 3) := by decide +kernel
theorem dX11_heard_22 : decode cX11_heard 22 = .ok (.iconst 1, 1) := by decide +kernel
theorem dX11_heard_23 : decode cX11_heard 23 = .ok (.goto 4, 3) := by decide +kernel
theorem dX11_heard_26 : decode cX11_heard 26 = .ok (.iconst 0, 1) := by decide +kernel
theorem dX11_heard_27 : decode cX11_heard 27 = .ok (.iconst 2, 1) := by decide +kernel
theorem dX11_heard_28 : decode cX11_heard 28 = .ok (.invokevirtual 52, 3) := by decide +kernel
theorem dX11_heard_31 : decode cX11_heard 31 = .ok (.ifCond .eq 7, 3) := by decide +kernel
theorem dX11_heard_34 : decode cX11_heard 34 = .ok (.iconst 0, 1) := by decide +kernel
theorem dX11_heard_35 : decode cX11_heard 35 = .ok (.goto 9, 3) := by decide +kernel
theorem dX11_heard_38 : decode cX11_heard 38 = .ok (.aload_n 0, 1) := by decide +kernel
theorem dX11_heard_39 : decode cX11_heard 39 = .ok (.iload_n 1, 1) := by decide +kernel
theorem dX11_heard_40 : decode cX11_heard 40 = .ok (.iload_n 2, 1) := by decide +kernel
theorem dX11_heard_41 : decode cX11_heard 41 = .ok (.invokevirtual 205, 3) := by decide +kernel
theorem dX11_heard_44 : decode cX11_heard 44 = .ok (.ireturn, 1) := by decide +kernel
theorem dX11_heardText_0 : decode cX11_heardText 0 = .ok (.aload_n 0, 1) := by decide +kernel
theorem dX11_heardText_1 : decode cX11_heardText 1 = .ok (.iload_n 1, 1) := by decide +kernel
theorem dX11_heardText_2 : decode cX11_heardText 2 = .ok (.invokestatic 72, 3) := by decide +kernel
theorem dX11_heardText_5 : decode cX11_heardText 5 = .ok (.iconst 1, 1) := by decide +kernel
theorem dX11_heardText_6 : decode cX11_heardText 6 = .ok (.invokevirtual 76, 3) := by decide +kernel
theorem dX11_heardText_9 : decode cX11_heardText 9 = .ok (.ifCond .eq 8, 3) := by decide +kernel
theorem dX11_heardText_12 : decode cX11_heardText 12 = .ok (.ldc 208, 2) := by decide +kernel
theorem dX11_heardText_14 : decode cX11_heardText 14 = .ok (.goto 12, 3) := by decide +kernel
theorem dX11_heardText_17 : decode cX11_heardText 17 = .ok (.aload_n 0, 1) := by decide +kernel
theorem dX11_heardText_18 : decode cX11_heardText 18 = .ok (.getfield 40, 3) := by decide +kernel
theorem dX11_heardText_21 : decode cX11_heardText 21 = .ok (.iload_n 1, 1) := by decide +kernel
theorem dX11_heardText_22 : decode cX11_heardText 22 = .ok (.aaload, 1) := by decide +kernel
theorem dX11_heardText_23 : decode cX11_heardText 23 = .ok (.invokevirtual 210, 3) := by decide +kernel
theorem dX11_heardText_26 : decode cX11_heardText 26 = .ok (.areturn, 1) := by decide +kernel
theorem dX11_length_0 : decode cX11_length 0 = .ok (.aload_n 0, 1) := by decide +kernel
theorem dX11_length_1 : decode cX11_length 1 = .ok (.iload_n 1, 1) := by decide +kernel
theorem dX11_length_2 : decode cX11_length 2 = .ok (.invokestatic 72, 3) := by decide +kernel
theorem dX11_length_5 : decode cX11_length 5 = .ok (.iconst 1, 1) := by decide +kernel
theorem dX11_length_6 : decode cX11_length 6 = .ok (.invokevirtual 76, 3) := by decide +kernel
theorem dX11_length_9 : decode cX11_length 9 = .ok (.ifCond .eq 7, 3) := by decide +kernel
theorem dX11_length_12 : decode cX11_length 12 = .ok (.iconst 0, 1) := by decide +kernel
theorem dX11_length_13 : decode cX11_length 13 = .ok (.goto 17, 3) := by decide +kernel
theorem dX11_length_16 : decode cX11_length 16 = .ok (.aload_n 0, 1) := by decide +kernel
theorem dX11_length_17 : decode cX11_length 17 = .ok (.getfield 21, 3) := by decide +kernel
theorem dX11_length_20 : decode cX11_length 20 = .ok (.iload_n 1, 1) := by decide +kernel
theorem dX11_length_21 : decode cX11_length 21 = .ok (.invokevirtual 82, 3) := by decide +kernel
theorem dX11_length_24 : decode cX11_length 24 = .ok (.checkcast 18, 3) := by decide +kernel
theorem dX11_length_27 : decode cX11_length 27 = .ok (.invokevirtual 86, 3) := by decide +kernel
theorem dX11_length_30 : decode cX11_length 30 = .ok (.ireturn, 1) := by decide +kernel
theorem dX11_at_0 : decode cX11_at 0 = .ok (.aload_n 0, 1) := by decide +kernel
theorem dX11_at_1 : decode cX11_at 1 = .ok (.iload_n 1, 1) := by decide +kernel
theorem dX11_at_2 : decode cX11_at 2 = .ok (.invokestatic 72, 3) := by decide +kernel
theorem dX11_at_5 : decode cX11_at 5 = .ok (.iconst 1, 1) := by decide +kernel
theorem dX11_at_6 : decode cX11_at 6 = .ok (.invokevirtual 76, 3) := by decide +kernel
theorem dX11_at_9 : decode cX11_at 9 = .ok (.ifCond .ne 40, 3) := by decide +kernel
theorem dX11_at_12 : decode cX11_at 12 = .ok (.aload_n 0, 1) := by decide +kernel
theorem dX11_at_13 : decode cX11_at 13 = .ok (.iload_n 2, 1) := by decide +kernel
theorem dX11_at_14 : decode cX11_at 14 = .ok (.iconst 0, 1) := by decide +kernel
theorem dX11_at_15 : decode cX11_at 15 = .ok (.aload_n 0, 1) := by decide +kernel
theorem dX11_at_16 : decode cX11_at 16 = .ok (.getfield 21, 3) := by decide +kernel
theorem dX11_at_19 : decode cX11_at 19 = .ok (.iload_n 1, 1) := by decide +kernel
theorem dX11_at_20 : decode cX11_at 20 = .ok (.invokevirtual 82, 3) := by decide +kernel
theorem dX11_at_23 : decode cX11_at 23 = .ok (.checkcast 18, 3) := by decide +kernel
theorem dX11_at_26 : decode cX11_at 26 = .ok (.invokevirtual 86, 3) := by decide +kernel
theorem dX11_at_29 : decode cX11_at 29 = .ok (.iconst 1, 1) := by decide +kernel
theorem dX11_at_30 : decode cX11_at 30 = .ok (.isub, 1) := by decide +kernel
theorem dX11_at_31 : decode cX11_at 31 = .ok (.invokestatic 59, 3) := by decide +kernel
theorem dX11_at_34 : decode cX11_at 34 = .ok (.ifCond .ne 7, 3) := by decide +kernel
theorem dX11_at_37 : decode cX11_at 37 = .ok (.iconst 1, 1) := by decide +kernel
theorem dX11_at_38 : decode cX11_at 38 = .ok (.goto 4, 3) := by decide +kernel
theorem dX11_at_41 : decode cX11_at 41 = .ok (.iconst 0, 1) := by decide +kernel
theorem dX11_at_42 : decode cX11_at 42 = .ok (.iconst 1, 1) := by decide +kernel
theorem dX11_at_43 : decode cX11_at 43 = .ok (.invokevirtual 52, 3) := by decide +kernel
theorem dX11_at_46 : decode cX11_at 46 = .ok (.ifCond .eq 7, 3) := by decide +kernel
theorem dX11_at_49 : decode cX11_at 49 = .ok (.iconst 0, 1) := by decide +kernel
theorem dX11_at_50 : decode cX11_at 50 = .ok (.goto 24, 3) := by decide +kernel
theorem dX11_at_53 : decode cX11_at 53 = .ok (.aload_n 0, 1) := by decide +kernel
theorem dX11_at_54 : decode cX11_at 54 = .ok (.getfield 21, 3) := by decide +kernel
theorem dX11_at_57 : decode cX11_at 57 = .ok (.iload_n 1, 1) := by decide +kernel
theorem dX11_at_58 : decode cX11_at 58 = .ok (.invokevirtual 82, 3) := by decide +kernel
theorem dX11_at_61 : decode cX11_at 61 = .ok (.checkcast 18, 3) := by decide +kernel
theorem dX11_at_64 : decode cX11_at 64 = .ok (.iload_n 2, 1) := by decide +kernel
theorem dX11_at_65 : decode cX11_at 65 = .ok (.invokevirtual 82, 3) := by decide +kernel
theorem dX11_at_68 : decode cX11_at 68 = .ok (.checkcast 91, 3) := by decide +kernel
theorem dX11_at_71 : decode cX11_at 71 = .ok (.invokevirtual 99, 3) := by decide +kernel
theorem dX11_at_74 : decode cX11_at 74 = .ok (.ireturn, 1) := by decide +kernel
theorem dX11_rowText_0 : decode cX11_rowText 0 = .ok (.aload_n 0, 1) := by decide +kernel
theorem dX11_rowText_1 : decode cX11_rowText 1 = .ok (.iload_n 1, 1) := by decide +kernel
theorem dX11_rowText_2 : decode cX11_rowText 2 = .ok (.invokestatic 72, 3) := by decide +kernel
theorem dX11_rowText_5 : decode cX11_rowText 5 = .ok (.iconst 1, 1) := by decide +kernel
theorem dX11_rowText_6 : decode cX11_rowText 6 = .ok (.invokevirtual 76, 3) := by decide +kernel
theorem dX11_rowText_9 : decode cX11_rowText 9 = .ok (.ifCond .eq 6, 3) := by decide +kernel
theorem dX11_rowText_12 : decode cX11_rowText 12 = .ok (.ldc 208, 2) := by decide +kernel
theorem dX11_rowText_14 : decode cX11_rowText 14 = .ok (.areturn, 1) := by decide +kernel
theorem dX11_rowText_15 : decode cX11_rowText 15 = .ok (.new 214, 3) := by decide +kernel
theorem dX11_rowText_18 : decode cX11_rowText 18 = .ok (.dup, 1) := by decide +kernel
theorem dX11_rowText_19 : decode cX11_rowText 19 = .ok (.invokespecial 216, 3) := by decide +kernel
theorem dX11_rowText_22 : decode cX11_rowText 22 = .ok (.astore_n 2, 1) := by decide +kernel
theorem dX11_rowText_23 : decode cX11_rowText 23 = .ok (.aload_n 0, 1) := by decide +kernel
theorem dX11_rowText_24 : decode cX11_rowText 24 = .ok (.getfield 21, 3) := by decide +kernel
theorem dX11_rowText_27 : decode cX11_rowText 27 = .ok (.iload_n 1, 1) := by decide +kernel
theorem dX11_rowText_28 : decode cX11_rowText 28 = .ok (.invokevirtual 82, 3) := by decide +kernel
theorem dX11_rowText_31 : decode cX11_rowText 31 = .ok (.checkcast 18, 3) := by decide +kernel
theorem dX11_rowText_34 : decode cX11_rowText 34 = .ok (.invokevirtual 162, 3) := by decide +kernel
theorem dX11_rowText_37 : decode cX11_rowText 37 = .ok (.astore_n 3, 1) := by decide +kernel
theorem dX11_rowText_38 : decode cX11_rowText 38 = .ok (.aload_n 3, 1) := by decide +kernel
theorem dX11_rowText_39 : decode cX11_rowText 39 = .ok (.invokeinterface 166 1, 5) := by decide +kernel
theorem dX11_rowText_44 : decode cX11_rowText 44 = .ok (.ifCond .eq 44, 3) := by decide +kernel
theorem dX11_rowText_47 : decode cX11_rowText 47 = .ok (.aload_n 3, 1) := by decide +kernel
theorem dX11_rowText_48 : decode cX11_rowText 48 = .ok (.invokeinterface 172 1, 5) := by decide +kernel
theorem dX11_rowText_53 : decode cX11_rowText 53 = .ok (.checkcast 91, 3) := by decide +kernel
theorem dX11_rowText_56 : decode cX11_rowText 56 = .ok (.invokevirtual 99, 3) := by decide +kernel
theorem dX11_rowText_59 : decode cX11_rowText 59 = .ok (.istore 4, 2) := by decide +kernel
theorem dX11_rowText_61 : decode cX11_rowText 61 = .ok (.aload_n 2, 1) := by decide +kernel
theorem dX11_rowText_62 : decode cX11_rowText 62 = .ok (.aload_n 2, 1) := by decide +kernel
theorem dX11_rowText_63 : decode cX11_rowText 63 = .ok (.invokevirtual 217, 3) := by decide +kernel
theorem dX11_rowText_66 : decode cX11_rowText 66 = .ok (.ifCond .le 8, 3) := by decide +kernel
theorem dX11_rowText_69 : decode cX11_rowText 69 = .ok (.ldc 220, 2) := by decide +kernel
theorem dX11_rowText_71 : decode cX11_rowText 71 = .ok (.goto 5, 3) := by decide +kernel
theorem dX11_rowText_74 : decode cX11_rowText 74 = .ok (.ldc 208, 2) := by decide +kernel
theorem dX11_rowText_76 : decode cX11_rowText 76 = .ok (.invokevirtual 222, 3) := by decide +kernel
theorem dX11_rowText_79 : decode cX11_rowText 79 = .ok (.iload 4, 2) := by decide +kernel
theorem dX11_rowText_81 : decode cX11_rowText 81 = .ok (.invokevirtual 226, 3) := by decide +kernel
theorem dX11_rowText_84 : decode cX11_rowText 84 = .ok (.pop, 1) := by decide +kernel
theorem dX11_rowText_85 : decode cX11_rowText 85 = .ok (.goto (-47), 3) := by decide +kernel
theorem dX11_rowText_88 : decode cX11_rowText 88 = .ok (.aload_n 2, 1) := by decide +kernel
theorem dX11_rowText_89 : decode cX11_rowText 89 = .ok (.invokevirtual 229, 3) := by decide +kernel
theorem dX11_rowText_92 : decode cX11_rowText 92 = .ok (.areturn, 1) := by decide +kernel
theorem dX11_isFixed_0 : decode cX11_isFixed 0 = .ok (.aload_n 0, 1) := by decide +kernel
theorem dX11_isFixed_1 : decode cX11_isFixed 1 = .ok (.iload_n 1, 1) := by decide +kernel
theorem dX11_isFixed_2 : decode cX11_isFixed 2 = .ok (.invokestatic 72, 3) := by decide +kernel
theorem dX11_isFixed_5 : decode cX11_isFixed 5 = .ok (.iconst 1, 1) := by decide +kernel
theorem dX11_isFixed_6 : decode cX11_isFixed 6 = .ok (.invokevirtual 76, 3) := by decide +kernel
theorem dX11_isFixed_9 : decode cX11_isFixed 9 = .ok (.ifCond .ne 16, 3) := by decide +kernel
theorem dX11_isFixed_12 : decode cX11_isFixed 12 = .ok (.aload_n 0, 1) := by decide +kernel
theorem dX11_isFixed_13 : decode cX11_isFixed 13 = .ok (.getfield 25, 3) := by decide +kernel
theorem dX11_isFixed_16 : decode cX11_isFixed 16 = .ok (.iload_n 1, 1) := by decide +kernel
theorem dX11_isFixed_17 : decode cX11_isFixed 17 = .ok (.baload, 1) := by decide +kernel
theorem dX11_isFixed_18 : decode cX11_isFixed 18 = .ok (.ifCond .eq 7, 3) := by decide +kernel
theorem dX11_isFixed_21 : decode cX11_isFixed 21 = .ok (.iconst 1, 1) := by decide +kernel
theorem dX11_isFixed_22 : decode cX11_isFixed 22 = .ok (.goto 4, 3) := by decide +kernel
theorem dX11_isFixed_25 : decode cX11_isFixed 25 = .ok (.iconst 0, 1) := by decide +kernel
theorem dX11_isFixed_26 : decode cX11_isFixed 26 = .ok (.ireturn, 1) := by decide +kernel
theorem dX11_counts_0 : decode cX11_counts 0 = .ok (.aload_n 0, 1) := by decide +kernel
theorem dX11_counts_1 : decode cX11_counts 1 = .ok (.iload_n 1, 1) := by decide +kernel
theorem dX11_counts_2 : decode cX11_counts 2 = .ok (.invokestatic 72, 3) := by decide +kernel
theorem dX11_counts_5 : decode cX11_counts 5 = .ok (.iconst 1, 1) := by decide +kernel
theorem dX11_counts_6 : decode cX11_counts 6 = .ok (.invokevirtual 76, 3) := by decide +kernel
theorem dX11_counts_9 : decode cX11_counts 9 = .ok (.ifCond .ne 25, 3) := by decide +kernel
theorem dX11_counts_12 : decode cX11_counts 12 = .ok (.aload_n 0, 1) := by decide +kernel
theorem dX11_counts_13 : decode cX11_counts 13 = .ok (.iload_n 2, 1) := by decide +kernel
theorem dX11_counts_14 : decode cX11_counts 14 = .ok (.iconst 0, 1) := by decide +kernel
theorem dX11_counts_15 : decode cX11_counts 15 = .ok (.iconst 4, 1) := by decide +kernel
theorem dX11_counts_16 : decode cX11_counts 16 = .ok (.invokestatic 59, 3) := by decide +kernel
theorem dX11_counts_19 : decode cX11_counts 19 = .ok (.ifCond .ne 7, 3) := by decide +kernel
theorem dX11_counts_22 : decode cX11_counts 22 = .ok (.iconst 1, 1) := by decide +kernel
theorem dX11_counts_23 : decode cX11_counts 23 = .ok (.goto 4, 3) := by decide +kernel
theorem dX11_counts_26 : decode cX11_counts 26 = .ok (.iconst 0, 1) := by decide +kernel
theorem dX11_counts_27 : decode cX11_counts 27 = .ok (.iconst 2, 1) := by decide +kernel
theorem dX11_counts_28 : decode cX11_counts 28 = .ok (.invokevirtual 52, 3) := by decide +kernel
theorem dX11_counts_31 : decode cX11_counts 31 = .ok (.ifCond .eq 7, 3) := by decide +kernel
theorem dX11_counts_34 : decode cX11_counts 34 = .ok (.iconst 0, 1) := by decide +kernel
theorem dX11_counts_35 : decode cX11_counts 35 = .ok (.goto 11, 3) := by decide +kernel
theorem dX11_counts_38 : decode cX11_counts 38 = .ok (.aload_n 0, 1) := by decide +kernel
theorem dX11_counts_39 : decode cX11_counts 39 = .ok (.getfield 31, 3) := by decide +kernel
theorem dX11_counts_42 : decode cX11_counts 42 = .ok (.iload_n 1, 1) := by decide +kernel
theorem dX11_counts_43 : decode cX11_counts 43 = .ok (.aaload, 1) := by decide +kernel
theorem dX11_counts_44 : decode cX11_counts 44 = .ok (.iload_n 2, 1) := by decide +kernel
theorem dX11_counts_45 : decode cX11_counts 45 = .ok (.iaload, 1) := by decide +kernel
theorem dX11_counts_46 : decode cX11_counts 46 = .ok (.ireturn, 1) := by decide +kernel
theorem dX11_shelfCounts_0 : decode cX11_shelfCounts 0 = .ok (.aload_n 0, 1) := by decide +kernel
theorem dX11_shelfCounts_1 : decode cX11_shelfCounts 1 = .ok (.iload_n 1, 1) := by decide +kernel
theorem dX11_shelfCounts_2 : decode cX11_shelfCounts 2 = .ok (.iconst 0, 1) := by decide +kernel
theorem dX11_shelfCounts_3 : decode cX11_shelfCounts 3 = .ok (.bipush 6, 2) := by decide +kernel
theorem dX11_shelfCounts_5 : decode cX11_shelfCounts 5 = .ok (.invokestatic 59, 3) := by decide +kernel
theorem dX11_shelfCounts_8 : decode cX11_shelfCounts 8 = .ok (.ifCond .ne 7, 3) := by decide +kernel
theorem dX11_shelfCounts_11 : decode cX11_shelfCounts 11 = .ok (.iconst 1, 1) := by decide +kernel
theorem dX11_shelfCounts_12 : decode cX11_shelfCounts 12 = .ok (.goto 4, 3) := by decide +kernel
theorem dX11_shelfCounts_15 : decode cX11_shelfCounts 15 = .ok (.iconst 0, 1) := by decide +kernel
theorem dX11_shelfCounts_16 : decode cX11_shelfCounts 16 = .ok (.iconst 1, 1) := by decide +kernel
theorem dX11_shelfCounts_17 : decode cX11_shelfCounts 17 = .ok (.invokevirtual 76, 3) := by decide +kernel
theorem dX11_shelfCounts_20 : decode cX11_shelfCounts 20 = .ok (.ifCond .eq 7, 3) := by decide +kernel
theorem dX11_shelfCounts_23 : decode cX11_shelfCounts 23 = .ok (.iconst 0, 1) := by decide +kernel
theorem dX11_shelfCounts_24 : decode cX11_shelfCounts 24 = .ok (.goto 11, 3) := by decide +kernel
theorem dX11_shelfCounts_27 : decode cX11_shelfCounts 27 = .ok (.aload_n 0, 1) := by decide +kernel
theorem dX11_shelfCounts_28 : decode cX11_shelfCounts 28 = .ok (.getfield 31, 3) := by decide +kernel
theorem dX11_shelfCounts_31 : decode cX11_shelfCounts 31 = .ok (.iconst 2, 1) := by decide +kernel
theorem dX11_shelfCounts_32 : decode cX11_shelfCounts 32 = .ok (.aaload, 1) := by decide +kernel
theorem dX11_shelfCounts_33 : decode cX11_shelfCounts 33 = .ok (.iload_n 1, 1) := by decide +kernel
theorem dX11_shelfCounts_34 : decode cX11_shelfCounts 34 = .ok (.iaload, 1) := by decide +kernel
theorem dX11_shelfCounts_35 : decode cX11_shelfCounts 35 = .ok (.ireturn, 1) := by decide +kernel
theorem dX11_forgetCounts_0 : decode cX11_forgetCounts 0 = .ok (.aload_n 0, 1) := by decide +kernel
theorem dX11_forgetCounts_1 : decode cX11_forgetCounts 1 = .ok (.iconst 0, 1) := by decide +kernel
theorem dX11_forgetCounts_2 : decode cX11_forgetCounts 2 = .ok (.putfield 48, 3) := by decide +kernel
theorem dX11_forgetCounts_5 : decode cX11_forgetCounts 5 = .ok (.iconst 0, 1) := by decide +kernel
theorem dX11_forgetCounts_6 : decode cX11_forgetCounts 6 = .ok (.istore_n 1, 1) := by decide +kernel
theorem dX11_forgetCounts_7 : decode cX11_forgetCounts 7 = .ok (.aload_n 0, 1) := by decide +kernel
theorem dX11_forgetCounts_8 : decode cX11_forgetCounts 8 = .ok (.getfield 31, 3) := by decide +kernel
theorem dX11_forgetCounts_11 : decode cX11_forgetCounts 11 = .ok (.astore_n 2, 1) := by decide +kernel
theorem dX11_forgetCounts_12 : decode cX11_forgetCounts 12 = .ok (.aload_n 2, 1) := by decide +kernel
theorem dX11_forgetCounts_13 : decode cX11_forgetCounts 13 = .ok (.arraylength, 1) := by decide +kernel
theorem dX11_forgetCounts_14 : decode cX11_forgetCounts 14 = .ok (.istore_n 3, 1) := by decide +kernel
theorem dX11_forgetCounts_15 : decode cX11_forgetCounts 15 = .ok (.iconst 0, 1) := by decide +kernel
theorem dX11_forgetCounts_16 : decode cX11_forgetCounts 16 = .ok (.istore 4, 2) := by decide +kernel
theorem dX11_forgetCounts_18 : decode cX11_forgetCounts 18 = .ok (.iload 4, 2) := by decide +kernel
theorem dX11_forgetCounts_20 : decode cX11_forgetCounts 20 = .ok (.iload_n 3, 1) := by decide +kernel
theorem dX11_forgetCounts_21 : decode cX11_forgetCounts 21 = .ok (.if_icmp .ge 46, 3) := by decide +kernel
theorem dX11_forgetCounts_24 : decode cX11_forgetCounts 24 = .ok (.aload_n 2, 1) := by decide +kernel
theorem dX11_forgetCounts_25 : decode cX11_forgetCounts 25 = .ok (.iload 4, 2) := by decide +kernel
theorem dX11_forgetCounts_27 : decode cX11_forgetCounts 27 = .ok (.aaload, 1) := by decide +kernel
theorem dX11_forgetCounts_28 : decode cX11_forgetCounts 28 = .ok (.astore 5, 2) := by decide +kernel
theorem dX11_forgetCounts_30 : decode cX11_forgetCounts 30 = .ok (.iconst 0, 1) := by decide +kernel
theorem dX11_forgetCounts_31 : decode cX11_forgetCounts 31 = .ok (.istore 6, 2) := by decide +kernel
theorem dX11_forgetCounts_33 : decode cX11_forgetCounts 33 = .ok (.iload 6, 2) := by decide +kernel
theorem dX11_forgetCounts_35 : decode cX11_forgetCounts 35 = .ok (.aload 5, 2) := by decide +kernel
theorem dX11_forgetCounts_37 : decode cX11_forgetCounts 37 = .ok (.arraylength, 1) := by decide +kernel
theorem dX11_forgetCounts_38 : decode cX11_forgetCounts 38 = .ok (.if_icmp .ge 23, 3) := by decide +kernel
theorem dX11_forgetCounts_41 : decode cX11_forgetCounts 41 = .ok (.iload_n 1, 1) := by decide +kernel
theorem dX11_forgetCounts_42 : decode cX11_forgetCounts 42 = .ok (.aload 5, 2) := by decide +kernel
theorem dX11_forgetCounts_44 : decode cX11_forgetCounts 44 = .ok (.iload 6, 2) := by decide +kernel
theorem dX11_forgetCounts_46 : decode cX11_forgetCounts 46 = .ok (.iaload, 1) := by decide +kernel
theorem dX11_forgetCounts_47 : decode cX11_forgetCounts 47 = .ok (.iadd, 1) := by decide +kernel
theorem dX11_forgetCounts_48 : decode cX11_forgetCounts 48 = .ok (.istore_n 1, 1) := by decide +kernel
theorem dX11_forgetCounts_49 : decode cX11_forgetCounts 49 = .ok (.aload 5, 2) := by decide +kernel
theorem dX11_forgetCounts_51 : decode cX11_forgetCounts 51 = .ok (.iload 6, 2) := by decide +kernel
theorem dX11_forgetCounts_53 : decode cX11_forgetCounts 53 = .ok (.iconst 0, 1) := by decide +kernel
theorem dX11_forgetCounts_54 : decode cX11_forgetCounts 54 = .ok (.iastore, 1) := by decide +kernel
theorem dX11_forgetCounts_55 : decode cX11_forgetCounts 55 = .ok (.iinc 6 1, 3) := by decide +kernel
theorem dX11_forgetCounts_58 : decode cX11_forgetCounts 58 = .ok (.goto (-25), 3) := by decide +kernel
theorem dX11_forgetCounts_61 : decode cX11_forgetCounts 61 = .ok (.iinc 4 1, 3) := by decide +kernel
theorem dX11_forgetCounts_64 : decode cX11_forgetCounts 64 = .ok (.goto (-46), 3) := by decide +kernel
theorem dX11_forgetCounts_67 : decode cX11_forgetCounts 67 = .ok (.iload_n 1, 1) := by decide +kernel
theorem dX11_forgetCounts_68 : decode cX11_forgetCounts 68 = .ok (.ireturn, 1) := by decide +kernel
theorem dX11_get_0 : decode cX11_get 0 = .ok (.aload_n 0, 1) := by decide +kernel
theorem dX11_get_1 : decode cX11_get 1 = .ok (.iload_n 1, 1) := by decide +kernel
theorem dX11_get_2 : decode cX11_get 2 = .ok (.iload_n 2, 1) := by decide +kernel
theorem dX11_get_3 : decode cX11_get 3 = .ok (.iconst 0, 1) := by decide +kernel
theorem dX11_get_4 : decode cX11_get 4 = .ok (.invokevirtual 142, 3) := by decide +kernel
theorem dX11_get_7 : decode cX11_get 7 = .ok (.ifCond .eq 7, 3) := by decide +kernel
theorem dX11_get_10 : decode cX11_get 10 = .ok (.iconst 0, 1) := by decide +kernel
theorem dX11_get_11 : decode cX11_get 11 = .ok (.goto 9, 3) := by decide +kernel
theorem dX11_get_14 : decode cX11_get 14 = .ok (.aload_n 0, 1) := by decide +kernel
theorem dX11_get_15 : decode cX11_get 15 = .ok (.iload_n 1, 1) := by decide +kernel
theorem dX11_get_16 : decode cX11_get 16 = .ok (.iload_n 2, 1) := by decide +kernel
theorem dX11_get_17 : decode cX11_get 17 = .ok (.invokevirtual 145, 3) := by decide +kernel
theorem dX11_get_20 : decode cX11_get 20 = .ok (.ireturn, 1) := by decide +kernel
theorem dX11_getOr_0 : decode cX11_getOr 0 = .ok (.aload_n 0, 1) := by decide +kernel
theorem dX11_getOr_1 : decode cX11_getOr 1 = .ok (.iload_n 1, 1) := by decide +kernel
theorem dX11_getOr_2 : decode cX11_getOr 2 = .ok (.iload_n 2, 1) := by decide +kernel
theorem dX11_getOr_3 : decode cX11_getOr 3 = .ok (.iload_n 3, 1) := by decide +kernel
theorem dX11_getOr_4 : decode cX11_getOr 4 = .ok (.invokevirtual 142, 3) := by decide +kernel
theorem dX11_getOr_7 : decode cX11_getOr 7 = .ok (.ifCond .eq 5, 3) := by decide +kernel
theorem dX11_getOr_10 : decode cX11_getOr 10 = .ok (.iconst 0, 1) := by decide +kernel
theorem dX11_getOr_11 : decode cX11_getOr 11 = .ok (.ireturn, 1) := by decide +kernel
theorem dX11_getOr_12 : decode cX11_getOr 12 = .ok (.aload_n 0, 1) := by decide +kernel
theorem dX11_getOr_13 : decode cX11_getOr 13 = .ok (.iload_n 1, 1) := by decide +kernel
theorem dX11_getOr_14 : decode cX11_getOr 14 = .ok (.iload_n 2, 1) := by decide +kernel
theorem dX11_getOr_15 : decode cX11_getOr 15 = .ok (.invokevirtual 145, 3) := by decide +kernel
theorem dX11_getOr_18 : decode cX11_getOr 18 = .ok (.istore 4, 2) := by decide +kernel
theorem dX11_getOr_20 : decode cX11_getOr 20 = .ok (.iload 4, 2) := by decide +kernel
theorem dX11_getOr_22 : decode cX11_getOr 22 = .ok (.sipush (-1000), 3) := by decide +kernel
theorem dX11_getOr_25 : decode cX11_getOr 25 = .ok (.if_icmp .ne 7, 3) := by decide +kernel
theorem dX11_getOr_28 : decode cX11_getOr 28 = .ok (.iload_n 3, 1) := by decide +kernel
theorem dX11_getOr_29 : decode cX11_getOr 29 = .ok (.goto 5, 3) := by decide +kernel
theorem dX11_getOr_32 : decode cX11_getOr 32 = .ok (.iload 4, 2) := by decide +kernel
theorem dX11_getOr_34 : decode cX11_getOr 34 = .ok (.ireturn, 1) := by decide +kernel
theorem dX11_has_0 : decode cX11_has 0 = .ok (.aload_n 0, 1) := by decide +kernel
theorem dX11_has_1 : decode cX11_has 1 = .ok (.iload_n 1, 1) := by decide +kernel
theorem dX11_has_2 : decode cX11_has 2 = .ok (.iload_n 2, 1) := by decide +kernel
theorem dX11_has_3 : decode cX11_has 3 = .ok (.iconst 0, 1) := by decide +kernel
theorem dX11_has_4 : decode cX11_has 4 = .ok (.invokevirtual 142, 3) := by decide +kernel
theorem dX11_has_7 : decode cX11_has 7 = .ok (.ifCond .ne 16, 3) := by decide +kernel
theorem dX11_has_10 : decode cX11_has 10 = .ok (.aload_n 0, 1) := by decide +kernel
theorem dX11_has_11 : decode cX11_has 11 = .ok (.iload_n 1, 1) := by decide +kernel
theorem dX11_has_12 : decode cX11_has 12 = .ok (.iload_n 2, 1) := by decide +kernel
theorem dX11_has_13 : decode cX11_has 13 = .ok (.invokevirtual 130, 3) := by decide +kernel
theorem dX11_has_16 : decode cX11_has 16 = .ok (.ifCond .lt 7, 3) := by decide +kernel
theorem dX11_has_19 : decode cX11_has 19 = .ok (.iconst 1, 1) := by decide +kernel
theorem dX11_has_20 : decode cX11_has 20 = .ok (.goto 4, 3) := by decide +kernel
theorem dX11_has_23 : decode cX11_has 23 = .ok (.iconst 0, 1) := by decide +kernel
theorem dX11_has_24 : decode cX11_has 24 = .ok (.ireturn, 1) := by decide +kernel
theorem dX11_size_0 : decode cX11_size 0 = .ok (.aload_n 0, 1) := by decide +kernel
theorem dX11_size_1 : decode cX11_size 1 = .ok (.iload_n 1, 1) := by decide +kernel
theorem dX11_size_2 : decode cX11_size 2 = .ok (.invokestatic 136, 3) := by decide +kernel
theorem dX11_size_5 : decode cX11_size 5 = .ok (.iconst 1, 1) := by decide +kernel
theorem dX11_size_6 : decode cX11_size 6 = .ok (.invokevirtual 76, 3) := by decide +kernel
theorem dX11_size_9 : decode cX11_size 9 = .ok (.ifCond .eq 7, 3) := by decide +kernel
theorem dX11_size_12 : decode cX11_size 12 = .ok (.iconst 0, 1) := by decide +kernel
theorem dX11_size_13 : decode cX11_size 13 = .ok (.goto 17, 3) := by decide +kernel
theorem dX11_size_16 : decode cX11_size 16 = .ok (.aload_n 0, 1) := by decide +kernel
theorem dX11_size_17 : decode cX11_size 17 = .ok (.getfield 34, 3) := by decide +kernel
theorem dX11_size_20 : decode cX11_size 20 = .ok (.iload_n 1, 1) := by decide +kernel
theorem dX11_size_21 : decode cX11_size 21 = .ok (.invokevirtual 82, 3) := by decide +kernel
theorem dX11_size_24 : decode cX11_size 24 = .ok (.checkcast 18, 3) := by decide +kernel
theorem dX11_size_27 : decode cX11_size 27 = .ok (.invokevirtual 86, 3) := by decide +kernel
theorem dX11_size_30 : decode cX11_size 30 = .ok (.ireturn, 1) := by decide +kernel
theorem dX11_text_0 : decode cX11_text 0 = .ok (.aload_n 0, 1) := by decide +kernel
theorem dX11_text_1 : decode cX11_text 1 = .ok (.iload_n 1, 1) := by decide +kernel
theorem dX11_text_2 : decode cX11_text 2 = .ok (.invokestatic 136, 3) := by decide +kernel
theorem dX11_text_5 : decode cX11_text 5 = .ok (.iconst 1, 1) := by decide +kernel
theorem dX11_text_6 : decode cX11_text 6 = .ok (.invokevirtual 76, 3) := by decide +kernel
theorem dX11_text_9 : decode cX11_text 9 = .ok (.ifCond .eq 6, 3) := by decide +kernel
theorem dX11_text_12 : decode cX11_text 12 = .ok (.ldc 208, 2) := by decide +kernel
theorem dX11_text_14 : decode cX11_text 14 = .ok (.areturn, 1) := by decide +kernel
theorem dX11_text_15 : decode cX11_text 15 = .ok (.new 214, 3) := by decide +kernel
theorem dX11_text_18 : decode cX11_text 18 = .ok (.dup, 1) := by decide +kernel
theorem dX11_text_19 : decode cX11_text 19 = .ok (.invokespecial 216, 3) := by decide +kernel
theorem dX11_text_22 : decode cX11_text 22 = .ok (.astore_n 2, 1) := by decide +kernel
theorem dX11_text_23 : decode cX11_text 23 = .ok (.aload_n 0, 1) := by decide +kernel
theorem dX11_text_24 : decode cX11_text 24 = .ok (.getfield 34, 3) := by decide +kernel
theorem dX11_text_27 : decode cX11_text 27 = .ok (.iload_n 1, 1) := by decide +kernel
theorem dX11_text_28 : decode cX11_text 28 = .ok (.invokevirtual 82, 3) := by decide +kernel
theorem dX11_text_31 : decode cX11_text 31 = .ok (.checkcast 18, 3) := by decide +kernel
theorem dX11_text_34 : decode cX11_text 34 = .ok (.invokevirtual 162, 3) := by decide +kernel
theorem dX11_text_37 : decode cX11_text 37 = .ok (.astore_n 3, 1) := by decide +kernel
theorem dX11_text_38 : decode cX11_text 38 = .ok (.aload_n 3, 1) := by decide +kernel
theorem dX11_text_39 : decode cX11_text 39 = .ok (.invokeinterface 166 1, 5) := by decide +kernel
theorem dX11_text_44 : decode cX11_text 44 = .ok (.ifCond .eq 55, 3) := by decide +kernel
theorem dX11_text_47 : decode cX11_text 47 = .ok (.aload_n 3, 1) := by decide +kernel
theorem dX11_text_48 : decode cX11_text 48 = .ok (.invokeinterface 172 1, 5) := by decide +kernel
theorem dX11_text_53 : decode cX11_text 53 = .ok (.checkcast 128, 3) := by decide +kernel
theorem dX11_text_56 : decode cX11_text 56 = .ok (.astore 4, 2) := by decide +kernel
theorem dX11_text_58 : decode cX11_text 58 = .ok (.aload_n 2, 1) := by decide +kernel
theorem dX11_text_59 : decode cX11_text 59 = .ok (.aload_n 2, 1) := by decide +kernel
theorem dX11_text_60 : decode cX11_text 60 = .ok (.invokevirtual 217, 3) := by decide +kernel
theorem dX11_text_63 : decode cX11_text 63 = .ok (.ifCond .le 8, 3) := by decide +kernel
theorem dX11_text_66 : decode cX11_text 66 = .ok (.ldc 220, 2) := by decide +kernel
theorem dX11_text_68 : decode cX11_text 68 = .ok (.goto 5, 3) := by decide +kernel
theorem dX11_text_71 : decode cX11_text 71 = .ok (.ldc 208, 2) := by decide +kernel
theorem dX11_text_73 : decode cX11_text 73 = .ok (.invokevirtual 222, 3) := by decide +kernel
theorem dX11_text_76 : decode cX11_text 76 = .ok (.aload 4, 2) := by decide +kernel
theorem dX11_text_78 : decode cX11_text 78 = .ok (.iconst 0, 1) := by decide +kernel
theorem dX11_text_79 : decode cX11_text 79 = .ok (.iaload, 1) := by decide +kernel
theorem dX11_text_80 : decode cX11_text 80 = .ok (.invokevirtual 226, 3) := by decide +kernel
theorem dX11_text_83 : decode cX11_text 83 = .ok (.ldc 232, 2) := by decide +kernel
theorem dX11_text_85 : decode cX11_text 85 = .ok (.invokevirtual 222, 3) := by decide +kernel
theorem dX11_text_88 : decode cX11_text 88 = .ok (.aload 4, 2) := by decide +kernel
theorem dX11_text_90 : decode cX11_text 90 = .ok (.iconst 1, 1) := by decide +kernel
theorem dX11_text_91 : decode cX11_text 91 = .ok (.iaload, 1) := by decide +kernel
theorem dX11_text_92 : decode cX11_text 92 = .ok (.invokevirtual 226, 3) := by decide +kernel
theorem dX11_text_95 : decode cX11_text 95 = .ok (.pop, 1) := by decide +kernel
theorem dX11_text_96 : decode cX11_text 96 = .ok (.goto (-58), 3) := by decide +kernel
theorem dX11_text_99 : decode cX11_text 99 = .ok (.aload_n 2, 1) := by decide +kernel
theorem dX11_text_100 : decode cX11_text 100 = .ok (.invokevirtual 229, 3) := by decide +kernel
theorem dX11_text_103 : decode cX11_text 103 = .ok (.areturn, 1) := by decide +kernel
theorem dX11_areLike_0 : decode cX11_areLike 0 = .ok (.aload_n 0, 1) := by decide +kernel
theorem dX11_areLike_1 : decode cX11_areLike 1 = .ok (.iload_n 1, 1) := by decide +kernel
theorem dX11_areLike_2 : decode cX11_areLike 2 = .ok (.invokestatic 136, 3) := by decide +kernel
theorem dX11_areLike_5 : decode cX11_areLike 5 = .ok (.ifCond .ne 10, 3) := by decide +kernel
theorem dX11_areLike_8 : decode cX11_areLike 8 = .ok (.iload_n 2, 1) := by decide +kernel
theorem dX11_areLike_9 : decode cX11_areLike 9 = .ok (.invokestatic 136, 3) := by decide +kernel
theorem dX11_areLike_12 : decode cX11_areLike 12 = .ok (.ifCond .eq 7, 3) := by decide +kernel
theorem dX11_areLike_15 : decode cX11_areLike 15 = .ok (.iconst 1, 1) := by decide +kernel
theorem dX11_areLike_16 : decode cX11_areLike 16 = .ok (.goto 4, 3) := by decide +kernel
theorem dX11_areLike_19 : decode cX11_areLike 19 = .ok (.iconst 0, 1) := by decide +kernel
theorem dX11_areLike_20 : decode cX11_areLike 20 = .ok (.iconst 1, 1) := by decide +kernel
theorem dX11_areLike_21 : decode cX11_areLike 21 = .ok (.invokevirtual 76, 3) := by decide +kernel
theorem dX11_areLike_24 : decode cX11_areLike 24 = .ok (.ifCond .eq 5, 3) := by decide +kernel
theorem dX11_areLike_27 : decode cX11_areLike 27 = .ok (.iconst 0, 1) := by decide +kernel
theorem dX11_areLike_28 : decode cX11_areLike 28 = .ok (.ireturn, 1) := by decide +kernel
theorem dX11_areLike_29 : decode cX11_areLike 29 = .ok (.iconst 0, 1) := by decide +kernel
theorem dX11_areLike_30 : decode cX11_areLike 30 = .ok (.istore_n 3, 1) := by decide +kernel
theorem dX11_areLike_31 : decode cX11_areLike 31 = .ok (.iload_n 3, 1) := by decide +kernel
theorem dX11_areLike_32 : decode cX11_areLike 32 = .ok (.bipush 20, 2) := by decide +kernel
theorem dX11_areLike_34 : decode cX11_areLike 34 = .ok (.if_icmp .ge 26, 3) := by decide +kernel
theorem dX11_areLike_37 : decode cX11_areLike 37 = .ok (.aload_n 0, 1) := by decide +kernel
theorem dX11_areLike_38 : decode cX11_areLike 38 = .ok (.iload_n 1, 1) := by decide +kernel
theorem dX11_areLike_39 : decode cX11_areLike 39 = .ok (.iload_n 3, 1) := by decide +kernel
theorem dX11_areLike_40 : decode cX11_areLike 40 = .ok (.invokevirtual 145, 3) := by decide +kernel
theorem dX11_areLike_43 : decode cX11_areLike 43 = .ok (.aload_n 0, 1) := by decide +kernel
theorem dX11_areLike_44 : decode cX11_areLike 44 = .ok (.iload_n 2, 1) := by decide +kernel
theorem dX11_areLike_45 : decode cX11_areLike 45 = .ok (.iload_n 3, 1) := by decide +kernel
theorem dX11_areLike_46 : decode cX11_areLike 46 = .ok (.invokevirtual 145, 3) := by decide +kernel
theorem dX11_areLike_49 : decode cX11_areLike 49 = .ok (.if_icmp .eq 5, 3) := by decide +kernel
theorem dX11_areLike_52 : decode cX11_areLike 52 = .ok (.iconst 0, 1) := by decide +kernel
theorem dX11_areLike_53 : decode cX11_areLike 53 = .ok (.ireturn, 1) := by decide +kernel
theorem dX11_areLike_54 : decode cX11_areLike 54 = .ok (.iinc 3 1, 3) := by decide +kernel
theorem dX11_areLike_57 : decode cX11_areLike 57 = .ok (.goto (-26), 3) := by decide +kernel
theorem dX11_areLike_60 : decode cX11_areLike 60 = .ok (.iconst 1, 1) := by decide +kernel
theorem dX11_areLike_61 : decode cX11_areLike 61 = .ok (.ireturn, 1) := by decide +kernel
theorem dX11_given_0 : decode cX11_given 0 = .ok (.aload_n 0, 1) := by decide +kernel
theorem dX11_given_1 : decode cX11_given 1 = .ok (.iload_n 2, 1) := by decide +kernel
theorem dX11_given_2 : decode cX11_given 2 = .ok (.invokestatic 139, 3) := by decide +kernel
theorem dX11_given_5 : decode cX11_given 5 = .ok (.ifCond .ne 33, 3) := by decide +kernel
theorem dX11_given_8 : decode cX11_given 8 = .ok (.iload_n 3, 1) := by decide +kernel
theorem dX11_given_9 : decode cX11_given 9 = .ok (.sipush (-1000), 3) := by decide +kernel
theorem dX11_given_12 : decode cX11_given 12 = .ok (.sipush 999, 3) := by decide +kernel
theorem dX11_given_15 : decode cX11_given 15 = .ok (.invokestatic 59, 3) := by decide +kernel
theorem dX11_given_18 : decode cX11_given 18 = .ok (.ifCond .eq 20, 3) := by decide +kernel
theorem dX11_given_21 : decode cX11_given 21 = .ok (.iload_n 1, 1) := by decide +kernel
theorem dX11_given_22 : decode cX11_given 22 = .ok (.iconst 0, 1) := by decide +kernel
theorem dX11_given_23 : decode cX11_given 23 = .ok (.iconst 5, 1) := by decide +kernel
theorem dX11_given_24 : decode cX11_given 24 = .ok (.invokestatic 59, 3) := by decide +kernel
theorem dX11_given_27 : decode cX11_given 27 = .ok (.ifCond .eq 11, 3) := by decide +kernel
theorem dX11_given_30 : decode cX11_given 30 = .ok (.iload 4, 2) := by decide +kernel
theorem dX11_given_32 : decode cX11_given 32 = .ok (.invokestatic 79, 3) := by decide +kernel
theorem dX11_given_35 : decode cX11_given 35 = .ok (.ifCond .eq 7, 3) := by decide +kernel
theorem dX11_given_38 : decode cX11_given 38 = .ok (.iconst 1, 1) := by decide +kernel
theorem dX11_given_39 : decode cX11_given 39 = .ok (.goto 4, 3) := by decide +kernel
theorem dX11_given_42 : decode cX11_given 42 = .ok (.iconst 0, 1) := by decide +kernel
theorem dX11_given_43 : decode cX11_given 43 = .ok (.iconst 1, 1) := by decide +kernel
theorem dX11_given_44 : decode cX11_given 44 = .ok (.invokevirtual 76, 3) := by decide +kernel
theorem dX11_given_47 : decode cX11_given 47 = .ok (.ifCond .eq 5, 3) := by decide +kernel
theorem dX11_given_50 : decode cX11_given 50 = .ok (.iconst 0, 1) := by decide +kernel
theorem dX11_given_51 : decode cX11_given 51 = .ok (.ireturn, 1) := by decide +kernel
theorem dX11_given_52 : decode cX11_given 52 = .ok (.iload_n 1, 1) := by decide +kernel
theorem dX11_given_53 : decode cX11_given 53 = .ok (.iload_n 2, 1) := by decide +kernel
theorem dX11_given_54 : decode cX11_given 54 = .ok (.iload_n 3, 1) := by decide +kernel
theorem dX11_given_55 : decode cX11_given 55 = .ok (.sipush (-1000), 3) := by decide +kernel
theorem dX11_given_58 : decode cX11_given 58 = .ok (.if_icmp .ne 7, 3) := by decide +kernel
theorem dX11_given_61 : decode cX11_given 61 = .ok (.iconst 0, 1) := by decide +kernel
theorem dX11_given_62 : decode cX11_given 62 = .ok (.goto 4, 3) := by decide +kernel
theorem dX11_given_65 : decode cX11_given 65 = .ok (.iload_n 3, 1) := by decide +kernel
theorem dX11_given_66 : decode cX11_given 66 = .ok (.iload 4, 2) := by decide +kernel
theorem dX11_given_68 : decode cX11_given 68 = .ok (.invokestatic 115, 3) := by decide +kernel
theorem dX11_given_71 : decode cX11_given 71 = .ok (.istore 5, 2) := by decide +kernel
theorem dX11_given_73 : decode cX11_given 73 = .ok (.iload 5, 2) := by decide +kernel
theorem dX11_given_75 : decode cX11_given 75 = .ok (.ldc 67, 2) := by decide +kernel
theorem dX11_given_77 : decode cX11_given 77 = .ok (.if_icmp .ne 8, 3) := by decide +kernel
theorem dX11_given_80 : decode cX11_given 80 = .ok (.bipush (-9), 2) := by decide +kernel
theorem dX11_given_82 : decode cX11_given 82 = .ok (.goto 5, 3) := by decide +kernel
theorem dX11_given_85 : decode cX11_given 85 = .ok (.iload 5, 2) := by decide +kernel
theorem dX11_given_87 : decode cX11_given 87 = .ok (.ireturn, 1) := by decide +kernel
theorem dX11_tested_0 : decode cX11_tested 0 = .ok (.aload_n 0, 1) := by decide +kernel
theorem dX11_tested_1 : decode cX11_tested 1 = .ok (.iload_n 1, 1) := by decide +kernel
theorem dX11_tested_2 : decode cX11_tested 2 = .ok (.iconst 0, 1) := by decide +kernel
theorem dX11_tested_3 : decode cX11_tested 3 = .ok (.iconst 5, 1) := by decide +kernel
theorem dX11_tested_4 : decode cX11_tested 4 = .ok (.invokestatic 59, 3) := by decide +kernel
theorem dX11_tested_7 : decode cX11_tested 7 = .ok (.ifCond .eq 17, 3) := by decide +kernel
theorem dX11_tested_10 : decode cX11_tested 10 = .ok (.iload_n 2, 1) := by decide +kernel
theorem dX11_tested_11 : decode cX11_tested 11 = .ok (.invokestatic 79, 3) := by decide +kernel
theorem dX11_tested_14 : decode cX11_tested 14 = .ok (.ifCond .ne 10, 3) := by decide +kernel
theorem dX11_tested_17 : decode cX11_tested 17 = .ok (.iload_n 3, 1) := by decide +kernel
theorem dX11_tested_18 : decode cX11_tested 18 = .ok (.invokestatic 79, 3) := by decide +kernel
theorem dX11_tested_21 : decode cX11_tested 21 = .ok (.ifCond .eq 7, 3) := by decide +kernel
theorem dX11_tested_24 : decode cX11_tested 24 = .ok (.iconst 1, 1) := by decide +kernel
theorem dX11_tested_25 : decode cX11_tested 25 = .ok (.goto 4, 3) := by decide +kernel
theorem dX11_tested_28 : decode cX11_tested 28 = .ok (.iconst 0, 1) := by decide +kernel
theorem dX11_tested_29 : decode cX11_tested 29 = .ok (.iconst 1, 1) := by decide +kernel
theorem dX11_tested_30 : decode cX11_tested 30 = .ok (.invokevirtual 76, 3) := by decide +kernel
theorem dX11_tested_33 : decode cX11_tested 33 = .ok (.ifCond .eq 5, 3) := by decide +kernel
theorem dX11_tested_36 : decode cX11_tested 36 = .ok (.iconst 0, 1) := by decide +kernel
theorem dX11_tested_37 : decode cX11_tested 37 = .ok (.ireturn, 1) := by decide +kernel
theorem dX11_tested_38 : decode cX11_tested 38 = .ok (.iload_n 1, 1) := by decide +kernel
theorem dX11_tested_39 : decode cX11_tested 39 = .ok (.iload_n 2, 1) := by decide +kernel
theorem dX11_tested_40 : decode cX11_tested 40 = .ok (.iload_n 3, 1) := by decide +kernel
theorem dX11_tested_41 : decode cX11_tested 41 = .ok (.invokestatic 112, 3) := by decide +kernel
theorem dX11_tested_44 : decode cX11_tested 44 = .ok (.istore 4, 2) := by decide +kernel
theorem dX11_tested_46 : decode cX11_tested 46 = .ok (.iload 4, 2) := by decide +kernel
theorem dX11_tested_48 : decode cX11_tested 48 = .ok (.ldc 67, 2) := by decide +kernel
theorem dX11_tested_50 : decode cX11_tested 50 = .ok (.if_icmp .ne 8, 3) := by decide +kernel
theorem dX11_tested_53 : decode cX11_tested 53 = .ok (.bipush (-9), 2) := by decide +kernel
theorem dX11_tested_55 : decode cX11_tested 55 = .ok (.goto 5, 3) := by decide +kernel
theorem dX11_tested_58 : decode cX11_tested 58 = .ok (.iload 4, 2) := by decide +kernel
theorem dX11_tested_60 : decode cX11_tested 60 = .ok (.ireturn, 1) := by decide +kernel
theorem dX11_knock_0 : decode cX11_knock 0 = .ok (.aload_n 0, 1) := by decide +kernel
theorem dX11_knock_1 : decode cX11_knock 1 = .ok (.iconst 0, 1) := by decide +kernel
theorem dX11_knock_2 : decode cX11_knock 2 = .ok (.putfield 48, 3) := by decide +kernel
theorem dX11_knock_5 : decode cX11_knock 5 = .ok (.aload_n 0, 1) := by decide +kernel
theorem dX11_knock_6 : decode cX11_knock 6 = .ok (.dup, 1) := by decide +kernel
theorem dX11_knock_7 : decode cX11_knock 7 = .ok (.getfield 234, 3) := by decide +kernel
theorem dX11_knock_10 : decode cX11_knock 10 = .ok (.iconst 1, 1) := by decide +kernel
theorem dX11_knock_11 : decode cX11_knock 11 = .ok (.iadd, 1) := by decide +kernel
theorem dX11_knock_12 : decode cX11_knock 12 = .ok (.putfield 234, 3) := by decide +kernel
theorem dX11_knock_15 : decode cX11_knock 15 = .ok (.aload_n 0, 1) := by decide +kernel
theorem dX11_knock_16 : decode cX11_knock 16 = .ok (.getfield 234, 3) := by decide +kernel
theorem dX11_knock_19 : decode cX11_knock 19 = .ok (.ireturn, 1) := by decide +kernel
theorem dX11_houseTold_0 : decode cX11_houseTold 0 = .ok (.iconst 0, 1) := by decide +kernel
theorem dX11_houseTold_1 : decode cX11_houseTold 1 = .ok (.istore_n 2, 1) := by decide +kernel
theorem dX11_houseTold_2 : decode cX11_houseTold 2 = .ok (.aload_n 0, 1) := by decide +kernel
theorem dX11_houseTold_3 : decode cX11_houseTold 3 = .ok (.getfield 34, 3) := by decide +kernel
theorem dX11_houseTold_6 : decode cX11_houseTold 6 = .ok (.invokevirtual 162, 3) := by decide +kernel
theorem dX11_houseTold_9 : decode cX11_houseTold 9 = .ok (.astore_n 3, 1) := by decide +kernel
theorem dX11_houseTold_10 : decode cX11_houseTold 10 = .ok (.aload_n 3, 1) := by decide +kernel
theorem dX11_houseTold_11 : decode cX11_houseTold 11 = .ok (.invokeinterface 166 1, 5) := by decide +kernel
theorem dX11_houseTold_16 : decode cX11_houseTold 16 = .ok (.ifCond .eq 25, 3) := by decide +kernel
theorem dX11_houseTold_19 : decode cX11_houseTold 19 = .ok (.aload_n 3, 1) := by decide +kernel
theorem dX11_houseTold_20 : decode cX11_houseTold 20 = .ok (.invokeinterface 172 1, 5) := by decide +kernel
theorem dX11_houseTold_25 : decode cX11_houseTold 25 = .ok (.checkcast 18, 3) := by decide +kernel
theorem dX11_houseTold_28 : decode cX11_houseTold 28 = .ok (.astore 4, 2) := by decide +kernel
theorem dX11_houseTold_30 : decode cX11_houseTold 30 = .ok (.iload_n 2, 1) := by decide +kernel
theorem dX11_houseTold_31 : decode cX11_houseTold 31 = .ok (.aload 4, 2) := by decide +kernel
theorem dX11_houseTold_33 : decode cX11_houseTold 33 = .ok (.invokevirtual 86, 3) := by decide +kernel
theorem dX11_houseTold_36 : decode cX11_houseTold 36 = .ok (.iadd, 1) := by decide +kernel
theorem dX11_houseTold_37 : decode cX11_houseTold 37 = .ok (.istore_n 2, 1) := by decide +kernel
theorem dX11_houseTold_38 : decode cX11_houseTold 38 = .ok (.goto (-28), 3) := by decide +kernel
theorem dX11_houseTold_41 : decode cX11_houseTold 41 = .ok (.iconst 5, 1) := by decide +kernel
theorem dX11_houseTold_42 : decode cX11_houseTold 42 = .ok (.newarray .int, 2) := by decide +kernel
theorem dX11_houseTold_44 : decode cX11_houseTold 44 = .ok (.dup, 1) := by decide +kernel
theorem dX11_houseTold_45 : decode cX11_houseTold 45 = .ok (.iconst 0, 1) := by decide +kernel
theorem dX11_houseTold_46 : decode cX11_houseTold 46 = .ok (.aload_n 0, 1) := by decide +kernel
theorem dX11_houseTold_47 : decode cX11_houseTold 47 = .ok (.getfield 21, 3) := by decide +kernel
theorem dX11_houseTold_50 : decode cX11_houseTold 50 = .ok (.iconst 0, 1) := by decide +kernel
theorem dX11_houseTold_51 : decode cX11_houseTold 51 = .ok (.invokevirtual 82, 3) := by decide +kernel
theorem dX11_houseTold_54 : decode cX11_houseTold 54 = .ok (.checkcast 18, 3) := by decide +kernel
theorem dX11_houseTold_57 : decode cX11_houseTold 57 = .ok (.invokevirtual 86, 3) := by decide +kernel
theorem dX11_houseTold_60 : decode cX11_houseTold 60 = .ok (.aload_n 0, 1) := by decide +kernel
theorem dX11_houseTold_61 : decode cX11_houseTold 61 = .ok (.getfield 21, 3) := by decide +kernel
theorem dX11_houseTold_64 : decode cX11_houseTold 64 = .ok (.iconst 1, 1) := by decide +kernel
theorem dX11_houseTold_65 : decode cX11_houseTold 65 = .ok (.invokevirtual 82, 3) := by decide +kernel
theorem dX11_houseTold_68 : decode cX11_houseTold 68 = .ok (.checkcast 18, 3) := by decide +kernel
theorem dX11_houseTold_71 : decode cX11_houseTold 71 = .ok (.invokevirtual 86, 3) := by decide +kernel
theorem dX11_houseTold_74 : decode cX11_houseTold 74 = .ok (.iadd, 1) := by decide +kernel
theorem dX11_houseTold_75 : decode cX11_houseTold 75 = .ok (.iastore, 1) := by decide +kernel
theorem dX11_houseTold_76 : decode cX11_houseTold 76 = .ok (.dup, 1) := by decide +kernel
theorem dX11_houseTold_77 : decode cX11_houseTold 77 = .ok (.iconst 1, 1) := by decide +kernel
theorem dX11_houseTold_78 : decode cX11_houseTold 78 = .ok (.iload_n 2, 1) := by decide +kernel
theorem dX11_houseTold_79 : decode cX11_houseTold 79 = .ok (.iastore, 1) := by decide +kernel
theorem dX11_houseTold_80 : decode cX11_houseTold 80 = .ok (.dup, 1) := by decide +kernel
theorem dX11_houseTold_81 : decode cX11_houseTold 81 = .ok (.iconst 2, 1) := by decide +kernel
theorem dX11_houseTold_82 : decode cX11_houseTold 82 = .ok (.aload_n 0, 1) := by decide +kernel
theorem dX11_houseTold_83 : decode cX11_houseTold 83 = .ok (.getfield 40, 3) := by decide +kernel
theorem dX11_houseTold_86 : decode cX11_houseTold 86 = .ok (.iconst 0, 1) := by decide +kernel
theorem dX11_houseTold_87 : decode cX11_houseTold 87 = .ok (.aaload, 1) := by decide +kernel
theorem dX11_houseTold_88 : decode cX11_houseTold 88 = .ok (.getfield 193, 3) := by decide +kernel
theorem dX11_houseTold_91 : decode cX11_houseTold 91 = .ok (.aload_n 0, 1) := by decide +kernel
theorem dX11_houseTold_92 : decode cX11_houseTold 92 = .ok (.getfield 40, 3) := by decide +kernel
theorem dX11_houseTold_95 : decode cX11_houseTold 95 = .ok (.iconst 1, 1) := by decide +kernel
theorem dX11_houseTold_96 : decode cX11_houseTold 96 = .ok (.aaload, 1) := by decide +kernel
theorem dX11_houseTold_97 : decode cX11_houseTold 97 = .ok (.getfield 193, 3) := by decide +kernel
theorem dX11_houseTold_100 : decode cX11_houseTold 100 = .ok (.iadd, 1) := by decide +kernel
theorem dX11_houseTold_101 : decode cX11_houseTold 101 = .ok (.iastore, 1) := by decide +kernel
theorem dX11_houseTold_102 : decode cX11_houseTold 102 = .ok (.dup, 1) := by decide +kernel
theorem dX11_houseTold_103 : decode cX11_houseTold 103 = .ok (.iconst 3, 1) := by decide +kernel
theorem dX11_houseTold_104 : decode cX11_houseTold 104 = .ok (.aload_n 0, 1) := by decide +kernel
theorem dX11_houseTold_105 : decode cX11_houseTold 105 = .ok (.getfield 56, 3) := by decide +kernel
theorem dX11_houseTold_108 : decode cX11_houseTold 108 = .ok (.iastore, 1) := by decide +kernel
theorem dX11_houseTold_109 : decode cX11_houseTold 109 = .ok (.dup, 1) := by decide +kernel
theorem dX11_houseTold_110 : decode cX11_houseTold 110 = .ok (.iconst 4, 1) := by decide +kernel
theorem dX11_houseTold_111 : decode cX11_houseTold 111 = .ok (.aload_n 0, 1) := by decide +kernel
theorem dX11_houseTold_112 : decode cX11_houseTold 112 = .ok (.getfield 234, 3) := by decide +kernel
theorem dX11_houseTold_115 : decode cX11_houseTold 115 = .ok (.iastore, 1) := by decide +kernel
theorem dX11_houseTold_116 : decode cX11_houseTold 116 = .ok (.astore_n 3, 1) := by decide +kernel
theorem dX11_houseTold_117 : decode cX11_houseTold 117 = .ok (.aload_n 3, 1) := by decide +kernel
theorem dX11_houseTold_118 : decode cX11_houseTold 118 = .ok (.iload_n 1, 1) := by decide +kernel
theorem dX11_houseTold_119 : decode cX11_houseTold 119 = .ok (.iaload, 1) := by decide +kernel
theorem dX11_houseTold_120 : decode cX11_houseTold 120 = .ok (.ireturn, 1) := by decide +kernel
theorem dX11_house_0 : decode cX11_house 0 = .ok (.aload_n 0, 1) := by decide +kernel
theorem dX11_house_1 : decode cX11_house 1 = .ok (.iload_n 1, 1) := by decide +kernel
theorem dX11_house_2 : decode cX11_house 2 = .ok (.iconst 0, 1) := by decide +kernel
theorem dX11_house_3 : decode cX11_house 3 = .ok (.iconst 4, 1) := by decide +kernel
theorem dX11_house_4 : decode cX11_house 4 = .ok (.invokestatic 59, 3) := by decide +kernel
theorem dX11_house_7 : decode cX11_house 7 = .ok (.ifCond .ne 7, 3) := by decide +kernel
theorem dX11_house_10 : decode cX11_house 10 = .ok (.iconst 1, 1) := by decide +kernel
theorem dX11_house_11 : decode cX11_house 11 = .ok (.goto 4, 3) := by decide +kernel
theorem dX11_house_14 : decode cX11_house 14 = .ok (.iconst 0, 1) := by decide +kernel
theorem dX11_house_15 : decode cX11_house 15 = .ok (.iconst 1, 1) := by decide +kernel
theorem dX11_house_16 : decode cX11_house 16 = .ok (.invokevirtual 76, 3) := by decide +kernel
theorem dX11_house_19 : decode cX11_house 19 = .ok (.ifCond .eq 7, 3) := by decide +kernel
theorem dX11_house_22 : decode cX11_house 22 = .ok (.iconst 0, 1) := by decide +kernel
theorem dX11_house_23 : decode cX11_house 23 = .ok (.goto 8, 3) := by decide +kernel
theorem dX11_house_26 : decode cX11_house 26 = .ok (.aload_n 0, 1) := by decide +kernel
theorem dX11_house_27 : decode cX11_house 27 = .ok (.iload_n 1, 1) := by decide +kernel
theorem dX11_house_28 : decode cX11_house 28 = .ok (.invokevirtual 237, 3) := by decide +kernel
theorem dX11_house_31 : decode cX11_house 31 = .ok (.ireturn, 1) := by decide +kernel
theorem dX11_isTrue_0 : decode cX11_isTrue 0 = .ok (.iconst 1, 1) := by decide +kernel
theorem dX11_isTrue_1 : decode cX11_isTrue 1 = .ok (.istore_n 1, 1) := by decide +kernel
theorem dX11_isTrue_2 : decode cX11_isTrue 2 = .ok (.iload_n 1, 1) := by decide +kernel
theorem dX11_isTrue_3 : decode cX11_isTrue 3 = .ok (.aload_n 0, 1) := by decide +kernel
theorem dX11_isTrue_4 : decode cX11_isTrue 4 = .ok (.getfield 34, 3) := by decide +kernel
theorem dX11_isTrue_7 : decode cX11_isTrue 7 = .ok (.iconst 2, 1) := by decide +kernel
theorem dX11_isTrue_8 : decode cX11_isTrue 8 = .ok (.invokevirtual 82, 3) := by decide +kernel
theorem dX11_isTrue_11 : decode cX11_isTrue 11 = .ok (.checkcast 18, 3) := by decide +kernel
theorem dX11_isTrue_14 : decode cX11_isTrue 14 = .ok (.invokevirtual 86, 3) := by decide +kernel
theorem dX11_isTrue_17 : decode cX11_isTrue 17 = .ok (.if_icmp .ge 56, 3) := by decide +kernel
theorem dX11_isTrue_20 : decode cX11_isTrue 20 = .ok (.aload_n 0, 1) := by decide +kernel
theorem dX11_isTrue_21 : decode cX11_isTrue 21 = .ok (.getfield 34, 3) := by decide +kernel
theorem dX11_isTrue_24 : decode cX11_isTrue 24 = .ok (.iconst 2, 1) := by decide +kernel
theorem dX11_isTrue_25 : decode cX11_isTrue 25 = .ok (.invokevirtual 82, 3) := by decide +kernel
theorem dX11_isTrue_28 : decode cX11_isTrue 28 = .ok (.checkcast 18, 3) := by decide +kernel
theorem dX11_isTrue_31 : decode cX11_isTrue 31 = .ok (.iload_n 1, 1) := by decide +kernel
theorem dX11_isTrue_32 : decode cX11_isTrue 32 = .ok (.invokevirtual 82, 3) := by decide +kernel
theorem dX11_isTrue_35 : decode cX11_isTrue 35 = .ok (.checkcast 128, 3) := by decide +kernel
theorem dX11_isTrue_38 : decode cX11_isTrue 38 = .ok (.iconst 0, 1) := by decide +kernel
theorem dX11_isTrue_39 : decode cX11_isTrue 39 = .ok (.iaload, 1) := by decide +kernel
theorem dX11_isTrue_40 : decode cX11_isTrue 40 = .ok (.aload_n 0, 1) := by decide +kernel
theorem dX11_isTrue_41 : decode cX11_isTrue 41 = .ok (.getfield 34, 3) := by decide +kernel
theorem dX11_isTrue_44 : decode cX11_isTrue 44 = .ok (.iconst 2, 1) := by decide +kernel
theorem dX11_isTrue_45 : decode cX11_isTrue 45 = .ok (.invokevirtual 82, 3) := by decide +kernel
theorem dX11_isTrue_48 : decode cX11_isTrue 48 = .ok (.checkcast 18, 3) := by decide +kernel
theorem dX11_isTrue_51 : decode cX11_isTrue 51 = .ok (.iload_n 1, 1) := by decide +kernel
theorem dX11_isTrue_52 : decode cX11_isTrue 52 = .ok (.iconst 1, 1) := by decide +kernel
theorem dX11_isTrue_53 : decode cX11_isTrue 53 = .ok (.isub, 1) := by decide +kernel
theorem dX11_isTrue_54 : decode cX11_isTrue 54 = .ok (.invokevirtual 82, 3) := by decide +kernel
theorem dX11_isTrue_57 : decode cX11_isTrue 57 = .ok (.checkcast 128, 3) := by decide +kernel
theorem dX11_isTrue_60 : decode cX11_isTrue 60 = .ok (.iconst 0, 1) := by decide +kernel
theorem dX11_isTrue_61 : decode cX11_isTrue 61 = .ok (.iaload, 1) := by decide +kernel
theorem dX11_isTrue_62 : decode cX11_isTrue 62 = .ok (.if_icmp .gt 5, 3) := by decide +kernel
theorem dX11_isTrue_65 : decode cX11_isTrue 65 = .ok (.iconst 0, 1) := by decide +kernel
theorem dX11_isTrue_66 : decode cX11_isTrue 66 = .ok (.ireturn, 1) := by decide +kernel
theorem dX11_isTrue_67 : decode cX11_isTrue 67 = .ok (.iinc 1 1, 3) := by decide +kernel
theorem dX11_isTrue_70 : decode cX11_isTrue 70 = .ok (.goto (-68), 3) := by decide +kernel
theorem dX11_isTrue_73 : decode cX11_isTrue 73 = .ok (.iconst 1, 1) := by decide +kernel
theorem dX11_isTrue_74 : decode cX11_isTrue 74 = .ok (.ireturn, 1) := by decide +kernel
theorem dX11_isSound_0 : decode cX11_isSound 0 = .ok (.aload_n 0, 1) := by decide +kernel
theorem dX11_isSound_1 : decode cX11_isSound 1 = .ok (.iconst 0, 1) := by decide +kernel
theorem dX11_isSound_2 : decode cX11_isSound 2 = .ok (.putfield 48, 3) := by decide +kernel
theorem dX11_isSound_5 : decode cX11_isSound 5 = .ok (.aload_n 0, 1) := by decide +kernel
theorem dX11_isSound_6 : decode cX11_isSound 6 = .ok (.invokevirtual 240, 3) := by decide +kernel
theorem dX11_isSound_9 : decode cX11_isSound 9 = .ok (.ireturn, 1) := by decide +kernel
theorem dX11_add_0 : decode cX11_add 0 = .ok (.lload_n 0, 1) := by decide +kernel
theorem dX11_add_1 : decode cX11_add 1 = .ok (.ldc2_w 243, 3) := by decide +kernel
theorem dX11_add_4 : decode cX11_add 4 = .ok (.lmul, 1) := by decide +kernel
theorem dX11_add_5 : decode cX11_add 5 = .ok (.lload_n 2, 1) := by decide +kernel
theorem dX11_add_6 : decode cX11_add 6 = .ok (.ladd, 1) := by decide +kernel
theorem dX11_add_7 : decode cX11_add 7 = .ok (.lreturn, 1) := by decide +kernel
theorem dX11_digest_0 : decode cX11_digest 0 = .ok (.aload_n 0, 1) := by decide +kernel
theorem dX11_digest_1 : decode cX11_digest 1 = .ok (.iconst 0, 1) := by decide +kernel
theorem dX11_digest_2 : decode cX11_digest 2 = .ok (.putfield 48, 3) := by decide +kernel
theorem dX11_digest_5 : decode cX11_digest 5 = .ok (.ldc2_w 245, 3) := by decide +kernel
theorem dX11_digest_8 : decode cX11_digest 8 = .ok (.lstore_n 1, 1) := by decide +kernel
theorem dX11_digest_9 : decode cX11_digest 9 = .ok (.iconst 0, 1) := by decide +kernel
theorem dX11_digest_10 : decode cX11_digest 10 = .ok (.istore_n 3, 1) := by decide +kernel
theorem dX11_digest_11 : decode cX11_digest 11 = .ok (.iload_n 3, 1) := by decide +kernel
theorem dX11_digest_12 : decode cX11_digest 12 = .ok (.iconst 5, 1) := by decide +kernel
theorem dX11_digest_13 : decode cX11_digest 13 = .ok (.if_icmp .ge 20, 3) := by decide +kernel
theorem dX11_digest_16 : decode cX11_digest 16 = .ok (.lload_n 1, 1) := by decide +kernel
theorem dX11_digest_17 : decode cX11_digest 17 = .ok (.aload_n 0, 1) := by decide +kernel
theorem dX11_digest_18 : decode cX11_digest 18 = .ok (.iload_n 3, 1) := by decide +kernel
theorem dX11_digest_19 : decode cX11_digest 19 = .ok (.invokevirtual 237, 3) := by decide +kernel
theorem dX11_digest_22 : decode cX11_digest 22 = .ok (.i2l, 1) := by decide +kernel
theorem dX11_digest_23 : decode cX11_digest 23 = .ok (.invokestatic 247, 3) := by decide +kernel
theorem dX11_digest_26 : decode cX11_digest 26 = .ok (.lstore_n 1, 1) := by decide +kernel
theorem dX11_digest_27 : decode cX11_digest 27 = .ok (.iinc 3 1, 3) := by decide +kernel
theorem dX11_digest_30 : decode cX11_digest 30 = .ok (.goto (-19), 3) := by decide +kernel
theorem dX11_digest_33 : decode cX11_digest 33 = .ok (.iconst 0, 1) := by decide +kernel
theorem dX11_digest_34 : decode cX11_digest 34 = .ok (.istore_n 3, 1) := by decide +kernel
theorem dX11_digest_35 : decode cX11_digest 35 = .ok (.iload_n 3, 1) := by decide +kernel
theorem dX11_digest_36 : decode cX11_digest 36 = .ok (.iconst 2, 1) := by decide +kernel
theorem dX11_digest_37 : decode cX11_digest 37 = .ok (.if_icmp .ge 126, 3) := by decide +kernel
theorem dX11_digest_40 : decode cX11_digest 40 = .ok (.lload_n 1, 1) := by decide +kernel
theorem dX11_digest_41 : decode cX11_digest 41 = .ok (.aload_n 0, 1) := by decide +kernel
theorem dX11_digest_42 : decode cX11_digest 42 = .ok (.getfield 21, 3) := by decide +kernel
theorem dX11_digest_45 : decode cX11_digest 45 = .ok (.iload_n 3, 1) := by decide +kernel
theorem dX11_digest_46 : decode cX11_digest 46 = .ok (.invokevirtual 82, 3) := by decide +kernel
theorem dX11_digest_49 : decode cX11_digest 49 = .ok (.checkcast 18, 3) := by decide +kernel
theorem dX11_digest_52 : decode cX11_digest 52 = .ok (.invokevirtual 86, 3) := by decide +kernel
theorem dX11_digest_55 : decode cX11_digest 55 = .ok (.i2l, 1) := by decide +kernel
theorem dX11_digest_56 : decode cX11_digest 56 = .ok (.invokestatic 247, 3) := by decide +kernel
theorem dX11_digest_59 : decode cX11_digest 59 = .ok (.lstore_n 1, 1) := by decide +kernel
theorem dX11_digest_60 : decode cX11_digest 60 = .ok (.aload_n 0, 1) := by decide +kernel
theorem dX11_digest_61 : decode cX11_digest 61 = .ok (.getfield 21, 3) := by decide +kernel
theorem dX11_digest_64 : decode cX11_digest 64 = .ok (.iload_n 3, 1) := by decide +kernel
theorem dX11_digest_65 : decode cX11_digest 65 = .ok (.invokevirtual 82, 3) := by decide +kernel
theorem dX11_digest_68 : decode cX11_digest 68 = .ok (.checkcast 18, 3) := by decide +kernel
theorem dX11_digest_71 : decode cX11_digest 71 = .ok (.invokevirtual 162, 3) := by decide +kernel
theorem dX11_digest_74 : decode cX11_digest 74 = .ok (.astore 4, 2) := by decide +kernel
theorem dX11_digest_76 : decode cX11_digest 76 = .ok (.aload 4, 2) := by decide +kernel
theorem dX11_digest_78 : decode cX11_digest 78 = .ok (.invokeinterface 166 1, 5) := by decide +kernel
theorem dX11_digest_83 : decode cX11_digest 83 = .ok (.ifCond .eq 29, 3) := by decide +kernel
theorem dX11_digest_86 : decode cX11_digest 86 = .ok (.aload 4, 2) := by decide +kernel
theorem dX11_digest_88 : decode cX11_digest 88 = .ok (.invokeinterface 172 1, 5) := by decide +kernel
theorem dX11_digest_93 : decode cX11_digest 93 = .ok (.checkcast 91, 3) := by decide +kernel
theorem dX11_digest_96 : decode cX11_digest 96 = .ok (.invokevirtual 99, 3) := by decide +kernel
theorem dX11_digest_99 : decode cX11_digest 99 = .ok (.istore 5, 2) := by decide +kernel
theorem dX11_digest_101 : decode cX11_digest 101 = .ok (.lload_n 1, 1) := by decide +kernel
theorem dX11_digest_102 : decode cX11_digest 102 = .ok (.iload 5, 2) := by decide +kernel
theorem dX11_digest_104 : decode cX11_digest 104 = .ok (.i2l, 1) := by decide +kernel
theorem dX11_digest_105 : decode cX11_digest 105 = .ok (.invokestatic 247, 3) := by decide +kernel
theorem dX11_digest_108 : decode cX11_digest 108 = .ok (.lstore_n 1, 1) := by decide +kernel
theorem dX11_digest_109 : decode cX11_digest 109 = .ok (.goto (-33), 3) := by decide +kernel
theorem dX11_digest_112 : decode cX11_digest 112 = .ok (.lload_n 1, 1) := by decide +kernel
theorem dX11_digest_113 : decode cX11_digest 113 = .ok (.aload_n 0, 1) := by decide +kernel
theorem dX11_digest_114 : decode cX11_digest 114 = .ok (.getfield 25, 3) := by decide +kernel
theorem dX11_digest_117 : decode cX11_digest 117 = .ok (.iload_n 3, 1) := by decide +kernel
theorem dX11_digest_118 : decode cX11_digest 118 = .ok (.baload, 1) := by decide +kernel
theorem dX11_digest_119 : decode cX11_digest 119 = .ok (.invokestatic 68, 3) := by decide +kernel
theorem dX11_digest_122 : decode cX11_digest 122 = .ok (.i2l, 1) := by decide +kernel
theorem dX11_digest_123 : decode cX11_digest 123 = .ok (.invokestatic 247, 3) := by decide +kernel
theorem dX11_digest_126 : decode cX11_digest 126 = .ok (.lstore_n 1, 1) := by decide +kernel
theorem dX11_digest_127 : decode cX11_digest 127 = .ok (.iconst 0, 1) := by decide +kernel
theorem dX11_digest_128 : decode cX11_digest 128 = .ok (.istore 4, 2) := by decide +kernel
theorem dX11_digest_130 : decode cX11_digest 130 = .ok (.iload 4, 2) := by decide +kernel
theorem dX11_digest_132 : decode cX11_digest 132 = .ok (.iconst 5, 1) := by decide +kernel
theorem dX11_digest_133 : decode cX11_digest 133 = .ok (.if_icmp .ge 24, 3) := by decide +kernel
theorem dX11_digest_136 : decode cX11_digest 136 = .ok (.lload_n 1, 1) := by decide +kernel
theorem dX11_digest_137 : decode cX11_digest 137 = .ok (.aload_n 0, 1) := by decide +kernel
theorem dX11_digest_138 : decode cX11_digest 138 = .ok (.getfield 31, 3) := by decide +kernel
theorem dX11_digest_141 : decode cX11_digest 141 = .ok (.iload_n 3, 1) := by decide +kernel
theorem dX11_digest_142 : decode cX11_digest 142 = .ok (.aaload, 1) := by decide +kernel
theorem dX11_digest_143 : decode cX11_digest 143 = .ok (.iload 4, 2) := by decide +kernel
theorem dX11_digest_145 : decode cX11_digest 145 = .ok (.iaload, 1) := by decide +kernel
theorem dX11_digest_146 : decode cX11_digest 146 = .ok (.i2l, 1) := by decide +kernel
theorem dX11_digest_147 : decode cX11_digest 147 = .ok (.invokestatic 247, 3) := by decide +kernel
theorem dX11_digest_150 : decode cX11_digest 150 = .ok (.lstore_n 1, 1) := by decide +kernel
theorem dX11_digest_151 : decode cX11_digest 151 = .ok (.iinc 4 1, 3) := by decide +kernel
theorem dX11_digest_154 : decode cX11_digest 154 = .ok (.goto (-24), 3) := by decide +kernel
theorem dX11_digest_157 : decode cX11_digest 157 = .ok (.iinc 3 1, 3) := by decide +kernel
theorem dX11_digest_160 : decode cX11_digest 160 = .ok (.goto (-125), 3) := by decide +kernel
theorem dX11_digest_163 : decode cX11_digest 163 = .ok (.aload_n 0, 1) := by decide +kernel
theorem dX11_digest_164 : decode cX11_digest 164 = .ok (.getfield 34, 3) := by decide +kernel
theorem dX11_digest_167 : decode cX11_digest 167 = .ok (.invokevirtual 162, 3) := by decide +kernel
theorem dX11_digest_170 : decode cX11_digest 170 = .ok (.astore_n 3, 1) := by decide +kernel
theorem dX11_digest_171 : decode cX11_digest 171 = .ok (.aload_n 3, 1) := by decide +kernel
theorem dX11_digest_172 : decode cX11_digest 172 = .ok (.invokeinterface 166 1, 5) := by decide +kernel
theorem dX11_digest_177 : decode cX11_digest 177 = .ok (.ifCond .eq 78, 3) := by decide +kernel
theorem dX11_digest_180 : decode cX11_digest 180 = .ok (.aload_n 3, 1) := by decide +kernel
theorem dX11_digest_181 : decode cX11_digest 181 = .ok (.invokeinterface 172 1, 5) := by decide +kernel
theorem dX11_digest_186 : decode cX11_digest 186 = .ok (.checkcast 18, 3) := by decide +kernel
theorem dX11_digest_189 : decode cX11_digest 189 = .ok (.astore 4, 2) := by decide +kernel
theorem dX11_digest_191 : decode cX11_digest 191 = .ok (.lload_n 1, 1) := by decide +kernel
theorem dX11_digest_192 : decode cX11_digest 192 = .ok (.aload 4, 2) := by decide +kernel
theorem dX11_digest_194 : decode cX11_digest 194 = .ok (.invokevirtual 86, 3) := by decide +kernel
theorem dX11_digest_197 : decode cX11_digest 197 = .ok (.i2l, 1) := by decide +kernel
theorem dX11_digest_198 : decode cX11_digest 198 = .ok (.invokestatic 247, 3) := by decide +kernel
theorem dX11_digest_201 : decode cX11_digest 201 = .ok (.lstore_n 1, 1) := by decide +kernel
theorem dX11_digest_202 : decode cX11_digest 202 = .ok (.aload 4, 2) := by decide +kernel
theorem dX11_digest_204 : decode cX11_digest 204 = .ok (.invokevirtual 162, 3) := by decide +kernel
theorem dX11_digest_207 : decode cX11_digest 207 = .ok (.astore 5, 2) := by decide +kernel
theorem dX11_digest_209 : decode cX11_digest 209 = .ok (.aload 5, 2) := by decide +kernel
theorem dX11_digest_211 : decode cX11_digest 211 = .ok (.invokeinterface 166 1, 5) := by decide +kernel
theorem dX11_digest_216 : decode cX11_digest 216 = .ok (.ifCond .eq 36, 3) := by decide +kernel
theorem dX11_digest_219 : decode cX11_digest 219 = .ok (.aload 5, 2) := by decide +kernel
theorem dX11_digest_221 : decode cX11_digest 221 = .ok (.invokeinterface 172 1, 5) := by decide +kernel
theorem dX11_digest_226 : decode cX11_digest 226 = .ok (.checkcast 128, 3) := by decide +kernel
theorem dX11_digest_229 : decode cX11_digest 229 = .ok (.astore 6, 2) := by decide +kernel
theorem dX11_digest_231 : decode cX11_digest 231 = .ok (.lload_n 1, 1) := by decide +kernel
theorem dX11_digest_232 : decode cX11_digest 232 = .ok (.aload 6, 2) := by decide +kernel
theorem dX11_digest_234 : decode cX11_digest 234 = .ok (.iconst 0, 1) := by decide +kernel
theorem dX11_digest_235 : decode cX11_digest 235 = .ok (.iaload, 1) := by decide +kernel
theorem dX11_digest_236 : decode cX11_digest 236 = .ok (.i2l, 1) := by decide +kernel
theorem dX11_digest_237 : decode cX11_digest 237 = .ok (.invokestatic 247, 3) := by decide +kernel
theorem dX11_digest_240 : decode cX11_digest 240 = .ok (.aload 6, 2) := by decide +kernel
theorem dX11_digest_242 : decode cX11_digest 242 = .ok (.iconst 1, 1) := by decide +kernel
theorem dX11_digest_243 : decode cX11_digest 243 = .ok (.iaload, 1) := by decide +kernel
theorem dX11_digest_244 : decode cX11_digest 244 = .ok (.i2l, 1) := by decide +kernel
theorem dX11_digest_245 : decode cX11_digest 245 = .ok (.invokestatic 247, 3) := by decide +kernel
theorem dX11_digest_248 : decode cX11_digest 248 = .ok (.lstore_n 1, 1) := by decide +kernel
theorem dX11_digest_249 : decode cX11_digest 249 = .ok (.goto (-40), 3) := by decide +kernel
theorem dX11_digest_252 : decode cX11_digest 252 = .ok (.goto (-81), 3) := by decide +kernel
theorem dX11_digest_255 : decode cX11_digest 255 = .ok (.iconst 0, 1) := by decide +kernel
theorem dX11_digest_256 : decode cX11_digest 256 = .ok (.istore_n 3, 1) := by decide +kernel
theorem dX11_digest_257 : decode cX11_digest 257 = .ok (.iload_n 3, 1) := by decide +kernel
theorem dX11_digest_258 : decode cX11_digest 258 = .ok (.bipush 7, 2) := by decide +kernel
theorem dX11_digest_260 : decode cX11_digest 260 = .ok (.if_icmp .ge 23, 3) := by decide +kernel
theorem dX11_digest_263 : decode cX11_digest 263 = .ok (.lload_n 1, 1) := by decide +kernel
theorem dX11_digest_264 : decode cX11_digest 264 = .ok (.aload_n 0, 1) := by decide +kernel
theorem dX11_digest_265 : decode cX11_digest 265 = .ok (.getfield 31, 3) := by decide +kernel
theorem dX11_digest_268 : decode cX11_digest 268 = .ok (.iconst 2, 1) := by decide +kernel
theorem dX11_digest_269 : decode cX11_digest 269 = .ok (.aaload, 1) := by decide +kernel
theorem dX11_digest_270 : decode cX11_digest 270 = .ok (.iload_n 3, 1) := by decide +kernel
theorem dX11_digest_271 : decode cX11_digest 271 = .ok (.iaload, 1) := by decide +kernel
theorem dX11_digest_272 : decode cX11_digest 272 = .ok (.i2l, 1) := by decide +kernel
theorem dX11_digest_273 : decode cX11_digest 273 = .ok (.invokestatic 247, 3) := by decide +kernel
theorem dX11_digest_276 : decode cX11_digest 276 = .ok (.lstore_n 1, 1) := by decide +kernel
theorem dX11_digest_277 : decode cX11_digest 277 = .ok (.iinc 3 1, 3) := by decide +kernel
theorem dX11_digest_280 : decode cX11_digest 280 = .ok (.goto (-23), 3) := by decide +kernel
theorem dX11_digest_283 : decode cX11_digest 283 = .ok (.iconst 0, 1) := by decide +kernel
theorem dX11_digest_284 : decode cX11_digest 284 = .ok (.istore_n 3, 1) := by decide +kernel
theorem dX11_digest_285 : decode cX11_digest 285 = .ok (.iload_n 3, 1) := by decide +kernel
theorem dX11_digest_286 : decode cX11_digest 286 = .ok (.iconst 2, 1) := by decide +kernel
theorem dX11_digest_287 : decode cX11_digest 287 = .ok (.if_icmp .ge 55, 3) := by decide +kernel
theorem dX11_digest_290 : decode cX11_digest 290 = .ok (.iconst 0, 1) := by decide +kernel
theorem dX11_digest_291 : decode cX11_digest 291 = .ok (.istore 4, 2) := by decide +kernel
theorem dX11_digest_293 : decode cX11_digest 293 = .ok (.iload 4, 2) := by decide +kernel
theorem dX11_digest_295 : decode cX11_digest 295 = .ok (.iconst 4, 1) := by decide +kernel
theorem dX11_digest_296 : decode cX11_digest 296 = .ok (.if_icmp .ge 22, 3) := by decide +kernel
theorem dX11_digest_299 : decode cX11_digest 299 = .ok (.lload_n 1, 1) := by decide +kernel
theorem dX11_digest_300 : decode cX11_digest 300 = .ok (.aload_n 0, 1) := by decide +kernel
theorem dX11_digest_301 : decode cX11_digest 301 = .ok (.iload_n 3, 1) := by decide +kernel
theorem dX11_digest_302 : decode cX11_digest 302 = .ok (.iload 4, 2) := by decide +kernel
theorem dX11_digest_304 : decode cX11_digest 304 = .ok (.invokevirtual 205, 3) := by decide +kernel
theorem dX11_digest_307 : decode cX11_digest 307 = .ok (.i2l, 1) := by decide +kernel
theorem dX11_digest_308 : decode cX11_digest 308 = .ok (.invokestatic 247, 3) := by decide +kernel
theorem dX11_digest_311 : decode cX11_digest 311 = .ok (.lstore_n 1, 1) := by decide +kernel
theorem dX11_digest_312 : decode cX11_digest 312 = .ok (.iinc 4 1, 3) := by decide +kernel
theorem dX11_digest_315 : decode cX11_digest 315 = .ok (.goto (-22), 3) := by decide +kernel
theorem dX11_digest_318 : decode cX11_digest 318 = .ok (.lload_n 1, 1) := by decide +kernel
theorem dX11_digest_319 : decode cX11_digest 319 = .ok (.aload_n 0, 1) := by decide +kernel
theorem dX11_digest_320 : decode cX11_digest 320 = .ok (.getfield 40, 3) := by decide +kernel
theorem dX11_digest_323 : decode cX11_digest 323 = .ok (.iload_n 3, 1) := by decide +kernel
theorem dX11_digest_324 : decode cX11_digest 324 = .ok (.aaload, 1) := by decide +kernel
theorem dX11_digest_325 : decode cX11_digest 325 = .ok (.invokevirtual 210, 3) := by decide +kernel
theorem dX11_digest_328 : decode cX11_digest 328 = .ok (.invokevirtual 250, 3) := by decide +kernel
theorem dX11_digest_331 : decode cX11_digest 331 = .ok (.i2l, 1) := by decide +kernel
theorem dX11_digest_332 : decode cX11_digest 332 = .ok (.invokestatic 247, 3) := by decide +kernel
theorem dX11_digest_335 : decode cX11_digest 335 = .ok (.lstore_n 1, 1) := by decide +kernel
theorem dX11_digest_336 : decode cX11_digest 336 = .ok (.iinc 3 1, 3) := by decide +kernel
theorem dX11_digest_339 : decode cX11_digest 339 = .ok (.goto (-54), 3) := by decide +kernel
theorem dX11_digest_342 : decode cX11_digest 342 = .ok (.lload_n 1, 1) := by decide +kernel
theorem dX11_digest_343 : decode cX11_digest 343 = .ok (.aload_n 0, 1) := by decide +kernel
theorem dX11_digest_344 : decode cX11_digest 344 = .ok (.invokevirtual 240, 3) := by decide +kernel
theorem dX11_digest_347 : decode cX11_digest 347 = .ok (.invokestatic 68, 3) := by decide +kernel
theorem dX11_digest_350 : decode cX11_digest 350 = .ok (.i2l, 1) := by decide +kernel
theorem dX11_digest_351 : decode cX11_digest 351 = .ok (.invokestatic 247, 3) := by decide +kernel
theorem dX11_digest_354 : decode cX11_digest 354 = .ok (.lreturn, 1) := by decide +kernel
