theorem dX0_init_0 : decode cX0_init 0 = .ok (.aload_n 0, 1) := by decide +kernel
theorem dX0_init_1 : decode cX0_init 1 = .ok (.invokespecial 3, 3) := by decide +kernel
theorem dX0_init_4 : decode cX0_init 4 = .ok (.aload_n 0, 1) := by decide +kernel
theorem dX0_init_5 : decode cX0_init 5 = .ok (.bipush 12, 2) := by decide +kernel
theorem dX0_init_7 : decode cX0_init 7 = .ok (.newarray .int, 2) := by decide +kernel
theorem dX0_init_9 : decode cX0_init 9 = .ok (.putfield 11, 3) := by decide +kernel
theorem dX0_init_12 : decode cX0_init 12 = .ok (.aload_n 0, 1) := by decide +kernel
theorem dX0_init_13 : decode cX0_init 13 = .ok (.bipush 12, 2) := by decide +kernel
theorem dX0_init_15 : decode cX0_init 15 = .ok (.newarray .int, 2) := by decide +kernel
theorem dX0_init_17 : decode cX0_init 17 = .ok (.putfield 15, 3) := by decide +kernel
theorem dX0_init_20 : decode cX0_init 20 = .ok (.return_, 1) := by decide +kernel
theorem dX0_append_0 : decode cX0_append 0 = .ok (.aload_n 0, 1) := by decide +kernel
theorem dX0_append_1 : decode cX0_append 1 = .ok (.getfield 18, 3) := by decide +kernel
theorem dX0_append_4 : decode cX0_append 4 = .ok (.ifCond .lt 12, 3) := by decide +kernel
theorem dX0_append_7 : decode cX0_append 7 = .ok (.aload_n 0, 1) := by decide +kernel
theorem dX0_append_8 : decode cX0_append 8 = .ok (.getfield 18, 3) := by decide +kernel
theorem dX0_append_11 : decode cX0_append 11 = .ok (.bipush 12, 2) := by decide +kernel
theorem dX0_append_13 : decode cX0_append 13 = .ok (.if_icmp .lt 5, 3) := by decide +kernel
theorem dX0_append_16 : decode cX0_append 16 = .ok (.iconst 0, 1) := by decide +kernel
theorem dX0_append_17 : decode cX0_append 17 = .ok (.ireturn, 1) := by decide +kernel
theorem dX0_append_18 : decode cX0_append 18 = .ok (.aload_n 0, 1) := by decide +kernel
theorem dX0_append_19 : decode cX0_append 19 = .ok (.getfield 11, 3) := by decide +kernel
theorem dX0_append_22 : decode cX0_append 22 = .ok (.aload_n 0, 1) := by decide +kernel
theorem dX0_append_23 : decode cX0_append 23 = .ok (.getfield 18, 3) := by decide +kernel
theorem dX0_append_26 : decode cX0_append 26 = .ok (.iload_n 1, 1) := by decide +kernel
theorem dX0_append_27 : decode cX0_append 27 = .ok (.iastore, 1) := by decide +kernel
theorem dX0_append_28 : decode cX0_append 28 = .ok (.aload_n 0, 1) := by decide +kernel
theorem dX0_append_29 : decode cX0_append 29 = .ok (.getfield 15, 3) := by decide +kernel
theorem dX0_append_32 : decode cX0_append 32 = .ok (.aload_n 0, 1) := by decide +kernel
theorem dX0_append_33 : decode cX0_append 33 = .ok (.getfield 18, 3) := by decide +kernel
theorem dX0_append_36 : decode cX0_append 36 = .ok (.iload_n 2, 1) := by decide +kernel
theorem dX0_append_37 : decode cX0_append 37 = .ok (.iastore, 1) := by decide +kernel
theorem dX0_append_38 : decode cX0_append 38 = .ok (.aload_n 0, 1) := by decide +kernel
theorem dX0_append_39 : decode cX0_append 39 = .ok (.dup, 1) := by decide +kernel
theorem dX0_append_40 : decode cX0_append 40 = .ok (.getfield 18, 3) := by decide +kernel
theorem dX0_append_43 : decode cX0_append 43 = .ok (.iconst 1, 1) := by decide +kernel
theorem dX0_append_44 : decode cX0_append 44 = .ok (.iadd, 1) := by decide +kernel
theorem dX0_append_45 : decode cX0_append 45 = .ok (.putfield 18, 3) := by decide +kernel
theorem dX0_append_48 : decode cX0_append 48 = .ok (.iconst 1, 1) := by decide +kernel
theorem dX0_append_49 : decode cX0_append 49 = .ok (.ireturn, 1) := by decide +kernel
theorem dX0_copyFrom_0 : decode cX0_copyFrom 0 = .ok (.aload_n 0, 1) := by decide +kernel
theorem dX0_copyFrom_1 : decode cX0_copyFrom 1 = .ok (.aload_n 1, 1) := by decide +kernel
theorem dX0_copyFrom_2 : decode cX0_copyFrom 2 = .ok (.getfield 18, 3) := by decide +kernel
theorem dX0_copyFrom_5 : decode cX0_copyFrom 5 = .ok (.putfield 18, 3) := by decide +kernel
theorem dX0_copyFrom_8 : decode cX0_copyFrom 8 = .ok (.iconst 0, 1) := by decide +kernel
theorem dX0_copyFrom_9 : decode cX0_copyFrom 9 = .ok (.istore_n 2, 1) := by decide +kernel
theorem dX0_copyFrom_10 : decode cX0_copyFrom 10 = .ok (.iload_n 2, 1) := by decide +kernel
theorem dX0_copyFrom_11 : decode cX0_copyFrom 11 = .ok (.bipush 12, 2) := by decide +kernel
theorem dX0_copyFrom_13 : decode cX0_copyFrom 13 = .ok (.if_icmp .ge 33, 3) := by decide +kernel
theorem dX0_copyFrom_16 : decode cX0_copyFrom 16 = .ok (.aload_n 0, 1) := by decide +kernel
theorem dX0_copyFrom_17 : decode cX0_copyFrom 17 = .ok (.getfield 11, 3) := by decide +kernel
theorem dX0_copyFrom_20 : decode cX0_copyFrom 20 = .ok (.iload_n 2, 1) := by decide +kernel
theorem dX0_copyFrom_21 : decode cX0_copyFrom 21 = .ok (.aload_n 1, 1) := by decide +kernel
theorem dX0_copyFrom_22 : decode cX0_copyFrom 22 = .ok (.getfield 11, 3) := by decide +kernel
theorem dX0_copyFrom_25 : decode cX0_copyFrom 25 = .ok (.iload_n 2, 1) := by decide +kernel
theorem dX0_copyFrom_26 : decode cX0_copyFrom 26 = .ok (.iaload, 1) := by decide +kernel
theorem dX0_copyFrom_27 : decode cX0_copyFrom 27 = .ok (.iastore, 1) := by decide +kernel
theorem dX0_copyFrom_28 : decode cX0_copyFrom 28 = .ok (.aload_n 0, 1) := by decide +kernel
theorem dX0_copyFrom_29 : decode cX0_copyFrom 29 = .ok (.getfield 15, 3) := by decide +kernel
theorem dX0_copyFrom_32 : decode cX0_copyFrom 32 = .ok (.iload_n 2, 1) := by decide +kernel
theorem dX0_copyFrom_33 : decode cX0_copyFrom 33 = .ok (.aload_n 1, 1) := by decide +kernel
theorem dX0_copyFrom_34 : decode cX0_copyFrom 34 = .ok (.getfield 15, 3) := by decide +kernel
theorem dX0_copyFrom_37 : decode cX0_copyFrom 37 = .ok (.iload_n 2, 1) := by decide +kernel
theorem dX0_copyFrom_38 : decode cX0_copyFrom 38 = .ok (.iaload, 1) := by decide +kernel
theorem dX0_copyFrom_39 : decode cX0_copyFrom 39 = .ok (.iastore, 1) := by decide +kernel
theorem dX0_copyFrom_40 : decode cX0_copyFrom 40 = .ok (.iinc 2 1, 3) := by decide +kernel
theorem dX0_copyFrom_43 : decode cX0_copyFrom 43 = .ok (.goto (-33), 3) := by decide +kernel
theorem dX0_copyFrom_46 : decode cX0_copyFrom 46 = .ok (.return_, 1) := by decide +kernel
theorem dX0_readingsSeen_0 : decode cX0_readingsSeen 0 = .ok (.iconst 0, 1) := by decide +kernel
theorem dX0_readingsSeen_1 : decode cX0_readingsSeen 1 = .ok (.istore_n 2, 1) := by decide +kernel
theorem dX0_readingsSeen_2 : decode cX0_readingsSeen 2 = .ok (.iconst 0, 1) := by decide +kernel
theorem dX0_readingsSeen_3 : decode cX0_readingsSeen 3 = .ok (.istore_n 3, 1) := by decide +kernel
theorem dX0_readingsSeen_4 : decode cX0_readingsSeen 4 = .ok (.iload_n 3, 1) := by decide +kernel
theorem dX0_readingsSeen_5 : decode cX0_readingsSeen 5 = .ok (.bipush 12, 2) := by decide +kernel
theorem dX0_readingsSeen_7 : decode cX0_readingsSeen 7 = .ok (.if_icmp .ge 26, 3) := by decide +kernel
theorem dX0_readingsSeen_10 : decode cX0_readingsSeen 10 = .ok (.iload_n 2, 1) := by decide +kernel
theorem dX0_readingsSeen_11 : decode cX0_readingsSeen 11 = .ok (.aload_n 0, 1) := by decide +kernel
theorem dX0_readingsSeen_12 : decode cX0_readingsSeen 12 = .ok (.iload_n 3, 1) := by decide +kernel
theorem dX0_readingsSeen_13 : decode cX0_readingsSeen 13 = .ok (.iload_n 1, 1) := by decide +kernel
theorem dX0_readingsSeen_14 : decode cX0_readingsSeen 14 = .ok (.invokevirtual 22, 3) := by decide +kernel
theorem dX0_readingsSeen_17 : decode cX0_readingsSeen 17 = .ok (.ifCond .eq 7, 3) := by decide +kernel
theorem dX0_readingsSeen_20 : decode cX0_readingsSeen 20 = .ok (.iconst 1, 1) := by decide +kernel
theorem dX0_readingsSeen_21 : decode cX0_readingsSeen 21 = .ok (.goto 4, 3) := by decide +kernel
theorem dX0_readingsSeen_24 : decode cX0_readingsSeen 24 = .ok (.iconst 0, 1) := by decide +kernel
theorem dX0_readingsSeen_25 : decode cX0_readingsSeen 25 = .ok (.iadd, 1) := by decide +kernel
theorem dX0_readingsSeen_26 : decode cX0_readingsSeen 26 = .ok (.istore_n 2, 1) := by decide +kernel
theorem dX0_readingsSeen_27 : decode cX0_readingsSeen 27 = .ok (.iinc 3 1, 3) := by decide +kernel
theorem dX0_readingsSeen_30 : decode cX0_readingsSeen 30 = .ok (.goto (-26), 3) := by decide +kernel
theorem dX0_readingsSeen_33 : decode cX0_readingsSeen 33 = .ok (.iload_n 2, 1) := by decide +kernel
theorem dX0_readingsSeen_34 : decode cX0_readingsSeen 34 = .ok (.ireturn, 1) := by decide +kernel
theorem dX0_wrongReadings_0 : decode cX0_wrongReadings 0 = .ok (.iconst 0, 1) := by decide +kernel
theorem dX0_wrongReadings_1 : decode cX0_wrongReadings 1 = .ok (.istore_n 2, 1) := by decide +kernel
theorem dX0_wrongReadings_2 : decode cX0_wrongReadings 2 = .ok (.iconst 0, 1) := by decide +kernel
theorem dX0_wrongReadings_3 : decode cX0_wrongReadings 3 = .ok (.istore_n 3, 1) := by decide +kernel
theorem dX0_wrongReadings_4 : decode cX0_wrongReadings 4 = .ok (.iload_n 3, 1) := by decide +kernel
theorem dX0_wrongReadings_5 : decode cX0_wrongReadings 5 = .ok (.bipush 12, 2) := by decide +kernel
theorem dX0_wrongReadings_7 : decode cX0_wrongReadings 7 = .ok (.if_icmp .ge 54, 3) := by decide +kernel
theorem dX0_wrongReadings_10 : decode cX0_wrongReadings 10 = .ok (.iload_n 3, 1) := by decide +kernel
theorem dX0_wrongReadings_11 : decode cX0_wrongReadings 11 = .ok (.iload_n 1, 1) := by decide +kernel
theorem dX0_wrongReadings_12 : decode cX0_wrongReadings 12 = .ok (.iadd, 1) := by decide +kernel
theorem dX0_wrongReadings_13 : decode cX0_wrongReadings 13 = .ok (.istore 4, 2) := by decide +kernel
theorem dX0_wrongReadings_15 : decode cX0_wrongReadings 15 = .ok (.aload_n 0, 1) := by decide +kernel
theorem dX0_wrongReadings_16 : decode cX0_wrongReadings 16 = .ok (.iload_n 3, 1) := by decide +kernel
theorem dX0_wrongReadings_17 : decode cX0_wrongReadings 17 = .ok (.iload_n 1, 1) := by decide +kernel
theorem dX0_wrongReadings_18 : decode cX0_wrongReadings 18 = .ok (.invokevirtual 22, 3) := by decide +kernel
theorem dX0_wrongReadings_21 : decode cX0_wrongReadings 21 = .ok (.ifCond .eq 34, 3) := by decide +kernel
theorem dX0_wrongReadings_24 : decode cX0_wrongReadings 24 = .ok (.iload 4, 2) := by decide +kernel
theorem dX0_wrongReadings_26 : decode cX0_wrongReadings 26 = .ok (.ifCond .lt 29, 3) := by decide +kernel
theorem dX0_wrongReadings_29 : decode cX0_wrongReadings 29 = .ok (.iload 4, 2) := by decide +kernel
theorem dX0_wrongReadings_31 : decode cX0_wrongReadings 31 = .ok (.bipush 12, 2) := by decide +kernel
theorem dX0_wrongReadings_33 : decode cX0_wrongReadings 33 = .ok (.if_icmp .ge 22, 3) := by decide +kernel
theorem dX0_wrongReadings_36 : decode cX0_wrongReadings 36 = .ok (.aload_n 0, 1) := by decide +kernel
theorem dX0_wrongReadings_37 : decode cX0_wrongReadings 37 = .ok (.getfield 15, 3) := by decide +kernel
theorem dX0_wrongReadings_40 : decode cX0_wrongReadings 40 = .ok (.iload_n 3, 1) := by decide +kernel
theorem dX0_wrongReadings_41 : decode cX0_wrongReadings 41 = .ok (.iaload, 1) := by decide +kernel
theorem dX0_wrongReadings_42 : decode cX0_wrongReadings 42 = .ok (.aload_n 0, 1) := by decide +kernel
theorem dX0_wrongReadings_43 : decode cX0_wrongReadings 43 = .ok (.getfield 11, 3) := by decide +kernel
theorem dX0_wrongReadings_46 : decode cX0_wrongReadings 46 = .ok (.iload 4, 2) := by decide +kernel
theorem dX0_wrongReadings_48 : decode cX0_wrongReadings 48 = .ok (.iaload, 1) := by decide +kernel
theorem dX0_wrongReadings_49 : decode cX0_wrongReadings 49 = .ok (.if_icmp .eq 6, 3) := by decide +kernel
theorem dX0_wrongReadings_52 : decode cX0_wrongReadings 52 = .ok (.iinc 2 1, 3) := by decide +kernel
theorem dX0_wrongReadings_55 : decode cX0_wrongReadings 55 = .ok (.iinc 3 1, 3) := by decide +kernel
theorem dX0_wrongReadings_58 : decode cX0_wrongReadings 58 = .ok (.goto (-54), 3) := by decide +kernel
theorem dX0_wrongReadings_61 : decode cX0_wrongReadings 61 = .ok (.iload_n 2, 1) := by decide +kernel
theorem dX0_wrongReadings_62 : decode cX0_wrongReadings 62 = .ok (.ireturn, 1) := by decide +kernel
theorem dX0_isSeen_0 : decode cX0_isSeen 0 = .ok (.iload_n 1, 1) := by decide +kernel
theorem dX0_isSeen_1 : decode cX0_isSeen 1 = .ok (.ifCond .lt 33, 3) := by decide +kernel
theorem dX0_isSeen_4 : decode cX0_isSeen 4 = .ok (.iload_n 1, 1) := by decide +kernel
theorem dX0_isSeen_5 : decode cX0_isSeen 5 = .ok (.bipush 12, 2) := by decide +kernel
theorem dX0_isSeen_7 : decode cX0_isSeen 7 = .ok (.if_icmp .ge 27, 3) := by decide +kernel
theorem dX0_isSeen_10 : decode cX0_isSeen 10 = .ok (.iload_n 1, 1) := by decide +kernel
theorem dX0_isSeen_11 : decode cX0_isSeen 11 = .ok (.iload_n 2, 1) := by decide +kernel
theorem dX0_isSeen_12 : decode cX0_isSeen 12 = .ok (.iadd, 1) := by decide +kernel
theorem dX0_isSeen_13 : decode cX0_isSeen 13 = .ok (.aload_n 0, 1) := by decide +kernel
theorem dX0_isSeen_14 : decode cX0_isSeen 14 = .ok (.getfield 18, 3) := by decide +kernel
theorem dX0_isSeen_17 : decode cX0_isSeen 17 = .ok (.if_icmp .ge 17, 3) := by decide +kernel
theorem dX0_isSeen_20 : decode cX0_isSeen 20 = .ok (.aload_n 0, 1) := by decide +kernel
theorem dX0_isSeen_21 : decode cX0_isSeen 21 = .ok (.getfield 15, 3) := by decide +kernel
theorem dX0_isSeen_24 : decode cX0_isSeen 24 = .ok (.iload_n 1, 1) := by decide +kernel
theorem dX0_isSeen_25 : decode cX0_isSeen 25 = .ok (.iaload, 1) := by decide +kernel
theorem dX0_isSeen_26 : decode cX0_isSeen 26 = .ok (.iconst (-1), 1) := by decide +kernel
theorem dX0_isSeen_27 : decode cX0_isSeen 27 = .ok (.if_icmp .eq 7, 3) := by decide +kernel
theorem dX0_isSeen_30 : decode cX0_isSeen 30 = .ok (.iconst 1, 1) := by decide +kernel
theorem dX0_isSeen_31 : decode cX0_isSeen 31 = .ok (.goto 4, 3) := by decide +kernel
theorem dX0_isSeen_34 : decode cX0_isSeen 34 = .ok (.iconst 0, 1) := by decide +kernel
theorem dX0_isSeen_35 : decode cX0_isSeen 35 = .ok (.ireturn, 1) := by decide +kernel
theorem dX1_init_0 : decode cX1_init 0 = .ok (.aload_n 0, 1) := by decide +kernel
theorem dX1_init_1 : decode cX1_init 1 = .ok (.iload_n 1, 1) := by decide +kernel
theorem dX1_init_2 : decode cX1_init 2 = .ok (.iload_n 2, 1) := by decide +kernel
theorem dX1_init_3 : decode cX1_init 3 = .ok (.invokespecial 1, 3) := by decide +kernel
theorem dX1_init_6 : decode cX1_init 6 = .ok (.return_, 1) := by decide +kernel
theorem dX1_kindNumber_0 : decode cX1_kindNumber 0 = .ok (.iconst 3, 1) := by decide +kernel
theorem dX1_kindNumber_1 : decode cX1_kindNumber 1 = .ok (.ireturn, 1) := by decide +kernel
theorem dX1_covers_0 : decode cX1_covers 0 = .ok (.aload_n 0, 1) := by decide +kernel
theorem dX1_covers_1 : decode cX1_covers 1 = .ok (.aload_n 1, 1) := by decide +kernel
theorem dX1_covers_2 : decode cX1_covers 2 = .ok (.invokespecial 7, 3) := by decide +kernel
theorem dX1_covers_5 : decode cX1_covers 5 = .ok (.ifCond .ne 7, 3) := by decide +kernel
theorem dX1_covers_8 : decode cX1_covers 8 = .ok (.iconst 1, 1) := by decide +kernel
theorem dX1_covers_9 : decode cX1_covers 9 = .ok (.goto 4, 3) := by decide +kernel
theorem dX1_covers_12 : decode cX1_covers 12 = .ok (.iconst 0, 1) := by decide +kernel
theorem dX1_covers_13 : decode cX1_covers 13 = .ok (.ireturn, 1) := by decide +kernel
theorem dX2_init_0 : decode cX2_init 0 = .ok (.aload_n 0, 1) := by decide +kernel
theorem dX2_init_1 : decode cX2_init 1 = .ok (.iload_n 1, 1) := by decide +kernel
theorem dX2_init_2 : decode cX2_init 2 = .ok (.iload_n 2, 1) := by decide +kernel
theorem dX2_init_3 : decode cX2_init 3 = .ok (.invokespecial 3, 3) := by decide +kernel
theorem dX2_init_6 : decode cX2_init 6 = .ok (.return_, 1) := by decide +kernel
theorem dX2_kindNumber_0 : decode cX2_kindNumber 0 = .ok (.iconst 1, 1) := by decide +kernel
theorem dX2_kindNumber_1 : decode cX2_kindNumber 1 = .ok (.ireturn, 1) := by decide +kernel
theorem dX2_covers_0 : decode cX2_covers 0 = .ok (.aload_n 0, 1) := by decide +kernel
theorem dX2_covers_1 : decode cX2_covers 1 = .ok (.getfield 9, 3) := by decide +kernel
theorem dX2_covers_4 : decode cX2_covers 4 = .ok (.i2l, 1) := by decide +kernel
theorem dX2_covers_5 : decode cX2_covers 5 = .ok (.aload_n 1, 1) := by decide +kernel
theorem dX2_covers_6 : decode cX2_covers 6 = .ok (.iconst 1, 1) := by decide +kernel
theorem dX2_covers_7 : decode cX2_covers 7 = .ok (.iconst 1, 1) := by decide +kernel
theorem dX2_covers_8 : decode cX2_covers 8 = .ok (.invokevirtual 15, 3) := by decide +kernel
theorem dX2_covers_11 : decode cX2_covers 11 = .ok (.lmul, 1) := by decide +kernel
theorem dX2_covers_12 : decode cX2_covers 12 = .ok (.aload_n 0, 1) := by decide +kernel
theorem dX2_covers_13 : decode cX2_covers 13 = .ok (.getfield 21, 3) := by decide +kernel
theorem dX2_covers_16 : decode cX2_covers 16 = .ok (.i2l, 1) := by decide +kernel
theorem dX2_covers_17 : decode cX2_covers 17 = .ok (.aload_n 1, 1) := by decide +kernel
theorem dX2_covers_18 : decode cX2_covers 18 = .ok (.invokevirtual 24, 3) := by decide +kernel
theorem dX2_covers_21 : decode cX2_covers 21 = .ok (.lmul, 1) := by decide +kernel
theorem dX2_covers_22 : decode cX2_covers 22 = .ok (.lcmp, 1) := by decide +kernel
theorem dX2_covers_23 : decode cX2_covers 23 = .ok (.ifCond .le 7, 3) := by decide +kernel
theorem dX2_covers_26 : decode cX2_covers 26 = .ok (.iconst 1, 1) := by decide +kernel
theorem dX2_covers_27 : decode cX2_covers 27 = .ok (.goto 4, 3) := by decide +kernel
theorem dX2_covers_30 : decode cX2_covers 30 = .ok (.iconst 0, 1) := by decide +kernel
theorem dX2_covers_31 : decode cX2_covers 31 = .ok (.ireturn, 1) := by decide +kernel
theorem dX3_init_0 : decode cX3_init 0 = .ok (.aload_n 0, 1) := by decide +kernel
theorem dX3_init_1 : decode cX3_init 1 = .ok (.invokespecial 3, 3) := by decide +kernel
theorem dX3_init_4 : decode cX3_init 4 = .ok (.aload_n 0, 1) := by decide +kernel
theorem dX3_init_5 : decode cX3_init 5 = .ok (.iconst 4, 1) := by decide +kernel
theorem dX3_init_6 : decode cX3_init 6 = .ok (.newarray .int, 2) := by decide +kernel
theorem dX3_init_8 : decode cX3_init 8 = .ok (.putfield 9, 3) := by decide +kernel
theorem dX3_init_11 : decode cX3_init 11 = .ok (.aload_n 0, 1) := by decide +kernel
theorem dX3_init_12 : decode cX3_init 12 = .ok (.aload_n 1, 1) := by decide +kernel
theorem dX3_init_13 : decode cX3_init 13 = .ok (.putfield 15, 3) := by decide +kernel
theorem dX3_init_16 : decode cX3_init 16 = .ok (.aload_n 0, 1) := by decide +kernel
theorem dX3_init_17 : decode cX3_init 17 = .ok (.aload_n 2, 1) := by decide +kernel
theorem dX3_init_18 : decode cX3_init 18 = .ok (.putfield 19, 3) := by decide +kernel
theorem dX3_init_21 : decode cX3_init 21 = .ok (.return_, 1) := by decide +kernel
theorem dX4_init_0 : decode cX4_init 0 = .ok (.aload_n 0, 1) := by decide +kernel
theorem dX4_init_1 : decode cX4_init 1 = .ok (.invokespecial 3, 3) := by decide +kernel
theorem dX4_init_4 : decode cX4_init 4 = .ok (.aload_n 0, 1) := by decide +kernel
theorem dX4_init_5 : decode cX4_init 5 = .ok (.iload_n 1, 1) := by decide +kernel
theorem dX4_init_6 : decode cX4_init 6 = .ok (.putfield 9, 3) := by decide +kernel
theorem dX4_init_9 : decode cX4_init 9 = .ok (.aload_n 0, 1) := by decide +kernel
theorem dX4_init_10 : decode cX4_init 10 = .ok (.iload_n 2, 1) := by decide +kernel
theorem dX4_init_11 : decode cX4_init 11 = .ok (.putfield 15, 3) := by decide +kernel
theorem dX4_init_14 : decode cX4_init 14 = .ok (.return_, 1) := by decide +kernel
theorem dX4_kindNumber_0 : decode cX4_kindNumber 0 = .ok (.iconst 0, 1) := by decide +kernel
theorem dX4_kindNumber_1 : decode cX4_kindNumber 1 = .ok (.ireturn, 1) := by decide +kernel
theorem dX4_covers_0 : decode cX4_covers 0 = .ok (.aload_n 1, 1) := by decide +kernel
theorem dX4_covers_1 : decode cX4_covers 1 = .ok (.iconst 1, 1) := by decide +kernel
theorem dX4_covers_2 : decode cX4_covers 2 = .ok (.invokevirtual 18, 3) := by decide +kernel
theorem dX4_covers_5 : decode cX4_covers 5 = .ok (.iconst 1, 1) := by decide +kernel
theorem dX4_covers_6 : decode cX4_covers 6 = .ok (.if_icmp .ne 7, 3) := by decide +kernel
theorem dX4_covers_9 : decode cX4_covers 9 = .ok (.iconst 1, 1) := by decide +kernel
theorem dX4_covers_10 : decode cX4_covers 10 = .ok (.goto 4, 3) := by decide +kernel
theorem dX4_covers_13 : decode cX4_covers 13 = .ok (.iconst 0, 1) := by decide +kernel
theorem dX4_covers_14 : decode cX4_covers 14 = .ok (.ireturn, 1) := by decide +kernel
theorem dX4_payment_0 : decode cX4_payment 0 = .ok (.aload_n 0, 1) := by decide +kernel
theorem dX4_payment_1 : decode cX4_payment 1 = .ok (.aload_n 1, 1) := by decide +kernel
theorem dX4_payment_2 : decode cX4_payment 2 = .ok (.invokevirtual 24, 3) := by decide +kernel
theorem dX4_payment_5 : decode cX4_payment 5 = .ok (.ifCond .eq 8, 3) := by decide +kernel
theorem dX4_payment_8 : decode cX4_payment 8 = .ok (.aload_n 0, 1) := by decide +kernel
theorem dX4_payment_9 : decode cX4_payment 9 = .ok (.getfield 9, 3) := by decide +kernel
theorem dX4_payment_12 : decode cX4_payment 12 = .ok (.ireturn, 1) := by decide +kernel
theorem dX4_payment_13 : decode cX4_payment 13 = .ok (.iload_n 2, 1) := by decide +kernel
theorem dX4_payment_14 : decode cX4_payment 14 = .ok (.iconst 1, 1) := by decide +kernel
theorem dX4_payment_15 : decode cX4_payment 15 = .ok (.if_icmp .ne 10, 3) := by decide +kernel
theorem dX4_payment_18 : decode cX4_payment 18 = .ok (.aload_n 0, 1) := by decide +kernel
theorem dX4_payment_19 : decode cX4_payment 19 = .ok (.getfield 15, 3) := by decide +kernel
theorem dX4_payment_22 : decode cX4_payment 22 = .ok (.goto 4, 3) := by decide +kernel
theorem dX4_payment_25 : decode cX4_payment 25 = .ok (.iconst 0, 1) := by decide +kernel
theorem dX4_payment_26 : decode cX4_payment 26 = .ok (.ireturn, 1) := by decide +kernel
theorem dX5_init_0 : decode cX5_init 0 = .ok (.aload_n 0, 1) := by decide +kernel
theorem dX5_init_1 : decode cX5_init 1 = .ok (.iload_n 1, 1) := by decide +kernel
theorem dX5_init_2 : decode cX5_init 2 = .ok (.iload_n 2, 1) := by decide +kernel
theorem dX5_init_3 : decode cX5_init 3 = .ok (.invokespecial 3, 3) := by decide +kernel
theorem dX5_init_6 : decode cX5_init 6 = .ok (.return_, 1) := by decide +kernel
theorem dX5_kindNumber_0 : decode cX5_kindNumber 0 = .ok (.iconst 4, 1) := by decide +kernel
theorem dX5_kindNumber_1 : decode cX5_kindNumber 1 = .ok (.ireturn, 1) := by decide +kernel
theorem dX5_covers_0 : decode cX5_covers 0 = .ok (.aload_n 1, 1) := by decide +kernel
theorem dX5_covers_1 : decode cX5_covers 1 = .ok (.iconst 1, 1) := by decide +kernel
theorem dX5_covers_2 : decode cX5_covers 2 = .ok (.invokevirtual 9, 3) := by decide +kernel
theorem dX5_covers_5 : decode cX5_covers 5 = .ok (.iconst (-1), 1) := by decide +kernel
theorem dX5_covers_6 : decode cX5_covers 6 = .ok (.if_icmp .eq 15, 3) := by decide +kernel
theorem dX5_covers_9 : decode cX5_covers 9 = .ok (.aload_n 0, 1) := by decide +kernel
theorem dX5_covers_10 : decode cX5_covers 10 = .ok (.aload_n 1, 1) := by decide +kernel
theorem dX5_covers_11 : decode cX5_covers 11 = .ok (.invokespecial 15, 3) := by decide +kernel
theorem dX5_covers_14 : decode cX5_covers 14 = .ok (.ifCond .eq 7, 3) := by decide +kernel
theorem dX5_covers_17 : decode cX5_covers 17 = .ok (.iconst 1, 1) := by decide +kernel
theorem dX5_covers_18 : decode cX5_covers 18 = .ok (.goto 4, 3) := by decide +kernel
theorem dX5_covers_21 : decode cX5_covers 21 = .ok (.iconst 0, 1) := by decide +kernel
theorem dX5_covers_22 : decode cX5_covers 22 = .ok (.ireturn, 1) := by decide +kernel
theorem dX6_init_0 : decode cX6_init 0 = .ok (.aload_n 0, 1) := by decide +kernel
theorem dX6_init_1 : decode cX6_init 1 = .ok (.iload_n 1, 1) := by decide +kernel
theorem dX6_init_2 : decode cX6_init 2 = .ok (.iload_n 2, 1) := by decide +kernel
theorem dX6_init_3 : decode cX6_init 3 = .ok (.invokespecial 3, 3) := by decide +kernel
theorem dX6_init_6 : decode cX6_init 6 = .ok (.return_, 1) := by decide +kernel
theorem dX6_kindNumber_0 : decode cX6_kindNumber 0 = .ok (.iconst 2, 1) := by decide +kernel
theorem dX6_kindNumber_1 : decode cX6_kindNumber 1 = .ok (.ireturn, 1) := by decide +kernel
theorem dX6_covers_0 : decode cX6_covers 0 = .ok (.aload_n 1, 1) := by decide +kernel
theorem dX6_covers_1 : decode cX6_covers 1 = .ok (.iconst 1, 1) := by decide +kernel
theorem dX6_covers_2 : decode cX6_covers 2 = .ok (.invokevirtual 9, 3) := by decide +kernel
theorem dX6_covers_5 : decode cX6_covers 5 = .ok (.iconst 1, 1) := by decide +kernel
theorem dX6_covers_6 : decode cX6_covers 6 = .ok (.if_icmp .ne 7, 3) := by decide +kernel
theorem dX6_covers_9 : decode cX6_covers 9 = .ok (.iconst 1, 1) := by decide +kernel
theorem dX6_covers_10 : decode cX6_covers 10 = .ok (.goto 4, 3) := by decide +kernel
theorem dX6_covers_13 : decode cX6_covers 13 = .ok (.iconst 0, 1) := by decide +kernel
theorem dX6_covers_14 : decode cX6_covers 14 = .ok (.ireturn, 1) := by decide +kernel
theorem dX7_init_0 : decode cX7_init 0 = .ok (.aload_n 0, 1) := by decide +kernel
theorem dX7_init_1 : decode cX7_init 1 = .ok (.invokespecial 3, 3) := by decide +kernel
theorem dX7_init_4 : decode cX7_init 4 = .ok (.aload_n 0, 1) := by decide +kernel
theorem dX7_init_5 : decode cX7_init 5 = .ok (.iconst 5, 1) := by decide +kernel
theorem dX7_init_6 : decode cX7_init 6 = .ok (.newarray .int, 2) := by decide +kernel
theorem dX7_init_8 : decode cX7_init 8 = .ok (.putfield 9, 3) := by decide +kernel
theorem dX7_init_11 : decode cX7_init 11 = .ok (.aload_n 0, 1) := by decide +kernel
theorem dX7_init_12 : decode cX7_init 12 = .ok (.bipush 7, 2) := by decide +kernel
theorem dX7_init_14 : decode cX7_init 14 = .ok (.iconst 3, 1) := by decide +kernel
theorem dX7_init_15 : decode cX7_init 15 = .ok (.multianewarray 15 2, 4) := by decide +kernel
theorem dX7_init_19 : decode cX7_init 19 = .ok (.putfield 17, 3) := by decide +kernel
theorem dX7_init_22 : decode cX7_init 22 = .ok (.aload_n 0, 1) := by decide +kernel
theorem dX7_init_23 : decode cX7_init 23 = .ok (.bipush 7, 2) := by decide +kernel
theorem dX7_init_25 : decode cX7_init 25 = .ok (.iconst 3, 1) := by decide +kernel
theorem dX7_init_26 : decode cX7_init 26 = .ok (.multianewarray 15 2, 4) := by decide +kernel
theorem dX7_init_30 : decode cX7_init 30 = .ok (.putfield 20, 3) := by decide +kernel
theorem dX7_init_33 : decode cX7_init 33 = .ok (.aload_n 0, 1) := by decide +kernel
theorem dX7_init_34 : decode cX7_init 34 = .ok (.bipush 7, 2) := by decide +kernel
theorem dX7_init_36 : decode cX7_init 36 = .ok (.iconst 3, 1) := by decide +kernel
theorem dX7_init_37 : decode cX7_init 37 = .ok (.multianewarray 15 2, 4) := by decide +kernel
theorem dX7_init_41 : decode cX7_init 41 = .ok (.putfield 23, 3) := by decide +kernel
theorem dX7_init_44 : decode cX7_init 44 = .ok (.aload_n 0, 1) := by decide +kernel
theorem dX7_init_45 : decode cX7_init 45 = .ok (.bipush 7, 2) := by decide +kernel
theorem dX7_init_47 : decode cX7_init 47 = .ok (.iconst 3, 1) := by decide +kernel
theorem dX7_init_48 : decode cX7_init 48 = .ok (.multianewarray 26 2, 4) := by decide +kernel
theorem dX7_init_52 : decode cX7_init 52 = .ok (.putfield 28, 3) := by decide +kernel
theorem dX7_init_55 : decode cX7_init 55 = .ok (.aload_n 0, 1) := by decide +kernel
theorem dX7_init_56 : decode cX7_init 56 = .ok (.aload_n 1, 1) := by decide +kernel
theorem dX7_init_57 : decode cX7_init 57 = .ok (.putfield 31, 3) := by decide +kernel
theorem dX7_init_60 : decode cX7_init 60 = .ok (.iconst 0, 1) := by decide +kernel
theorem dX7_init_61 : decode cX7_init 61 = .ok (.istore_n 2, 1) := by decide +kernel
theorem dX7_init_62 : decode cX7_init 62 = .ok (.iload_n 2, 1) := by decide +kernel
theorem dX7_init_63 : decode cX7_init 63 = .ok (.iconst 4, 1) := by decide +kernel
theorem dX7_init_64 : decode cX7_init 64 = .ok (.if_icmp .gt 16, 3) := by decide +kernel
theorem dX7_init_67 : decode cX7_init 67 = .ok (.aload_n 0, 1) := by decide +kernel
theorem dX7_init_68 : decode cX7_init 68 = .ok (.getfield 9, 3) := by decide +kernel
theorem dX7_init_71 : decode cX7_init 71 = .ok (.iload_n 2, 1) := by decide +kernel
theorem dX7_init_72 : decode cX7_init 72 = .ok (.iconst (-1), 1) := by decide +kernel
theorem dX7_init_73 : decode cX7_init 73 = .ok (.iastore, 1) := by decide +kernel
theorem dX7_init_74 : decode cX7_init 74 = .ok (.iinc 2 1, 3) := by decide +kernel
theorem dX7_init_77 : decode cX7_init 77 = .ok (.goto (-15), 3) := by decide +kernel
theorem dX7_init_80 : decode cX7_init 80 = .ok (.return_, 1) := by decide +kernel
theorem dX7_startAnew_0 : decode cX7_startAnew 0 = .ok (.aload_n 0, 1) := by decide +kernel
theorem dX7_startAnew_1 : decode cX7_startAnew 1 = .ok (.iconst 0, 1) := by decide +kernel
theorem dX7_startAnew_2 : decode cX7_startAnew 2 = .ok (.putfield 35, 3) := by decide +kernel
theorem dX7_startAnew_5 : decode cX7_startAnew 5 = .ok (.aload_n 0, 1) := by decide +kernel
theorem dX7_startAnew_6 : decode cX7_startAnew 6 = .ok (.iload_n 1, 1) := by decide +kernel
theorem dX7_startAnew_7 : decode cX7_startAnew 7 = .ok (.putfield 39, 3) := by decide +kernel
theorem dX7_startAnew_10 : decode cX7_startAnew 10 = .ok (.iconst 0, 1) := by decide +kernel
theorem dX7_startAnew_11 : decode cX7_startAnew 11 = .ok (.istore_n 2, 1) := by decide +kernel
theorem dX7_startAnew_12 : decode cX7_startAnew 12 = .ok (.iload_n 2, 1) := by decide +kernel
theorem dX7_startAnew_13 : decode cX7_startAnew 13 = .ok (.iconst 4, 1) := by decide +kernel
theorem dX7_startAnew_14 : decode cX7_startAnew 14 = .ok (.if_icmp .gt 16, 3) := by decide +kernel
theorem dX7_startAnew_17 : decode cX7_startAnew 17 = .ok (.aload_n 0, 1) := by decide +kernel
theorem dX7_startAnew_18 : decode cX7_startAnew 18 = .ok (.getfield 9, 3) := by decide +kernel
theorem dX7_startAnew_21 : decode cX7_startAnew 21 = .ok (.iload_n 2, 1) := by decide +kernel
theorem dX7_startAnew_22 : decode cX7_startAnew 22 = .ok (.iconst (-1), 1) := by decide +kernel
theorem dX7_startAnew_23 : decode cX7_startAnew 23 = .ok (.iastore, 1) := by decide +kernel
theorem dX7_startAnew_24 : decode cX7_startAnew 24 = .ok (.iinc 2 1, 3) := by decide +kernel
theorem dX7_startAnew_27 : decode cX7_startAnew 27 = .ok (.goto (-15), 3) := by decide +kernel
theorem dX7_startAnew_30 : decode cX7_startAnew 30 = .ok (.aload_n 0, 1) := by decide +kernel
theorem dX7_startAnew_31 : decode cX7_startAnew 31 = .ok (.invokevirtual 42, 3) := by decide +kernel
theorem dX7_startAnew_34 : decode cX7_startAnew 34 = .ok (.return_, 1) := by decide +kernel
theorem dX7_copyFrom_0 : decode cX7_copyFrom 0 = .ok (.aload_n 0, 1) := by decide +kernel
theorem dX7_copyFrom_1 : decode cX7_copyFrom 1 = .ok (.aload_n 1, 1) := by decide +kernel
theorem dX7_copyFrom_2 : decode cX7_copyFrom 2 = .ok (.getfield 35, 3) := by decide +kernel
theorem dX7_copyFrom_5 : decode cX7_copyFrom 5 = .ok (.putfield 35, 3) := by decide +kernel
theorem dX7_copyFrom_8 : decode cX7_copyFrom 8 = .ok (.aload_n 0, 1) := by decide +kernel
theorem dX7_copyFrom_9 : decode cX7_copyFrom 9 = .ok (.aload_n 1, 1) := by decide +kernel
theorem dX7_copyFrom_10 : decode cX7_copyFrom 10 = .ok (.getfield 39, 3) := by decide +kernel
theorem dX7_copyFrom_13 : decode cX7_copyFrom 13 = .ok (.putfield 39, 3) := by decide +kernel
theorem dX7_copyFrom_16 : decode cX7_copyFrom 16 = .ok (.iconst 0, 1) := by decide +kernel
theorem dX7_copyFrom_17 : decode cX7_copyFrom 17 = .ok (.istore_n 2, 1) := by decide +kernel
theorem dX7_copyFrom_18 : decode cX7_copyFrom 18 = .ok (.iload_n 2, 1) := by decide +kernel
theorem dX7_copyFrom_19 : decode cX7_copyFrom 19 = .ok (.iconst 4, 1) := by decide +kernel
theorem dX7_copyFrom_20 : decode cX7_copyFrom 20 = .ok (.if_icmp .gt 21, 3) := by decide +kernel
theorem dX7_copyFrom_23 : decode cX7_copyFrom 23 = .ok (.aload_n 0, 1) := by decide +kernel
theorem dX7_copyFrom_24 : decode cX7_copyFrom 24 = .ok (.getfield 9, 3) := by decide +kernel
theorem dX7_copyFrom_27 : decode cX7_copyFrom 27 = .ok (.iload_n 2, 1) := by decide +kernel
theorem dX7_copyFrom_28 : decode cX7_copyFrom 28 = .ok (.aload_n 1, 1) := by decide +kernel
theorem dX7_copyFrom_29 : decode cX7_copyFrom 29 = .ok (.getfield 9, 3) := by decide +kernel
theorem dX7_copyFrom_32 : decode cX7_copyFrom 32 = .ok (.iload_n 2, 1) := by decide +kernel
theorem dX7_copyFrom_33 : decode cX7_copyFrom 33 = .ok (.iaload, 1) := by decide +kernel
theorem dX7_copyFrom_34 : decode cX7_copyFrom 34 = .ok (.iastore, 1) := by decide +kernel
theorem dX7_copyFrom_35 : decode cX7_copyFrom 35 = .ok (.iinc 2 1, 3) := by decide +kernel
theorem dX7_copyFrom_38 : decode cX7_copyFrom 38 = .ok (.goto (-20), 3) := by decide +kernel
theorem dX7_copyFrom_41 : decode cX7_copyFrom 41 = .ok (.aload_n 0, 1) := by decide +kernel
theorem dX7_copyFrom_42 : decode cX7_copyFrom 42 = .ok (.invokevirtual 42, 3) := by decide +kernel
theorem dX7_copyFrom_45 : decode cX7_copyFrom 45 = .ok (.return_, 1) := by decide +kernel
theorem dX7_passDay_0 : decode cX7_passDay 0 = .ok (.aload_n 0, 1) := by decide +kernel
theorem dX7_passDay_1 : decode cX7_passDay 1 = .ok (.dup, 1) := by decide +kernel
theorem dX7_passDay_2 : decode cX7_passDay 2 = .ok (.getfield 35, 3) := by decide +kernel
theorem dX7_passDay_5 : decode cX7_passDay 5 = .ok (.iconst 1, 1) := by decide +kernel
theorem dX7_passDay_6 : decode cX7_passDay 6 = .ok (.iadd, 1) := by decide +kernel
theorem dX7_passDay_7 : decode cX7_passDay 7 = .ok (.putfield 35, 3) := by decide +kernel
theorem dX7_passDay_10 : decode cX7_passDay 10 = .ok (.aload_n 0, 1) := by decide +kernel
theorem dX7_passDay_11 : decode cX7_passDay 11 = .ok (.iload_n 1, 1) := by decide +kernel
theorem dX7_passDay_12 : decode cX7_passDay 12 = .ok (.putfield 39, 3) := by decide +kernel
theorem dX7_passDay_15 : decode cX7_passDay 15 = .ok (.iconst 1, 1) := by decide +kernel
theorem dX7_passDay_16 : decode cX7_passDay 16 = .ok (.istore_n 2, 1) := by decide +kernel
theorem dX7_passDay_17 : decode cX7_passDay 17 = .ok (.iload_n 2, 1) := by decide +kernel
theorem dX7_passDay_18 : decode cX7_passDay 18 = .ok (.iconst 4, 1) := by decide +kernel
theorem dX7_passDay_19 : decode cX7_passDay 19 = .ok (.if_icmp .ge 23, 3) := by decide +kernel
theorem dX7_passDay_22 : decode cX7_passDay 22 = .ok (.aload_n 0, 1) := by decide +kernel
theorem dX7_passDay_23 : decode cX7_passDay 23 = .ok (.getfield 9, 3) := by decide +kernel
theorem dX7_passDay_26 : decode cX7_passDay 26 = .ok (.iload_n 2, 1) := by decide +kernel
theorem dX7_passDay_27 : decode cX7_passDay 27 = .ok (.aload_n 0, 1) := by decide +kernel
theorem dX7_passDay_28 : decode cX7_passDay 28 = .ok (.getfield 9, 3) := by decide +kernel
theorem dX7_passDay_31 : decode cX7_passDay 31 = .ok (.iload_n 2, 1) := by decide +kernel
theorem dX7_passDay_32 : decode cX7_passDay 32 = .ok (.iconst 1, 1) := by decide +kernel
theorem dX7_passDay_33 : decode cX7_passDay 33 = .ok (.iadd, 1) := by decide +kernel
theorem dX7_passDay_34 : decode cX7_passDay 34 = .ok (.iaload, 1) := by decide +kernel
theorem dX7_passDay_35 : decode cX7_passDay 35 = .ok (.iastore, 1) := by decide +kernel
theorem dX7_passDay_36 : decode cX7_passDay 36 = .ok (.iinc 2 1, 3) := by decide +kernel
theorem dX7_passDay_39 : decode cX7_passDay 39 = .ok (.goto (-22), 3) := by decide +kernel
theorem dX7_passDay_42 : decode cX7_passDay 42 = .ok (.aload_n 0, 1) := by decide +kernel
theorem dX7_passDay_43 : decode cX7_passDay 43 = .ok (.getfield 9, 3) := by decide +kernel
theorem dX7_passDay_46 : decode cX7_passDay 46 = .ok (.iconst 4, 1) := by decide +kernel
theorem dX7_passDay_47 : decode cX7_passDay 47 = .ok (.iconst (-1), 1) := by decide +kernel
theorem dX7_passDay_48 : decode cX7_passDay 48 = .ok (.iastore, 1) := by decide +kernel
theorem dX7_passDay_49 : decode cX7_passDay 49 = .ok (.aload_n 0, 1) := by decide +kernel
theorem dX7_passDay_50 : decode cX7_passDay 50 = .ok (.invokevirtual 42, 3) := by decide +kernel
theorem dX7_passDay_53 : decode cX7_passDay 53 = .ok (.return_, 1) := by decide +kernel
theorem dX7_tell_0 : decode cX7_tell 0 = .ok (.aload_n 0, 1) := by decide +kernel
theorem dX7_tell_1 : decode cX7_tell 1 = .ok (.getfield 31, 3) := by decide +kernel
theorem dX7_tell_4 : decode cX7_tell 4 = .ok (.getfield 45, 3) := by decide +kernel
theorem dX7_tell_7 : decode cX7_tell 7 = .ok (.istore_n 2, 1) := by decide +kernel
theorem dX7_tell_8 : decode cX7_tell 8 = .ok (.iload_n 2, 1) := by decide +kernel
theorem dX7_tell_9 : decode cX7_tell 9 = .ok (.iconst 1, 1) := by decide +kernel
theorem dX7_tell_10 : decode cX7_tell 10 = .ok (.if_icmp .lt 8, 3) := by decide +kernel
theorem dX7_tell_13 : decode cX7_tell 13 = .ok (.iload_n 2, 1) := by decide +kernel
theorem dX7_tell_14 : decode cX7_tell 14 = .ok (.iconst 4, 1) := by decide +kernel
theorem dX7_tell_15 : decode cX7_tell 15 = .ok (.if_icmp .le 5, 3) := by decide +kernel
theorem dX7_tell_18 : decode cX7_tell 18 = .ok (.iconst 0, 1) := by decide +kernel
theorem dX7_tell_19 : decode cX7_tell 19 = .ok (.ireturn, 1) := by decide +kernel
theorem dX7_tell_20 : decode cX7_tell 20 = .ok (.aload_n 0, 1) := by decide +kernel
theorem dX7_tell_21 : decode cX7_tell 21 = .ok (.getfield 9, 3) := by decide +kernel
theorem dX7_tell_24 : decode cX7_tell 24 = .ok (.iload_n 2, 1) := by decide +kernel
theorem dX7_tell_25 : decode cX7_tell 25 = .ok (.iaload, 1) := by decide +kernel
theorem dX7_tell_26 : decode cX7_tell 26 = .ok (.istore_n 3, 1) := by decide +kernel
theorem dX7_tell_27 : decode cX7_tell 27 = .ok (.aload_n 0, 1) := by decide +kernel
theorem dX7_tell_28 : decode cX7_tell 28 = .ok (.getfield 9, 3) := by decide +kernel
theorem dX7_tell_31 : decode cX7_tell 31 = .ok (.iload_n 2, 1) := by decide +kernel
theorem dX7_tell_32 : decode cX7_tell 32 = .ok (.iload_n 1, 1) := by decide +kernel
theorem dX7_tell_33 : decode cX7_tell 33 = .ok (.iastore, 1) := by decide +kernel
theorem dX7_tell_34 : decode cX7_tell 34 = .ok (.aload_n 0, 1) := by decide +kernel
theorem dX7_tell_35 : decode cX7_tell 35 = .ok (.invokevirtual 42, 3) := by decide +kernel
theorem dX7_tell_38 : decode cX7_tell 38 = .ok (.aload_n 0, 1) := by decide +kernel
theorem dX7_tell_39 : decode cX7_tell 39 = .ok (.invokevirtual 50, 3) := by decide +kernel
theorem dX7_tell_42 : decode cX7_tell 42 = .ok (.lconst 0, 1) := by decide +kernel
theorem dX7_tell_43 : decode cX7_tell 43 = .ok (.lcmp, 1) := by decide +kernel
theorem dX7_tell_44 : decode cX7_tell 44 = .ok (.ifCond .le 5, 3) := by decide +kernel
theorem dX7_tell_47 : decode cX7_tell 47 = .ok (.iconst 1, 1) := by decide +kernel
theorem dX7_tell_48 : decode cX7_tell 48 = .ok (.ireturn, 1) := by decide +kernel
theorem dX7_tell_49 : decode cX7_tell 49 = .ok (.aload_n 0, 1) := by decide +kernel
theorem dX7_tell_50 : decode cX7_tell 50 = .ok (.getfield 9, 3) := by decide +kernel
theorem dX7_tell_53 : decode cX7_tell 53 = .ok (.iload_n 2, 1) := by decide +kernel
theorem dX7_tell_54 : decode cX7_tell 54 = .ok (.iload_n 3, 1) := by decide +kernel
theorem dX7_tell_55 : decode cX7_tell 55 = .ok (.iastore, 1) := by decide +kernel
theorem dX7_tell_56 : decode cX7_tell 56 = .ok (.aload_n 0, 1) := by decide +kernel
theorem dX7_tell_57 : decode cX7_tell 57 = .ok (.invokevirtual 42, 3) := by decide +kernel
theorem dX7_tell_60 : decode cX7_tell 60 = .ok (.iconst 0, 1) := by decide +kernel
theorem dX7_tell_61 : decode cX7_tell 61 = .ok (.ireturn, 1) := by decide +kernel
theorem dX7_readingOf_0 : decode cX7_readingOf 0 = .ok (.iload_n 1, 1) := by decide +kernel
theorem dX7_readingOf_1 : decode cX7_readingOf 1 = .ok (.iconst 1, 1) := by decide +kernel
theorem dX7_readingOf_2 : decode cX7_readingOf 2 = .ok (.if_icmp .lt 17, 3) := by decide +kernel
theorem dX7_readingOf_5 : decode cX7_readingOf 5 = .ok (.iload_n 1, 1) := by decide +kernel
theorem dX7_readingOf_6 : decode cX7_readingOf 6 = .ok (.iconst 4, 1) := by decide +kernel
theorem dX7_readingOf_7 : decode cX7_readingOf 7 = .ok (.if_icmp .gt 12, 3) := by decide +kernel
theorem dX7_readingOf_10 : decode cX7_readingOf 10 = .ok (.aload_n 0, 1) := by decide +kernel
theorem dX7_readingOf_11 : decode cX7_readingOf 11 = .ok (.getfield 9, 3) := by decide +kernel
theorem dX7_readingOf_14 : decode cX7_readingOf 14 = .ok (.iload_n 1, 1) := by decide +kernel
theorem dX7_readingOf_15 : decode cX7_readingOf 15 = .ok (.iaload, 1) := by decide +kernel
theorem dX7_readingOf_16 : decode cX7_readingOf 16 = .ok (.goto 4, 3) := by decide +kernel
theorem dX7_readingOf_19 : decode cX7_readingOf 19 = .ok (.iconst (-1), 1) := by decide +kernel
theorem dX7_readingOf_20 : decode cX7_readingOf 20 = .ok (.ireturn, 1) := by decide +kernel
theorem dX7_readingsTold_0 : decode cX7_readingsTold 0 = .ok (.iconst 0, 1) := by decide +kernel
theorem dX7_readingsTold_1 : decode cX7_readingsTold 1 = .ok (.istore_n 1, 1) := by decide +kernel
theorem dX7_readingsTold_2 : decode cX7_readingsTold 2 = .ok (.iconst 1, 1) := by decide +kernel
theorem dX7_readingsTold_3 : decode cX7_readingsTold 3 = .ok (.istore_n 2, 1) := by decide +kernel
theorem dX7_readingsTold_4 : decode cX7_readingsTold 4 = .ok (.iload_n 2, 1) := by decide +kernel
theorem dX7_readingsTold_5 : decode cX7_readingsTold 5 = .ok (.iconst 4, 1) := by decide +kernel
theorem dX7_readingsTold_6 : decode cX7_readingsTold 6 = .ok (.if_icmp .gt 27, 3) := by decide +kernel
theorem dX7_readingsTold_9 : decode cX7_readingsTold 9 = .ok (.iload_n 1, 1) := by decide +kernel
theorem dX7_readingsTold_10 : decode cX7_readingsTold 10 = .ok (.aload_n 0, 1) := by decide +kernel
theorem dX7_readingsTold_11 : decode cX7_readingsTold 11 = .ok (.getfield 9, 3) := by decide +kernel
theorem dX7_readingsTold_14 : decode cX7_readingsTold 14 = .ok (.iload_n 2, 1) := by decide +kernel
theorem dX7_readingsTold_15 : decode cX7_readingsTold 15 = .ok (.iaload, 1) := by decide +kernel
theorem dX7_readingsTold_16 : decode cX7_readingsTold 16 = .ok (.iconst (-1), 1) := by decide +kernel
theorem dX7_readingsTold_17 : decode cX7_readingsTold 17 = .ok (.if_icmp .ne 7, 3) := by decide +kernel
theorem dX7_readingsTold_20 : decode cX7_readingsTold 20 = .ok (.iconst 0, 1) := by decide +kernel
theorem dX7_readingsTold_21 : decode cX7_readingsTold 21 = .ok (.goto 4, 3) := by decide +kernel
theorem dX7_readingsTold_24 : decode cX7_readingsTold 24 = .ok (.iconst 1, 1) := by decide +kernel
theorem dX7_readingsTold_25 : decode cX7_readingsTold 25 = .ok (.iadd, 1) := by decide +kernel
theorem dX7_readingsTold_26 : decode cX7_readingsTold 26 = .ok (.istore_n 1, 1) := by decide +kernel
theorem dX7_readingsTold_27 : decode cX7_readingsTold 27 = .ok (.iinc 2 1, 3) := by decide +kernel
theorem dX7_readingsTold_30 : decode cX7_readingsTold 30 = .ok (.goto (-26), 3) := by decide +kernel
theorem dX7_readingsTold_33 : decode cX7_readingsTold 33 = .ok (.iload_n 1, 1) := by decide +kernel
theorem dX7_readingsTold_34 : decode cX7_readingsTold 34 = .ok (.ireturn, 1) := by decide +kernel
theorem dX7_oddsOf_0 : decode cX7_oddsOf 0 = .ok (.iload_n 1, 1) := by decide +kernel
theorem dX7_oddsOf_1 : decode cX7_oddsOf 1 = .ok (.invokestatic 54, 3) := by decide +kernel
theorem dX7_oddsOf_4 : decode cX7_oddsOf 4 = .ok (.ifCond .eq 10, 3) := by decide +kernel
theorem dX7_oddsOf_7 : decode cX7_oddsOf 7 = .ok (.iload_n 2, 1) := by decide +kernel
theorem dX7_oddsOf_8 : decode cX7_oddsOf 8 = .ok (.invokestatic 58, 3) := by decide +kernel
theorem dX7_oddsOf_11 : decode cX7_oddsOf 11 = .ok (.ifCond .ne 5, 3) := by decide +kernel
theorem dX7_oddsOf_14 : decode cX7_oddsOf 14 = .ok (.lconst 0, 1) := by decide +kernel
theorem dX7_oddsOf_15 : decode cX7_oddsOf 15 = .ok (.lreturn, 1) := by decide +kernel
theorem dX7_oddsOf_16 : decode cX7_oddsOf 16 = .ok (.aload_n 0, 1) := by decide +kernel
theorem dX7_oddsOf_17 : decode cX7_oddsOf 17 = .ok (.getfield 17, 3) := by decide +kernel
theorem dX7_oddsOf_20 : decode cX7_oddsOf 20 = .ok (.iload_n 1, 1) := by decide +kernel
theorem dX7_oddsOf_21 : decode cX7_oddsOf 21 = .ok (.aaload, 1) := by decide +kernel
theorem dX7_oddsOf_22 : decode cX7_oddsOf 22 = .ok (.iload_n 2, 1) := by decide +kernel
theorem dX7_oddsOf_23 : decode cX7_oddsOf 23 = .ok (.laload, 1) := by decide +kernel
theorem dX7_oddsOf_24 : decode cX7_oddsOf 24 = .ok (.aload_n 0, 1) := by decide +kernel
theorem dX7_oddsOf_25 : decode cX7_oddsOf 25 = .ok (.getfield 20, 3) := by decide +kernel
theorem dX7_oddsOf_28 : decode cX7_oddsOf 28 = .ok (.iload_n 1, 1) := by decide +kernel
theorem dX7_oddsOf_29 : decode cX7_oddsOf 29 = .ok (.aaload, 1) := by decide +kernel
theorem dX7_oddsOf_30 : decode cX7_oddsOf 30 = .ok (.iload_n 2, 1) := by decide +kernel
theorem dX7_oddsOf_31 : decode cX7_oddsOf 31 = .ok (.laload, 1) := by decide +kernel
theorem dX7_oddsOf_32 : decode cX7_oddsOf 32 = .ok (.lmul, 1) := by decide +kernel
theorem dX7_oddsOf_33 : decode cX7_oddsOf 33 = .ok (.lreturn, 1) := by decide +kernel
theorem dX7_allOdds_0 : decode cX7_allOdds 0 = .ok (.lconst 0, 1) := by decide +kernel
theorem dX7_allOdds_1 : decode cX7_allOdds 1 = .ok (.lstore_n 1, 1) := by decide +kernel
theorem dX7_allOdds_2 : decode cX7_allOdds 2 = .ok (.iconst 0, 1) := by decide +kernel
theorem dX7_allOdds_3 : decode cX7_allOdds 3 = .ok (.istore_n 3, 1) := by decide +kernel
theorem dX7_allOdds_4 : decode cX7_allOdds 4 = .ok (.iload_n 3, 1) := by decide +kernel
theorem dX7_allOdds_5 : decode cX7_allOdds 5 = .ok (.iconst 3, 1) := by decide +kernel
theorem dX7_allOdds_6 : decode cX7_allOdds 6 = .ok (.if_icmp .ge 21, 3) := by decide +kernel
theorem dX7_allOdds_9 : decode cX7_allOdds 9 = .ok (.lload_n 1, 1) := by decide +kernel
theorem dX7_allOdds_10 : decode cX7_allOdds 10 = .ok (.aload_n 0, 1) := by decide +kernel
theorem dX7_allOdds_11 : decode cX7_allOdds 11 = .ok (.getfield 17, 3) := by decide +kernel
theorem dX7_allOdds_14 : decode cX7_allOdds 14 = .ok (.bipush 6, 2) := by decide +kernel
theorem dX7_allOdds_16 : decode cX7_allOdds 16 = .ok (.aaload, 1) := by decide +kernel
theorem dX7_allOdds_17 : decode cX7_allOdds 17 = .ok (.iload_n 3, 1) := by decide +kernel
theorem dX7_allOdds_18 : decode cX7_allOdds 18 = .ok (.laload, 1) := by decide +kernel
theorem dX7_allOdds_19 : decode cX7_allOdds 19 = .ok (.ladd, 1) := by decide +kernel
theorem dX7_allOdds_20 : decode cX7_allOdds 20 = .ok (.lstore_n 1, 1) := by decide +kernel
theorem dX7_allOdds_21 : decode cX7_allOdds 21 = .ok (.iinc 3 1, 3) := by decide +kernel
theorem dX7_allOdds_24 : decode cX7_allOdds 24 = .ok (.goto (-20), 3) := by decide +kernel
theorem dX7_allOdds_27 : decode cX7_allOdds 27 = .ok (.lload_n 1, 1) := by decide +kernel
theorem dX7_allOdds_28 : decode cX7_allOdds 28 = .ok (.lreturn, 1) := by decide +kernel
theorem dX7_possibleDays_0 : decode cX7_possibleDays 0 = .ok (.aload_n 0, 1) := by decide +kernel
theorem dX7_possibleDays_1 : decode cX7_possibleDays 1 = .ok (.getfield 39, 3) := by decide +kernel
theorem dX7_possibleDays_4 : decode cX7_possibleDays 4 = .ok (.invokestatic 58, 3) := by decide +kernel
theorem dX7_possibleDays_7 : decode cX7_possibleDays 7 = .ok (.ifCond .eq 17, 3) := by decide +kernel
theorem dX7_possibleDays_10 : decode cX7_possibleDays 10 = .ok (.aload_n 0, 1) := by decide +kernel
theorem dX7_possibleDays_11 : decode cX7_possibleDays 11 = .ok (.getfield 28, 3) := by decide +kernel
theorem dX7_possibleDays_14 : decode cX7_possibleDays 14 = .ok (.iconst 0, 1) := by decide +kernel
theorem dX7_possibleDays_15 : decode cX7_possibleDays 15 = .ok (.aaload, 1) := by decide +kernel
theorem dX7_possibleDays_16 : decode cX7_possibleDays 16 = .ok (.aload_n 0, 1) := by decide +kernel
theorem dX7_possibleDays_17 : decode cX7_possibleDays 17 = .ok (.getfield 39, 3) := by decide +kernel
theorem dX7_possibleDays_20 : decode cX7_possibleDays 20 = .ok (.iaload, 1) := by decide +kernel
theorem dX7_possibleDays_21 : decode cX7_possibleDays 21 = .ok (.goto 4, 3) := by decide +kernel
theorem dX7_possibleDays_24 : decode cX7_possibleDays 24 = .ok (.iconst 0, 1) := by decide +kernel
theorem dX7_possibleDays_25 : decode cX7_possibleDays 25 = .ok (.ireturn, 1) := by decide +kernel
theorem dX7_sureWeather_0 : decode cX7_sureWeather 0 = .ok (.iconst (-1), 1) := by decide +kernel
theorem dX7_sureWeather_1 : decode cX7_sureWeather 1 = .ok (.istore_n 2, 1) := by decide +kernel
theorem dX7_sureWeather_2 : decode cX7_sureWeather 2 = .ok (.iconst 0, 1) := by decide +kernel
theorem dX7_sureWeather_3 : decode cX7_sureWeather 3 = .ok (.istore_n 3, 1) := by decide +kernel
theorem dX7_sureWeather_4 : decode cX7_sureWeather 4 = .ok (.iload_n 3, 1) := by decide +kernel
theorem dX7_sureWeather_5 : decode cX7_sureWeather 5 = .ok (.iconst 3, 1) := by decide +kernel
theorem dX7_sureWeather_6 : decode cX7_sureWeather 6 = .ok (.if_icmp .ge 29, 3) := by decide +kernel
theorem dX7_sureWeather_9 : decode cX7_sureWeather 9 = .ok (.aload_n 0, 1) := by decide +kernel
theorem dX7_sureWeather_10 : decode cX7_sureWeather 10 = .ok (.iload_n 1, 1) := by decide +kernel
theorem dX7_sureWeather_11 : decode cX7_sureWeather 11 = .ok (.iload_n 3, 1) := by decide +kernel
theorem dX7_sureWeather_12 : decode cX7_sureWeather 12 = .ok (.invokevirtual 61, 3) := by decide +kernel
theorem dX7_sureWeather_15 : decode cX7_sureWeather 15 = .ok (.lconst 0, 1) := by decide +kernel
theorem dX7_sureWeather_16 : decode cX7_sureWeather 16 = .ok (.lcmp, 1) := by decide +kernel
theorem dX7_sureWeather_17 : decode cX7_sureWeather 17 = .ok (.ifCond .le 12, 3) := by decide +kernel
theorem dX7_sureWeather_20 : decode cX7_sureWeather 20 = .ok (.iload_n 2, 1) := by decide +kernel
theorem dX7_sureWeather_21 : decode cX7_sureWeather 21 = .ok (.iconst (-1), 1) := by decide +kernel
theorem dX7_sureWeather_22 : decode cX7_sureWeather 22 = .ok (.if_icmp .eq 5, 3) := by decide +kernel
theorem dX7_sureWeather_25 : decode cX7_sureWeather 25 = .ok (.iconst (-1), 1) := by decide +kernel
theorem dX7_sureWeather_26 : decode cX7_sureWeather 26 = .ok (.ireturn, 1) := by decide +kernel
theorem dX7_sureWeather_27 : decode cX7_sureWeather 27 = .ok (.iload_n 3, 1) := by decide +kernel
theorem dX7_sureWeather_28 : decode cX7_sureWeather 28 = .ok (.istore_n 2, 1) := by decide +kernel
theorem dX7_sureWeather_29 : decode cX7_sureWeather 29 = .ok (.iinc 3 1, 3) := by decide +kernel
theorem dX7_sureWeather_32 : decode cX7_sureWeather 32 = .ok (.goto (-28), 3) := by decide +kernel
theorem dX7_sureWeather_35 : decode cX7_sureWeather 35 = .ok (.iload_n 2, 1) := by decide +kernel
theorem dX7_sureWeather_36 : decode cX7_sureWeather 36 = .ok (.ireturn, 1) := by decide +kernel
theorem dX7_numberOfMostOdds_0 : decode cX7_numberOfMostOdds 0 = .ok (.iconst 0, 1) := by decide +kernel
theorem dX7_numberOfMostOdds_1 : decode cX7_numberOfMostOdds 1 = .ok (.istore_n 1, 1) := by decide +kernel
theorem dX7_numberOfMostOdds_2 : decode cX7_numberOfMostOdds 2 = .ok (.aload_n 0, 1) := by decide +kernel
theorem dX7_numberOfMostOdds_3 : decode cX7_numberOfMostOdds 3 = .ok (.getfield 39, 3) := by decide +kernel
theorem dX7_numberOfMostOdds_6 : decode cX7_numberOfMostOdds 6 = .ok (.istore_n 2, 1) := by decide +kernel
theorem dX7_numberOfMostOdds_7 : decode cX7_numberOfMostOdds 7 = .ok (.iconst 1, 1) := by decide +kernel
theorem dX7_numberOfMostOdds_8 : decode cX7_numberOfMostOdds 8 = .ok (.istore_n 3, 1) := by decide +kernel
theorem dX7_numberOfMostOdds_9 : decode cX7_numberOfMostOdds 9 = .ok (.iload_n 3, 1) := by decide +kernel
theorem dX7_numberOfMostOdds_10 : decode cX7_numberOfMostOdds 10 = .ok (.bipush 6, 2) := by decide +kernel
theorem dX7_numberOfMostOdds_12 : decode cX7_numberOfMostOdds 12 = .ok (.if_icmp .gt 76, 3) := by decide +kernel
theorem dX7_numberOfMostOdds_15 : decode cX7_numberOfMostOdds 15 = .ok (.iconst 0, 1) := by decide +kernel
theorem dX7_numberOfMostOdds_16 : decode cX7_numberOfMostOdds 16 = .ok (.istore 4, 2) := by decide +kernel
theorem dX7_numberOfMostOdds_18 : decode cX7_numberOfMostOdds 18 = .ok (.lconst 0, 1) := by decide +kernel
theorem dX7_numberOfMostOdds_19 : decode cX7_numberOfMostOdds 19 = .ok (.lstore 5, 2) := by decide +kernel
theorem dX7_numberOfMostOdds_21 : decode cX7_numberOfMostOdds 21 = .ok (.iconst 0, 1) := by decide +kernel
theorem dX7_numberOfMostOdds_22 : decode cX7_numberOfMostOdds 22 = .ok (.istore 7, 2) := by decide +kernel
theorem dX7_numberOfMostOdds_24 : decode cX7_numberOfMostOdds 24 = .ok (.iload 7, 2) := by decide +kernel
theorem dX7_numberOfMostOdds_26 : decode cX7_numberOfMostOdds 26 = .ok (.iconst 3, 1) := by decide +kernel
theorem dX7_numberOfMostOdds_27 : decode cX7_numberOfMostOdds 27 = .ok (.if_icmp .ge 45, 3) := by decide +kernel
theorem dX7_numberOfMostOdds_30 : decode cX7_numberOfMostOdds 30 = .ok (.aload_n 0, 1) := by decide +kernel
theorem dX7_numberOfMostOdds_31 : decode cX7_numberOfMostOdds 31 = .ok (.iload_n 3, 1) := by decide +kernel
theorem dX7_numberOfMostOdds_32 : decode cX7_numberOfMostOdds 32 = .ok (.iload_n 2, 1) := by decide +kernel
theorem dX7_numberOfMostOdds_33 : decode cX7_numberOfMostOdds 33 = .ok (.iload 7, 2) := by decide +kernel
theorem dX7_numberOfMostOdds_35 : decode cX7_numberOfMostOdds 35 = .ok (.invokevirtual 65, 3) := by decide +kernel
theorem dX7_numberOfMostOdds_38 : decode cX7_numberOfMostOdds 38 = .ok (.aload_n 0, 1) := by decide +kernel
theorem dX7_numberOfMostOdds_39 : decode cX7_numberOfMostOdds 39 = .ok (.getfield 23, 3) := by decide +kernel
theorem dX7_numberOfMostOdds_42 : decode cX7_numberOfMostOdds 42 = .ok (.iload_n 3, 1) := by decide +kernel
theorem dX7_numberOfMostOdds_43 : decode cX7_numberOfMostOdds 43 = .ok (.aaload, 1) := by decide +kernel
theorem dX7_numberOfMostOdds_44 : decode cX7_numberOfMostOdds 44 = .ok (.iload 7, 2) := by decide +kernel
theorem dX7_numberOfMostOdds_46 : decode cX7_numberOfMostOdds 46 = .ok (.laload, 1) := by decide +kernel
theorem dX7_numberOfMostOdds_47 : decode cX7_numberOfMostOdds 47 = .ok (.lmul, 1) := by decide +kernel
theorem dX7_numberOfMostOdds_48 : decode cX7_numberOfMostOdds 48 = .ok (.lstore 8, 2) := by decide +kernel
theorem dX7_numberOfMostOdds_50 : decode cX7_numberOfMostOdds 50 = .ok (.lload 8, 2) := by decide +kernel
theorem dX7_numberOfMostOdds_52 : decode cX7_numberOfMostOdds 52 = .ok (.lload 5, 2) := by decide +kernel
theorem dX7_numberOfMostOdds_54 : decode cX7_numberOfMostOdds 54 = .ok (.lcmp, 1) := by decide +kernel
theorem dX7_numberOfMostOdds_55 : decode cX7_numberOfMostOdds 55 = .ok (.ifCond .le 11, 3) := by decide +kernel
theorem dX7_numberOfMostOdds_58 : decode cX7_numberOfMostOdds 58 = .ok (.lload 8, 2) := by decide +kernel
theorem dX7_numberOfMostOdds_60 : decode cX7_numberOfMostOdds 60 = .ok (.lstore 5, 2) := by decide +kernel
theorem dX7_numberOfMostOdds_62 : decode cX7_numberOfMostOdds 62 = .ok (.iload 7, 2) := by decide +kernel
theorem dX7_numberOfMostOdds_64 : decode cX7_numberOfMostOdds 64 = .ok (.istore 4, 2) := by decide +kernel
theorem dX7_numberOfMostOdds_66 : decode cX7_numberOfMostOdds 66 = .ok (.iinc 7 1, 3) := by decide +kernel
theorem dX7_numberOfMostOdds_69 : decode cX7_numberOfMostOdds 69 = .ok (.goto (-45), 3) := by decide +kernel
theorem dX7_numberOfMostOdds_72 : decode cX7_numberOfMostOdds 72 = .ok (.iload_n 1, 1) := by decide +kernel
theorem dX7_numberOfMostOdds_73 : decode cX7_numberOfMostOdds 73 = .ok (.iconst 3, 1) := by decide +kernel
theorem dX7_numberOfMostOdds_74 : decode cX7_numberOfMostOdds 74 = .ok (.imul, 1) := by decide +kernel
theorem dX7_numberOfMostOdds_75 : decode cX7_numberOfMostOdds 75 = .ok (.iload 4, 2) := by decide +kernel
theorem dX7_numberOfMostOdds_77 : decode cX7_numberOfMostOdds 77 = .ok (.iadd, 1) := by decide +kernel
theorem dX7_numberOfMostOdds_78 : decode cX7_numberOfMostOdds 78 = .ok (.istore_n 1, 1) := by decide +kernel
theorem dX7_numberOfMostOdds_79 : decode cX7_numberOfMostOdds 79 = .ok (.iload 4, 2) := by decide +kernel
theorem dX7_numberOfMostOdds_81 : decode cX7_numberOfMostOdds 81 = .ok (.istore_n 2, 1) := by decide +kernel
theorem dX7_numberOfMostOdds_82 : decode cX7_numberOfMostOdds 82 = .ok (.iinc 3 1, 3) := by decide +kernel
theorem dX7_numberOfMostOdds_85 : decode cX7_numberOfMostOdds 85 = .ok (.goto (-76), 3) := by decide +kernel
theorem dX7_numberOfMostOdds_88 : decode cX7_numberOfMostOdds 88 = .ok (.iload_n 1, 1) := by decide +kernel
theorem dX7_numberOfMostOdds_89 : decode cX7_numberOfMostOdds 89 = .ok (.ireturn, 1) := by decide +kernel
theorem dX7_meanByKnowing_0 : decode cX7_meanByKnowing 0 = .ok (.lconst 0, 1) := by decide +kernel
theorem dX7_meanByKnowing_1 : decode cX7_meanByKnowing 1 = .ok (.lstore 4, 2) := by decide +kernel
theorem dX7_meanByKnowing_3 : decode cX7_meanByKnowing 3 = .ok (.iconst 0, 1) := by decide +kernel
theorem dX7_meanByKnowing_4 : decode cX7_meanByKnowing 4 = .ok (.istore 6, 2) := by decide +kernel
theorem dX7_meanByKnowing_6 : decode cX7_meanByKnowing 6 = .ok (.iload 6, 2) := by decide +kernel
theorem dX7_meanByKnowing_8 : decode cX7_meanByKnowing 8 = .ok (.iconst 3, 1) := by decide +kernel
theorem dX7_meanByKnowing_9 : decode cX7_meanByKnowing 9 = .ok (.if_icmp .ge 33, 3) := by decide +kernel
theorem dX7_meanByKnowing_12 : decode cX7_meanByKnowing 12 = .ok (.lload 4, 2) := by decide +kernel
theorem dX7_meanByKnowing_14 : decode cX7_meanByKnowing 14 = .ok (.aload_n 0, 1) := by decide +kernel
theorem dX7_meanByKnowing_15 : decode cX7_meanByKnowing 15 = .ok (.iconst 1, 1) := by decide +kernel
theorem dX7_meanByKnowing_16 : decode cX7_meanByKnowing 16 = .ok (.iload 6, 2) := by decide +kernel
theorem dX7_meanByKnowing_18 : decode cX7_meanByKnowing 18 = .ok (.invokevirtual 61, 3) := by decide +kernel
theorem dX7_meanByKnowing_21 : decode cX7_meanByKnowing 21 = .ok (.aload_n 0, 1) := by decide +kernel
theorem dX7_meanByKnowing_22 : decode cX7_meanByKnowing 22 = .ok (.getfield 31, 3) := by decide +kernel
theorem dX7_meanByKnowing_25 : decode cX7_meanByKnowing 25 = .ok (.iload_n 1, 1) := by decide +kernel
theorem dX7_meanByKnowing_26 : decode cX7_meanByKnowing 26 = .ok (.iload 6, 2) := by decide +kernel
theorem dX7_meanByKnowing_28 : decode cX7_meanByKnowing 28 = .ok (.invokevirtual 69, 3) := by decide +kernel
theorem dX7_meanByKnowing_31 : decode cX7_meanByKnowing 31 = .ok (.i2l, 1) := by decide +kernel
theorem dX7_meanByKnowing_32 : decode cX7_meanByKnowing 32 = .ok (.lmul, 1) := by decide +kernel
theorem dX7_meanByKnowing_33 : decode cX7_meanByKnowing 33 = .ok (.ladd, 1) := by decide +kernel
theorem dX7_meanByKnowing_34 : decode cX7_meanByKnowing 34 = .ok (.lstore 4, 2) := by decide +kernel
theorem dX7_meanByKnowing_36 : decode cX7_meanByKnowing 36 = .ok (.iinc 6 1, 3) := by decide +kernel
theorem dX7_meanByKnowing_39 : decode cX7_meanByKnowing 39 = .ok (.goto (-33), 3) := by decide +kernel
theorem dX7_meanByKnowing_42 : decode cX7_meanByKnowing 42 = .ok (.aload_n 0, 1) := by decide +kernel
theorem dX7_meanByKnowing_43 : decode cX7_meanByKnowing 43 = .ok (.iconst 1, 1) := by decide +kernel
theorem dX7_meanByKnowing_44 : decode cX7_meanByKnowing 44 = .ok (.iconst 1, 1) := by decide +kernel
theorem dX7_meanByKnowing_45 : decode cX7_meanByKnowing 45 = .ok (.invokevirtual 61, 3) := by decide +kernel
theorem dX7_meanByKnowing_48 : decode cX7_meanByKnowing 48 = .ok (.aload_n 0, 1) := by decide +kernel
theorem dX7_meanByKnowing_49 : decode cX7_meanByKnowing 49 = .ok (.getfield 31, 3) := by decide +kernel
theorem dX7_meanByKnowing_52 : decode cX7_meanByKnowing 52 = .ok (.iload_n 1, 1) := by decide +kernel
theorem dX7_meanByKnowing_53 : decode cX7_meanByKnowing 53 = .ok (.iconst 1, 1) := by decide +kernel
theorem dX7_meanByKnowing_54 : decode cX7_meanByKnowing 54 = .ok (.invokevirtual 69, 3) := by decide +kernel
theorem dX7_meanByKnowing_57 : decode cX7_meanByKnowing 57 = .ok (.i2l, 1) := by decide +kernel
theorem dX7_meanByKnowing_58 : decode cX7_meanByKnowing 58 = .ok (.lmul, 1) := by decide +kernel
theorem dX7_meanByKnowing_59 : decode cX7_meanByKnowing 59 = .ok (.lstore 6, 2) := by decide +kernel
theorem dX7_meanByKnowing_61 : decode cX7_meanByKnowing 61 = .ok (.iload_n 2, 1) := by decide +kernel
theorem dX7_meanByKnowing_62 : decode cX7_meanByKnowing 62 = .ok (.i2l, 1) := by decide +kernel
theorem dX7_meanByKnowing_63 : decode cX7_meanByKnowing 63 = .ok (.lload 4, 2) := by decide +kernel
theorem dX7_meanByKnowing_65 : decode cX7_meanByKnowing 65 = .ok (.lmul, 1) := by decide +kernel
theorem dX7_meanByKnowing_66 : decode cX7_meanByKnowing 66 = .ok (.iload_n 3, 1) := by decide +kernel
theorem dX7_meanByKnowing_67 : decode cX7_meanByKnowing 67 = .ok (.i2l, 1) := by decide +kernel
theorem dX7_meanByKnowing_68 : decode cX7_meanByKnowing 68 = .ok (.lload 6, 2) := by decide +kernel
theorem dX7_meanByKnowing_70 : decode cX7_meanByKnowing 70 = .ok (.lmul, 1) := by decide +kernel
theorem dX7_meanByKnowing_71 : decode cX7_meanByKnowing 71 = .ok (.invokestatic 73, 3) := by decide +kernel
theorem dX7_meanByKnowing_74 : decode cX7_meanByKnowing 74 = .ok (.lreturn, 1) := by decide +kernel
theorem dX7_reckon_0 : decode cX7_reckon 0 = .ok (.aload_n 0, 1) := by decide +kernel
theorem dX7_reckon_1 : decode cX7_reckon 1 = .ok (.invokevirtual 79, 3) := by decide +kernel
theorem dX7_reckon_4 : decode cX7_reckon 4 = .ok (.aload_n 0, 1) := by decide +kernel
theorem dX7_reckon_5 : decode cX7_reckon 5 = .ok (.invokevirtual 82, 3) := by decide +kernel
theorem dX7_reckon_8 : decode cX7_reckon 8 = .ok (.return_, 1) := by decide +kernel
theorem dX7_reckonBehind_0 : decode cX7_reckonBehind 0 = .ok (.iconst 0, 1) := by decide +kernel
theorem dX7_reckonBehind_1 : decode cX7_reckonBehind 1 = .ok (.istore_n 1, 1) := by decide +kernel
theorem dX7_reckonBehind_2 : decode cX7_reckonBehind 2 = .ok (.iload_n 1, 1) := by decide +kernel
theorem dX7_reckonBehind_3 : decode cX7_reckonBehind 3 = .ok (.iconst 3, 1) := by decide +kernel
theorem dX7_reckonBehind_4 : decode cX7_reckonBehind 4 = .ok (.if_icmp .ge 39, 3) := by decide +kernel
theorem dX7_reckonBehind_7 : decode cX7_reckonBehind 7 = .ok (.aload_n 0, 1) := by decide +kernel
theorem dX7_reckonBehind_8 : decode cX7_reckonBehind 8 = .ok (.getfield 20, 3) := by decide +kernel
theorem dX7_reckonBehind_11 : decode cX7_reckonBehind 11 = .ok (.bipush 6, 2) := by decide +kernel
theorem dX7_reckonBehind_13 : decode cX7_reckonBehind 13 = .ok (.aaload, 1) := by decide +kernel
theorem dX7_reckonBehind_14 : decode cX7_reckonBehind 14 = .ok (.iload_n 1, 1) := by decide +kernel
theorem dX7_reckonBehind_15 : decode cX7_reckonBehind 15 = .ok (.lconst 1, 1) := by decide +kernel
theorem dX7_reckonBehind_16 : decode cX7_reckonBehind 16 = .ok (.lastore, 1) := by decide +kernel
theorem dX7_reckonBehind_17 : decode cX7_reckonBehind 17 = .ok (.aload_n 0, 1) := by decide +kernel
theorem dX7_reckonBehind_18 : decode cX7_reckonBehind 18 = .ok (.getfield 23, 3) := by decide +kernel
theorem dX7_reckonBehind_21 : decode cX7_reckonBehind 21 = .ok (.bipush 6, 2) := by decide +kernel
theorem dX7_reckonBehind_23 : decode cX7_reckonBehind 23 = .ok (.aaload, 1) := by decide +kernel
theorem dX7_reckonBehind_24 : decode cX7_reckonBehind 24 = .ok (.iload_n 1, 1) := by decide +kernel
theorem dX7_reckonBehind_25 : decode cX7_reckonBehind 25 = .ok (.lconst 1, 1) := by decide +kernel
theorem dX7_reckonBehind_26 : decode cX7_reckonBehind 26 = .ok (.lastore, 1) := by decide +kernel
theorem dX7_reckonBehind_27 : decode cX7_reckonBehind 27 = .ok (.aload_n 0, 1) := by decide +kernel
theorem dX7_reckonBehind_28 : decode cX7_reckonBehind 28 = .ok (.getfield 28, 3) := by decide +kernel
theorem dX7_reckonBehind_31 : decode cX7_reckonBehind 31 = .ok (.bipush 6, 2) := by decide +kernel
theorem dX7_reckonBehind_33 : decode cX7_reckonBehind 33 = .ok (.aaload, 1) := by decide +kernel
theorem dX7_reckonBehind_34 : decode cX7_reckonBehind 34 = .ok (.iload_n 1, 1) := by decide +kernel
theorem dX7_reckonBehind_35 : decode cX7_reckonBehind 35 = .ok (.iconst 1, 1) := by decide +kernel
theorem dX7_reckonBehind_36 : decode cX7_reckonBehind 36 = .ok (.iastore, 1) := by decide +kernel
theorem dX7_reckonBehind_37 : decode cX7_reckonBehind 37 = .ok (.iinc 1 1, 3) := by decide +kernel
theorem dX7_reckonBehind_40 : decode cX7_reckonBehind 40 = .ok (.goto (-38), 3) := by decide +kernel
theorem dX7_reckonBehind_43 : decode cX7_reckonBehind 43 = .ok (.iconst 5, 1) := by decide +kernel
theorem dX7_reckonBehind_44 : decode cX7_reckonBehind 44 = .ok (.istore_n 1, 1) := by decide +kernel
theorem dX7_reckonBehind_45 : decode cX7_reckonBehind 45 = .ok (.iload_n 1, 1) := by decide +kernel
theorem dX7_reckonBehind_46 : decode cX7_reckonBehind 46 = .ok (.ifCond .lt 161, 3) := by decide +kernel
theorem dX7_reckonBehind_49 : decode cX7_reckonBehind 49 = .ok (.iconst 0, 1) := by decide +kernel
theorem dX7_reckonBehind_50 : decode cX7_reckonBehind 50 = .ok (.istore_n 2, 1) := by decide +kernel
theorem dX7_reckonBehind_51 : decode cX7_reckonBehind 51 = .ok (.iload_n 2, 1) := by decide +kernel
theorem dX7_reckonBehind_52 : decode cX7_reckonBehind 52 = .ok (.iconst 3, 1) := by decide +kernel
theorem dX7_reckonBehind_53 : decode cX7_reckonBehind 53 = .ok (.if_icmp .ge 148, 3) := by decide +kernel
theorem dX7_reckonBehind_56 : decode cX7_reckonBehind 56 = .ok (.aload_n 0, 1) := by decide +kernel
theorem dX7_reckonBehind_57 : decode cX7_reckonBehind 57 = .ok (.getfield 20, 3) := by decide +kernel
theorem dX7_reckonBehind_60 : decode cX7_reckonBehind 60 = .ok (.iload_n 1, 1) := by decide +kernel
theorem dX7_reckonBehind_61 : decode cX7_reckonBehind 61 = .ok (.aaload, 1) := by decide +kernel
theorem dX7_reckonBehind_62 : decode cX7_reckonBehind 62 = .ok (.iload_n 2, 1) := by decide +kernel
theorem dX7_reckonBehind_63 : decode cX7_reckonBehind 63 = .ok (.lconst 0, 1) := by decide +kernel
theorem dX7_reckonBehind_64 : decode cX7_reckonBehind 64 = .ok (.lastore, 1) := by decide +kernel
theorem dX7_reckonBehind_65 : decode cX7_reckonBehind 65 = .ok (.aload_n 0, 1) := by decide +kernel
theorem dX7_reckonBehind_66 : decode cX7_reckonBehind 66 = .ok (.getfield 23, 3) := by decide +kernel
theorem dX7_reckonBehind_69 : decode cX7_reckonBehind 69 = .ok (.iload_n 1, 1) := by decide +kernel
theorem dX7_reckonBehind_70 : decode cX7_reckonBehind 70 = .ok (.aaload, 1) := by decide +kernel
theorem dX7_reckonBehind_71 : decode cX7_reckonBehind 71 = .ok (.iload_n 2, 1) := by decide +kernel
theorem dX7_reckonBehind_72 : decode cX7_reckonBehind 72 = .ok (.lconst 0, 1) := by decide +kernel
theorem dX7_reckonBehind_73 : decode cX7_reckonBehind 73 = .ok (.lastore, 1) := by decide +kernel
theorem dX7_reckonBehind_74 : decode cX7_reckonBehind 74 = .ok (.aload_n 0, 1) := by decide +kernel
theorem dX7_reckonBehind_75 : decode cX7_reckonBehind 75 = .ok (.getfield 28, 3) := by decide +kernel
theorem dX7_reckonBehind_78 : decode cX7_reckonBehind 78 = .ok (.iload_n 1, 1) := by decide +kernel
theorem dX7_reckonBehind_79 : decode cX7_reckonBehind 79 = .ok (.aaload, 1) := by decide +kernel
theorem dX7_reckonBehind_80 : decode cX7_reckonBehind 80 = .ok (.iload_n 2, 1) := by decide +kernel
theorem dX7_reckonBehind_81 : decode cX7_reckonBehind 81 = .ok (.iconst 0, 1) := by decide +kernel
theorem dX7_reckonBehind_82 : decode cX7_reckonBehind 82 = .ok (.iastore, 1) := by decide +kernel
theorem dX7_reckonBehind_83 : decode cX7_reckonBehind 83 = .ok (.iconst 0, 1) := by decide +kernel
theorem dX7_reckonBehind_84 : decode cX7_reckonBehind 84 = .ok (.istore_n 3, 1) := by decide +kernel
theorem dX7_reckonBehind_85 : decode cX7_reckonBehind 85 = .ok (.iload_n 3, 1) := by decide +kernel
theorem dX7_reckonBehind_86 : decode cX7_reckonBehind 86 = .ok (.iconst 3, 1) := by decide +kernel
theorem dX7_reckonBehind_87 : decode cX7_reckonBehind 87 = .ok (.if_icmp .ge 108, 3) := by decide +kernel
theorem dX7_reckonBehind_90 : decode cX7_reckonBehind 90 = .ok (.aload_n 0, 1) := by decide +kernel
theorem dX7_reckonBehind_91 : decode cX7_reckonBehind 91 = .ok (.iload_n 1, 1) := by decide +kernel
theorem dX7_reckonBehind_92 : decode cX7_reckonBehind 92 = .ok (.iconst 1, 1) := by decide +kernel
theorem dX7_reckonBehind_93 : decode cX7_reckonBehind 93 = .ok (.iadd, 1) := by decide +kernel
theorem dX7_reckonBehind_94 : decode cX7_reckonBehind 94 = .ok (.iload_n 2, 1) := by decide +kernel
theorem dX7_reckonBehind_95 : decode cX7_reckonBehind 95 = .ok (.iload_n 3, 1) := by decide +kernel
theorem dX7_reckonBehind_96 : decode cX7_reckonBehind 96 = .ok (.invokevirtual 65, 3) := by decide +kernel
theorem dX7_reckonBehind_99 : decode cX7_reckonBehind 99 = .ok (.lstore 4, 2) := by decide +kernel
theorem dX7_reckonBehind_101 : decode cX7_reckonBehind 101 = .ok (.aload_n 0, 1) := by decide +kernel
theorem dX7_reckonBehind_102 : decode cX7_reckonBehind 102 = .ok (.getfield 20, 3) := by decide +kernel
theorem dX7_reckonBehind_105 : decode cX7_reckonBehind 105 = .ok (.iload_n 1, 1) := by decide +kernel
theorem dX7_reckonBehind_106 : decode cX7_reckonBehind 106 = .ok (.aaload, 1) := by decide +kernel
theorem dX7_reckonBehind_107 : decode cX7_reckonBehind 107 = .ok (.iload_n 2, 1) := by decide +kernel
theorem dX7_reckonBehind_108 : decode cX7_reckonBehind 108 = .ok (.dup2, 1) := by decide +kernel
theorem dX7_reckonBehind_109 : decode cX7_reckonBehind 109 = .ok (.laload, 1) := by decide +kernel
theorem dX7_reckonBehind_110 : decode cX7_reckonBehind 110 = .ok (.lload 4, 2) := by decide +kernel
theorem dX7_reckonBehind_112 : decode cX7_reckonBehind 112 = .ok (.aload_n 0, 1) := by decide +kernel
theorem dX7_reckonBehind_113 : decode cX7_reckonBehind 113 = .ok (.getfield 20, 3) := by decide +kernel
theorem dX7_reckonBehind_116 : decode cX7_reckonBehind 116 = .ok (.iload_n 1, 1) := by decide +kernel
theorem dX7_reckonBehind_117 : decode cX7_reckonBehind 117 = .ok (.iconst 1, 1) := by decide +kernel
theorem dX7_reckonBehind_118 : decode cX7_reckonBehind 118 = .ok (.iadd, 1) := by decide +kernel
theorem dX7_reckonBehind_119 : decode cX7_reckonBehind 119 = .ok (.aaload, 1) := by decide +kernel
theorem dX7_reckonBehind_120 : decode cX7_reckonBehind 120 = .ok (.iload_n 3, 1) := by decide +kernel
theorem dX7_reckonBehind_121 : decode cX7_reckonBehind 121 = .ok (.laload, 1) := by decide +kernel
theorem dX7_reckonBehind_122 : decode cX7_reckonBehind 122 = .ok (.lmul, 1) := by decide +kernel
theorem dX7_reckonBehind_123 : decode cX7_reckonBehind 123 = .ok (.ladd, 1) := by decide +kernel
theorem dX7_reckonBehind_124 : decode cX7_reckonBehind 124 = .ok (.lastore, 1) := by decide +kernel
theorem dX7_reckonBehind_125 : decode cX7_reckonBehind 125 = .ok (.aload_n 0, 1) := by decide +kernel
theorem dX7_reckonBehind_126 : decode cX7_reckonBehind 126 = .ok (.getfield 23, 3) := by decide +kernel
theorem dX7_reckonBehind_129 : decode cX7_reckonBehind 129 = .ok (.iload_n 1, 1) := by decide +kernel
theorem dX7_reckonBehind_130 : decode cX7_reckonBehind 130 = .ok (.aaload, 1) := by decide +kernel
theorem dX7_reckonBehind_131 : decode cX7_reckonBehind 131 = .ok (.iload_n 2, 1) := by decide +kernel
theorem dX7_reckonBehind_132 : decode cX7_reckonBehind 132 = .ok (.aload_n 0, 1) := by decide +kernel
theorem dX7_reckonBehind_133 : decode cX7_reckonBehind 133 = .ok (.getfield 23, 3) := by decide +kernel
theorem dX7_reckonBehind_136 : decode cX7_reckonBehind 136 = .ok (.iload_n 1, 1) := by decide +kernel
theorem dX7_reckonBehind_137 : decode cX7_reckonBehind 137 = .ok (.aaload, 1) := by decide +kernel
theorem dX7_reckonBehind_138 : decode cX7_reckonBehind 138 = .ok (.iload_n 2, 1) := by decide +kernel
theorem dX7_reckonBehind_139 : decode cX7_reckonBehind 139 = .ok (.laload, 1) := by decide +kernel
theorem dX7_reckonBehind_140 : decode cX7_reckonBehind 140 = .ok (.lload 4, 2) := by decide +kernel
theorem dX7_reckonBehind_142 : decode cX7_reckonBehind 142 = .ok (.aload_n 0, 1) := by decide +kernel
theorem dX7_reckonBehind_143 : decode cX7_reckonBehind 143 = .ok (.getfield 23, 3) := by decide +kernel
theorem dX7_reckonBehind_146 : decode cX7_reckonBehind 146 = .ok (.iload_n 1, 1) := by decide +kernel
theorem dX7_reckonBehind_147 : decode cX7_reckonBehind 147 = .ok (.iconst 1, 1) := by decide +kernel
theorem dX7_reckonBehind_148 : decode cX7_reckonBehind 148 = .ok (.iadd, 1) := by decide +kernel
theorem dX7_reckonBehind_149 : decode cX7_reckonBehind 149 = .ok (.aaload, 1) := by decide +kernel
theorem dX7_reckonBehind_150 : decode cX7_reckonBehind 150 = .ok (.iload_n 3, 1) := by decide +kernel
theorem dX7_reckonBehind_151 : decode cX7_reckonBehind 151 = .ok (.laload, 1) := by decide +kernel
theorem dX7_reckonBehind_152 : decode cX7_reckonBehind 152 = .ok (.lmul, 1) := by decide +kernel
theorem dX7_reckonBehind_153 : decode cX7_reckonBehind 153 = .ok (.invokestatic 85, 3) := by decide +kernel
theorem dX7_reckonBehind_156 : decode cX7_reckonBehind 156 = .ok (.lastore, 1) := by decide +kernel
theorem dX7_reckonBehind_157 : decode cX7_reckonBehind 157 = .ok (.aload_n 0, 1) := by decide +kernel
theorem dX7_reckonBehind_158 : decode cX7_reckonBehind 158 = .ok (.getfield 28, 3) := by decide +kernel
theorem dX7_reckonBehind_161 : decode cX7_reckonBehind 161 = .ok (.iload_n 1, 1) := by decide +kernel
theorem dX7_reckonBehind_162 : decode cX7_reckonBehind 162 = .ok (.aaload, 1) := by decide +kernel
theorem dX7_reckonBehind_163 : decode cX7_reckonBehind 163 = .ok (.iload_n 2, 1) := by decide +kernel
theorem dX7_reckonBehind_164 : decode cX7_reckonBehind 164 = .ok (.dup2, 1) := by decide +kernel
theorem dX7_reckonBehind_165 : decode cX7_reckonBehind 165 = .ok (.iaload, 1) := by decide +kernel
theorem dX7_reckonBehind_166 : decode cX7_reckonBehind 166 = .ok (.lload 4, 2) := by decide +kernel
theorem dX7_reckonBehind_168 : decode cX7_reckonBehind 168 = .ok (.lconst 0, 1) := by decide +kernel
theorem dX7_reckonBehind_169 : decode cX7_reckonBehind 169 = .ok (.lcmp, 1) := by decide +kernel
theorem dX7_reckonBehind_170 : decode cX7_reckonBehind 170 = .ok (.ifCond .le 16, 3) := by decide +kernel
theorem dX7_reckonBehind_173 : decode cX7_reckonBehind 173 = .ok (.aload_n 0, 1) := by decide +kernel
theorem dX7_reckonBehind_174 : decode cX7_reckonBehind 174 = .ok (.getfield 28, 3) := by decide +kernel
theorem dX7_reckonBehind_177 : decode cX7_reckonBehind 177 = .ok (.iload_n 1, 1) := by decide +kernel
theorem dX7_reckonBehind_178 : decode cX7_reckonBehind 178 = .ok (.iconst 1, 1) := by decide +kernel
theorem dX7_reckonBehind_179 : decode cX7_reckonBehind 179 = .ok (.iadd, 1) := by decide +kernel
theorem dX7_reckonBehind_180 : decode cX7_reckonBehind 180 = .ok (.aaload, 1) := by decide +kernel
theorem dX7_reckonBehind_181 : decode cX7_reckonBehind 181 = .ok (.iload_n 3, 1) := by decide +kernel
theorem dX7_reckonBehind_182 : decode cX7_reckonBehind 182 = .ok (.iaload, 1) := by decide +kernel
theorem dX7_reckonBehind_183 : decode cX7_reckonBehind 183 = .ok (.goto 4, 3) := by decide +kernel
theorem dX7_reckonBehind_186 : decode cX7_reckonBehind 186 = .ok (.iconst 0, 1) := by decide +kernel
theorem dX7_reckonBehind_187 : decode cX7_reckonBehind 187 = .ok (.iadd, 1) := by decide +kernel
theorem dX7_reckonBehind_188 : decode cX7_reckonBehind 188 = .ok (.iastore, 1) := by decide +kernel
theorem dX7_reckonBehind_189 : decode cX7_reckonBehind 189 = .ok (.iinc 3 1, 3) := by decide +kernel
theorem dX7_reckonBehind_192 : decode cX7_reckonBehind 192 = .ok (.goto (-107), 3) := by decide +kernel
theorem dX7_reckonBehind_195 : decode cX7_reckonBehind 195 = .ok (.iinc 2 1, 3) := by decide +kernel
theorem dX7_reckonBehind_198 : decode cX7_reckonBehind 198 = .ok (.goto (-147), 3) := by decide +kernel
theorem dX7_reckonBehind_201 : decode cX7_reckonBehind 201 = .ok (.iinc 1 (-1), 3) := by decide +kernel
theorem dX7_reckonBehind_204 : decode cX7_reckonBehind 204 = .ok (.goto (-159), 3) := by decide +kernel
theorem dX7_reckonBehind_207 : decode cX7_reckonBehind 207 = .ok (.return_, 1) := by decide +kernel
theorem dX7_reckonUntil_0 : decode cX7_reckonUntil 0 = .ok (.iconst 0, 1) := by decide +kernel
theorem dX7_reckonUntil_1 : decode cX7_reckonUntil 1 = .ok (.istore_n 1, 1) := by decide +kernel
theorem dX7_reckonUntil_2 : decode cX7_reckonUntil 2 = .ok (.iload_n 1, 1) := by decide +kernel
theorem dX7_reckonUntil_3 : decode cX7_reckonUntil 3 = .ok (.iconst 3, 1) := by decide +kernel
theorem dX7_reckonUntil_4 : decode cX7_reckonUntil 4 = .ok (.if_icmp .ge 30, 3) := by decide +kernel
theorem dX7_reckonUntil_7 : decode cX7_reckonUntil 7 = .ok (.aload_n 0, 1) := by decide +kernel
theorem dX7_reckonUntil_8 : decode cX7_reckonUntil 8 = .ok (.getfield 17, 3) := by decide +kernel
theorem dX7_reckonUntil_11 : decode cX7_reckonUntil 11 = .ok (.iconst 0, 1) := by decide +kernel
theorem dX7_reckonUntil_12 : decode cX7_reckonUntil 12 = .ok (.aaload, 1) := by decide +kernel
theorem dX7_reckonUntil_13 : decode cX7_reckonUntil 13 = .ok (.iload_n 1, 1) := by decide +kernel
theorem dX7_reckonUntil_14 : decode cX7_reckonUntil 14 = .ok (.iload_n 1, 1) := by decide +kernel
theorem dX7_reckonUntil_15 : decode cX7_reckonUntil 15 = .ok (.aload_n 0, 1) := by decide +kernel
theorem dX7_reckonUntil_16 : decode cX7_reckonUntil 16 = .ok (.getfield 39, 3) := by decide +kernel
theorem dX7_reckonUntil_19 : decode cX7_reckonUntil 19 = .ok (.if_icmp .ne 7, 3) := by decide +kernel
theorem dX7_reckonUntil_22 : decode cX7_reckonUntil 22 = .ok (.lconst 1, 1) := by decide +kernel
theorem dX7_reckonUntil_23 : decode cX7_reckonUntil 23 = .ok (.goto 4, 3) := by decide +kernel
theorem dX7_reckonUntil_26 : decode cX7_reckonUntil 26 = .ok (.lconst 0, 1) := by decide +kernel
theorem dX7_reckonUntil_27 : decode cX7_reckonUntil 27 = .ok (.lastore, 1) := by decide +kernel
theorem dX7_reckonUntil_28 : decode cX7_reckonUntil 28 = .ok (.iinc 1 1, 3) := by decide +kernel
theorem dX7_reckonUntil_31 : decode cX7_reckonUntil 31 = .ok (.goto (-29), 3) := by decide +kernel
theorem dX7_reckonUntil_34 : decode cX7_reckonUntil 34 = .ok (.iconst 1, 1) := by decide +kernel
theorem dX7_reckonUntil_35 : decode cX7_reckonUntil 35 = .ok (.istore_n 1, 1) := by decide +kernel
theorem dX7_reckonUntil_36 : decode cX7_reckonUntil 36 = .ok (.iload_n 1, 1) := by decide +kernel
theorem dX7_reckonUntil_37 : decode cX7_reckonUntil 37 = .ok (.bipush 6, 2) := by decide +kernel
theorem dX7_reckonUntil_39 : decode cX7_reckonUntil 39 = .ok (.if_icmp .gt 73, 3) := by decide +kernel
theorem dX7_reckonUntil_42 : decode cX7_reckonUntil 42 = .ok (.iconst 0, 1) := by decide +kernel
theorem dX7_reckonUntil_43 : decode cX7_reckonUntil 43 = .ok (.istore_n 2, 1) := by decide +kernel
theorem dX7_reckonUntil_44 : decode cX7_reckonUntil 44 = .ok (.iload_n 2, 1) := by decide +kernel
theorem dX7_reckonUntil_45 : decode cX7_reckonUntil 45 = .ok (.iconst 3, 1) := by decide +kernel
theorem dX7_reckonUntil_46 : decode cX7_reckonUntil 46 = .ok (.if_icmp .ge 60, 3) := by decide +kernel
theorem dX7_reckonUntil_49 : decode cX7_reckonUntil 49 = .ok (.aload_n 0, 1) := by decide +kernel
theorem dX7_reckonUntil_50 : decode cX7_reckonUntil 50 = .ok (.getfield 17, 3) := by decide +kernel
theorem dX7_reckonUntil_53 : decode cX7_reckonUntil 53 = .ok (.iload_n 1, 1) := by decide +kernel
theorem dX7_reckonUntil_54 : decode cX7_reckonUntil 54 = .ok (.aaload, 1) := by decide +kernel
theorem dX7_reckonUntil_55 : decode cX7_reckonUntil 55 = .ok (.iload_n 2, 1) := by decide +kernel
theorem dX7_reckonUntil_56 : decode cX7_reckonUntil 56 = .ok (.lconst 0, 1) := by decide +kernel
theorem dX7_reckonUntil_57 : decode cX7_reckonUntil 57 = .ok (.lastore, 1) := by decide +kernel
theorem dX7_reckonUntil_58 : decode cX7_reckonUntil 58 = .ok (.iconst 0, 1) := by decide +kernel
theorem dX7_reckonUntil_59 : decode cX7_reckonUntil 59 = .ok (.istore_n 3, 1) := by decide +kernel
theorem dX7_reckonUntil_60 : decode cX7_reckonUntil 60 = .ok (.iload_n 3, 1) := by decide +kernel
theorem dX7_reckonUntil_61 : decode cX7_reckonUntil 61 = .ok (.iconst 3, 1) := by decide +kernel
theorem dX7_reckonUntil_62 : decode cX7_reckonUntil 62 = .ok (.if_icmp .ge 38, 3) := by decide +kernel
theorem dX7_reckonUntil_65 : decode cX7_reckonUntil 65 = .ok (.aload_n 0, 1) := by decide +kernel
theorem dX7_reckonUntil_66 : decode cX7_reckonUntil 66 = .ok (.getfield 17, 3) := by decide +kernel
theorem dX7_reckonUntil_69 : decode cX7_reckonUntil 69 = .ok (.iload_n 1, 1) := by decide +kernel
theorem dX7_reckonUntil_70 : decode cX7_reckonUntil 70 = .ok (.aaload, 1) := by decide +kernel
theorem dX7_reckonUntil_71 : decode cX7_reckonUntil 71 = .ok (.iload_n 2, 1) := by decide +kernel
theorem dX7_reckonUntil_72 : decode cX7_reckonUntil 72 = .ok (.dup2, 1) := by decide +kernel
theorem dX7_reckonUntil_73 : decode cX7_reckonUntil 73 = .ok (.laload, 1) := by decide +kernel
theorem dX7_reckonUntil_74 : decode cX7_reckonUntil 74 = .ok (.aload_n 0, 1) := by decide +kernel
theorem dX7_reckonUntil_75 : decode cX7_reckonUntil 75 = .ok (.getfield 17, 3) := by decide +kernel
theorem dX7_reckonUntil_78 : decode cX7_reckonUntil 78 = .ok (.iload_n 1, 1) := by decide +kernel
theorem dX7_reckonUntil_79 : decode cX7_reckonUntil 79 = .ok (.iconst 1, 1) := by decide +kernel
theorem dX7_reckonUntil_80 : decode cX7_reckonUntil 80 = .ok (.isub, 1) := by decide +kernel
theorem dX7_reckonUntil_81 : decode cX7_reckonUntil 81 = .ok (.aaload, 1) := by decide +kernel
theorem dX7_reckonUntil_82 : decode cX7_reckonUntil 82 = .ok (.iload_n 3, 1) := by decide +kernel
theorem dX7_reckonUntil_83 : decode cX7_reckonUntil 83 = .ok (.laload, 1) := by decide +kernel
theorem dX7_reckonUntil_84 : decode cX7_reckonUntil 84 = .ok (.aload_n 0, 1) := by decide +kernel
theorem dX7_reckonUntil_85 : decode cX7_reckonUntil 85 = .ok (.iload_n 1, 1) := by decide +kernel
theorem dX7_reckonUntil_86 : decode cX7_reckonUntil 86 = .ok (.iload_n 3, 1) := by decide +kernel
theorem dX7_reckonUntil_87 : decode cX7_reckonUntil 87 = .ok (.iload_n 2, 1) := by decide +kernel
theorem dX7_reckonUntil_88 : decode cX7_reckonUntil 88 = .ok (.invokevirtual 65, 3) := by decide +kernel
theorem dX7_reckonUntil_91 : decode cX7_reckonUntil 91 = .ok (.lmul, 1) := by decide +kernel
theorem dX7_reckonUntil_92 : decode cX7_reckonUntil 92 = .ok (.ladd, 1) := by decide +kernel
theorem dX7_reckonUntil_93 : decode cX7_reckonUntil 93 = .ok (.lastore, 1) := by decide +kernel
theorem dX7_reckonUntil_94 : decode cX7_reckonUntil 94 = .ok (.iinc 3 1, 3) := by decide +kernel
theorem dX7_reckonUntil_97 : decode cX7_reckonUntil 97 = .ok (.goto (-37), 3) := by decide +kernel
theorem dX7_reckonUntil_100 : decode cX7_reckonUntil 100 = .ok (.iinc 2 1, 3) := by decide +kernel
theorem dX7_reckonUntil_103 : decode cX7_reckonUntil 103 = .ok (.goto (-59), 3) := by decide +kernel
theorem dX7_reckonUntil_106 : decode cX7_reckonUntil 106 = .ok (.iinc 1 1, 3) := by decide +kernel
theorem dX7_reckonUntil_109 : decode cX7_reckonUntil 109 = .ok (.goto (-73), 3) := by decide +kernel
theorem dX7_reckonUntil_112 : decode cX7_reckonUntil 112 = .ok (.return_, 1) := by decide +kernel
theorem dX7_stepOdds_0 : decode cX7_stepOdds 0 = .ok (.aload_n 0, 1) := by decide +kernel
theorem dX7_stepOdds_1 : decode cX7_stepOdds 1 = .ok (.getfield 31, 3) := by decide +kernel
theorem dX7_stepOdds_4 : decode cX7_stepOdds 4 = .ok (.iload_n 2, 1) := by decide +kernel
theorem dX7_stepOdds_5 : decode cX7_stepOdds 5 = .ok (.iload_n 3, 1) := by decide +kernel
theorem dX7_stepOdds_6 : decode cX7_stepOdds 6 = .ok (.invokevirtual 88, 3) := by decide +kernel
theorem dX7_stepOdds_9 : decode cX7_stepOdds 9 = .ok (.i2l, 1) := by decide +kernel
theorem dX7_stepOdds_10 : decode cX7_stepOdds 10 = .ok (.aload_n 0, 1) := by decide +kernel
theorem dX7_stepOdds_11 : decode cX7_stepOdds 11 = .ok (.getfield 31, 3) := by decide +kernel
theorem dX7_stepOdds_14 : decode cX7_stepOdds 14 = .ok (.aload_n 0, 1) := by decide +kernel
theorem dX7_stepOdds_15 : decode cX7_stepOdds 15 = .ok (.iload_n 1, 1) := by decide +kernel
theorem dX7_stepOdds_16 : decode cX7_stepOdds 16 = .ok (.invokevirtual 91, 3) := by decide +kernel
theorem dX7_stepOdds_19 : decode cX7_stepOdds 19 = .ok (.iload_n 3, 1) := by decide +kernel
theorem dX7_stepOdds_20 : decode cX7_stepOdds 20 = .ok (.invokevirtual 69, 3) := by decide +kernel
theorem dX7_stepOdds_23 : decode cX7_stepOdds 23 = .ok (.i2l, 1) := by decide +kernel
theorem dX7_stepOdds_24 : decode cX7_stepOdds 24 = .ok (.lmul, 1) := by decide +kernel
theorem dX7_stepOdds_25 : decode cX7_stepOdds 25 = .ok (.lreturn, 1) := by decide +kernel
theorem dX8_init_0 : decode cX8_init 0 = .ok (.aload_n 0, 1) := by decide +kernel
theorem dX8_init_1 : decode cX8_init 1 = .ok (.invokespecial 3, 3) := by decide +kernel
theorem dX8_init_4 : decode cX8_init 4 = .ok (.aload_n 0, 1) := by decide +kernel
theorem dX8_init_5 : decode cX8_init 5 = .ok (.bipush 16, 2) := by decide +kernel
theorem dX8_init_7 : decode cX8_init 7 = .ok (.newarray .int, 2) := by decide +kernel
theorem dX8_init_9 : decode cX8_init 9 = .ok (.putfield 11, 3) := by decide +kernel
theorem dX8_init_12 : decode cX8_init 12 = .ok (.return_, 1) := by decide +kernel
theorem dX8_append_0 : decode cX8_append 0 = .ok (.aload_n 0, 1) := by decide +kernel
theorem dX8_append_1 : decode cX8_append 1 = .ok (.getfield 15, 3) := by decide +kernel
theorem dX8_append_4 : decode cX8_append 4 = .ok (.ifCond .lt 12, 3) := by decide +kernel
theorem dX8_append_7 : decode cX8_append 7 = .ok (.aload_n 0, 1) := by decide +kernel
theorem dX8_append_8 : decode cX8_append 8 = .ok (.getfield 15, 3) := by decide +kernel
theorem dX8_append_11 : decode cX8_append 11 = .ok (.bipush 16, 2) := by decide +kernel
theorem dX8_append_13 : decode cX8_append 13 = .ok (.if_icmp .lt 5, 3) := by decide +kernel
theorem dX8_append_16 : decode cX8_append 16 = .ok (.iconst 0, 1) := by decide +kernel
theorem dX8_append_17 : decode cX8_append 17 = .ok (.ireturn, 1) := by decide +kernel
theorem dX8_append_18 : decode cX8_append 18 = .ok (.aload_n 0, 1) := by decide +kernel
theorem dX8_append_19 : decode cX8_append 19 = .ok (.getfield 11, 3) := by decide +kernel
theorem dX8_append_22 : decode cX8_append 22 = .ok (.aload_n 0, 1) := by decide +kernel
theorem dX8_append_23 : decode cX8_append 23 = .ok (.getfield 15, 3) := by decide +kernel
theorem dX8_append_26 : decode cX8_append 26 = .ok (.iload_n 1, 1) := by decide +kernel
theorem dX8_append_27 : decode cX8_append 27 = .ok (.iastore, 1) := by decide +kernel
theorem dX8_append_28 : decode cX8_append 28 = .ok (.aload_n 0, 1) := by decide +kernel
theorem dX8_append_29 : decode cX8_append 29 = .ok (.dup, 1) := by decide +kernel
theorem dX8_append_30 : decode cX8_append 30 = .ok (.getfield 15, 3) := by decide +kernel
theorem dX8_append_33 : decode cX8_append 33 = .ok (.iconst 1, 1) := by decide +kernel
theorem dX8_append_34 : decode cX8_append 34 = .ok (.iadd, 1) := by decide +kernel
theorem dX8_append_35 : decode cX8_append 35 = .ok (.putfield 15, 3) := by decide +kernel
theorem dX8_append_38 : decode cX8_append 38 = .ok (.iconst 1, 1) := by decide +kernel
theorem dX8_append_39 : decode cX8_append 39 = .ok (.ireturn, 1) := by decide +kernel
theorem dX8_codeAt_0 : decode cX8_codeAt 0 = .ok (.iload_n 1, 1) := by decide +kernel
theorem dX8_codeAt_1 : decode cX8_codeAt 1 = .ok (.ifCond .lt 26, 3) := by decide +kernel
theorem dX8_codeAt_4 : decode cX8_codeAt 4 = .ok (.iload_n 1, 1) := by decide +kernel
theorem dX8_codeAt_5 : decode cX8_codeAt 5 = .ok (.aload_n 0, 1) := by decide +kernel
theorem dX8_codeAt_6 : decode cX8_codeAt 6 = .ok (.getfield 15, 3) := by decide +kernel
theorem dX8_codeAt_9 : decode cX8_codeAt 9 = .ok (.if_icmp .ge 18, 3) := by decide +kernel
theorem dX8_codeAt_12 : decode cX8_codeAt 12 = .ok (.iload_n 1, 1) := by decide +kernel
theorem dX8_codeAt_13 : decode cX8_codeAt 13 = .ok (.bipush 16, 2) := by decide +kernel
theorem dX8_codeAt_15 : decode cX8_codeAt 15 = .ok (.if_icmp .ge 12, 3) := by decide +kernel
theorem dX8_codeAt_18 : decode cX8_codeAt 18 = .ok (.aload_n 0, 1) := by decide +kernel
theorem dX8_codeAt_19 : decode cX8_codeAt 19 = .ok (.getfield 11, 3) := by decide +kernel
theorem dX8_codeAt_22 : decode cX8_codeAt 22 = .ok (.iload_n 1, 1) := by decide +kernel
theorem dX8_codeAt_23 : decode cX8_codeAt 23 = .ok (.iaload, 1) := by decide +kernel
theorem dX8_codeAt_24 : decode cX8_codeAt 24 = .ok (.goto 4, 3) := by decide +kernel
theorem dX8_codeAt_27 : decode cX8_codeAt 27 = .ok (.iconst (-1), 1) := by decide +kernel
theorem dX8_codeAt_28 : decode cX8_codeAt 28 = .ok (.ireturn, 1) := by decide +kernel
theorem dX8_digitAt_0 : decode cX8_digitAt 0 = .ok (.aload_n 0, 1) := by decide +kernel
theorem dX8_digitAt_1 : decode cX8_digitAt 1 = .ok (.iload_n 1, 1) := by decide +kernel
theorem dX8_digitAt_2 : decode cX8_digitAt 2 = .ok (.invokevirtual 19, 3) := by decide +kernel
theorem dX8_digitAt_5 : decode cX8_digitAt 5 = .ok (.istore_n 2, 1) := by decide +kernel
theorem dX8_digitAt_6 : decode cX8_digitAt 6 = .ok (.iload_n 2, 1) := by decide +kernel
theorem dX8_digitAt_7 : decode cX8_digitAt 7 = .ok (.bipush 48, 2) := by decide +kernel
theorem dX8_digitAt_9 : decode cX8_digitAt 9 = .ok (.if_icmp .lt 16, 3) := by decide +kernel
theorem dX8_digitAt_12 : decode cX8_digitAt 12 = .ok (.iload_n 2, 1) := by decide +kernel
theorem dX8_digitAt_13 : decode cX8_digitAt 13 = .ok (.bipush 57, 2) := by decide +kernel
theorem dX8_digitAt_15 : decode cX8_digitAt 15 = .ok (.if_icmp .gt 10, 3) := by decide +kernel
theorem dX8_digitAt_18 : decode cX8_digitAt 18 = .ok (.iload_n 2, 1) := by decide +kernel
theorem dX8_digitAt_19 : decode cX8_digitAt 19 = .ok (.bipush 48, 2) := by decide +kernel
theorem dX8_digitAt_21 : decode cX8_digitAt 21 = .ok (.isub, 1) := by decide +kernel
theorem dX8_digitAt_22 : decode cX8_digitAt 22 = .ok (.goto 4, 3) := by decide +kernel
theorem dX8_digitAt_25 : decode cX8_digitAt 25 = .ok (.iconst (-1), 1) := by decide +kernel
theorem dX8_digitAt_26 : decode cX8_digitAt 26 = .ok (.ireturn, 1) := by decide +kernel
theorem dX8_isStation_0 : decode cX8_isStation 0 = .ok (.aload_n 0, 1) := by decide +kernel
theorem dX8_isStation_1 : decode cX8_isStation 1 = .ok (.getfield 15, 3) := by decide +kernel
theorem dX8_isStation_4 : decode cX8_isStation 4 = .ok (.bipush 14, 2) := by decide +kernel
theorem dX8_isStation_6 : decode cX8_isStation 6 = .ok (.if_icmp .ne 16, 3) := by decide +kernel
theorem dX8_isStation_9 : decode cX8_isStation 9 = .ok (.aload_n 0, 1) := by decide +kernel
theorem dX8_isStation_10 : decode cX8_isStation 10 = .ok (.invokevirtual 23, 3) := by decide +kernel
theorem dX8_isStation_13 : decode cX8_isStation 13 = .ok (.bipush 14, 2) := by decide +kernel
theorem dX8_isStation_15 : decode cX8_isStation 15 = .ok (.if_icmp .ne 7, 3) := by decide +kernel
theorem dX8_isStation_18 : decode cX8_isStation 18 = .ok (.iconst 1, 1) := by decide +kernel
theorem dX8_isStation_19 : decode cX8_isStation 19 = .ok (.goto 4, 3) := by decide +kernel
theorem dX8_isStation_22 : decode cX8_isStation 22 = .ok (.iconst 0, 1) := by decide +kernel
theorem dX8_isStation_23 : decode cX8_isStation 23 = .ok (.ireturn, 1) := by decide +kernel
theorem dX8_firstFault_0 : decode cX8_firstFault 0 = .ok (.iconst 0, 1) := by decide +kernel
theorem dX8_firstFault_1 : decode cX8_firstFault 1 = .ok (.istore_n 1, 1) := by decide +kernel
theorem dX8_firstFault_2 : decode cX8_firstFault 2 = .ok (.iload_n 1, 1) := by decide +kernel
theorem dX8_firstFault_3 : decode cX8_firstFault 3 = .ok (.aload_n 0, 1) := by decide +kernel
theorem dX8_firstFault_4 : decode cX8_firstFault 4 = .ok (.getfield 15, 3) := by decide +kernel
theorem dX8_firstFault_7 : decode cX8_firstFault 7 = .ok (.if_icmp .ge 19, 3) := by decide +kernel
theorem dX8_firstFault_10 : decode cX8_firstFault 10 = .ok (.aload_n 0, 1) := by decide +kernel
theorem dX8_firstFault_11 : decode cX8_firstFault 11 = .ok (.iload_n 1, 1) := by decide +kernel
theorem dX8_firstFault_12 : decode cX8_firstFault 12 = .ok (.invokevirtual 27, 3) := by decide +kernel
theorem dX8_firstFault_15 : decode cX8_firstFault 15 = .ok (.ifCond .ne 5, 3) := by decide +kernel
theorem dX8_firstFault_18 : decode cX8_firstFault 18 = .ok (.iload_n 1, 1) := by decide +kernel
theorem dX8_firstFault_19 : decode cX8_firstFault 19 = .ok (.ireturn, 1) := by decide +kernel
theorem dX8_firstFault_20 : decode cX8_firstFault 20 = .ok (.iinc 1 1, 3) := by decide +kernel
theorem dX8_firstFault_23 : decode cX8_firstFault 23 = .ok (.goto (-21), 3) := by decide +kernel
theorem dX8_firstFault_26 : decode cX8_firstFault 26 = .ok (.aload_n 0, 1) := by decide +kernel
theorem dX8_firstFault_27 : decode cX8_firstFault 27 = .ok (.getfield 15, 3) := by decide +kernel
theorem dX8_firstFault_30 : decode cX8_firstFault 30 = .ok (.ireturn, 1) := by decide +kernel
theorem dX8_isGoodAt_0 : decode cX8_isGoodAt 0 = .ok (.iload_n 1, 1) := by decide +kernel
theorem dX8_isGoodAt_1 : decode cX8_isGoodAt 1 = .ok (.bipush 13, 2) := by decide +kernel
theorem dX8_isGoodAt_3 : decode cX8_isGoodAt 3 = .ok (.if_icmp .le 5, 3) := by decide +kernel
theorem dX8_isGoodAt_6 : decode cX8_isGoodAt 6 = .ok (.iconst 0, 1) := by decide +kernel
theorem dX8_isGoodAt_7 : decode cX8_isGoodAt 7 = .ok (.ireturn, 1) := by decide +kernel
theorem dX8_isGoodAt_8 : decode cX8_isGoodAt 8 = .ok (.iload_n 1, 1) := by decide +kernel
theorem dX8_isGoodAt_9 : decode cX8_isGoodAt 9 = .ok (.bipush 13, 2) := by decide +kernel
theorem dX8_isGoodAt_11 : decode cX8_isGoodAt 11 = .ok (.if_icmp .ne 18, 3) := by decide +kernel
theorem dX8_isGoodAt_14 : decode cX8_isGoodAt 14 = .ok (.aload_n 0, 1) := by decide +kernel
theorem dX8_isGoodAt_15 : decode cX8_isGoodAt 15 = .ok (.iload_n 1, 1) := by decide +kernel
theorem dX8_isGoodAt_16 : decode cX8_isGoodAt 16 = .ok (.invokevirtual 31, 3) := by decide +kernel
theorem dX8_isGoodAt_19 : decode cX8_isGoodAt 19 = .ok (.iconst (-1), 1) := by decide +kernel
theorem dX8_isGoodAt_20 : decode cX8_isGoodAt 20 = .ok (.if_icmp .eq 7, 3) := by decide +kernel
theorem dX8_isGoodAt_23 : decode cX8_isGoodAt 23 = .ok (.iconst 1, 1) := by decide +kernel
theorem dX8_isGoodAt_24 : decode cX8_isGoodAt 24 = .ok (.goto 4, 3) := by decide +kernel
theorem dX8_isGoodAt_27 : decode cX8_isGoodAt 27 = .ok (.iconst 0, 1) := by decide +kernel
theorem dX8_isGoodAt_28 : decode cX8_isGoodAt 28 = .ok (.ireturn, 1) := by decide +kernel
theorem dX8_isGoodAt_29 : decode cX8_isGoodAt 29 = .ok (.iload_n 1, 1) := by decide +kernel
theorem dX8_isGoodAt_30 : decode cX8_isGoodAt 30 = .ok (.bipush 12, 2) := by decide +kernel
theorem dX8_isGoodAt_32 : decode cX8_isGoodAt 32 = .ok (.if_icmp .ne 27, 3) := by decide +kernel
theorem dX8_isGoodAt_35 : decode cX8_isGoodAt 35 = .ok (.aload_n 0, 1) := by decide +kernel
theorem dX8_isGoodAt_36 : decode cX8_isGoodAt 36 = .ok (.iload_n 1, 1) := by decide +kernel
theorem dX8_isGoodAt_37 : decode cX8_isGoodAt 37 = .ok (.invokevirtual 31, 3) := by decide +kernel
theorem dX8_isGoodAt_40 : decode cX8_isGoodAt 40 = .ok (.iconst 1, 1) := by decide +kernel
theorem dX8_isGoodAt_41 : decode cX8_isGoodAt 41 = .ok (.if_icmp .lt 16, 3) := by decide +kernel
theorem dX8_isGoodAt_44 : decode cX8_isGoodAt 44 = .ok (.aload_n 0, 1) := by decide +kernel
theorem dX8_isGoodAt_45 : decode cX8_isGoodAt 45 = .ok (.iload_n 1, 1) := by decide +kernel
theorem dX8_isGoodAt_46 : decode cX8_isGoodAt 46 = .ok (.invokevirtual 31, 3) := by decide +kernel
theorem dX8_isGoodAt_49 : decode cX8_isGoodAt 49 = .ok (.iconst 4, 1) := by decide +kernel
theorem dX8_isGoodAt_50 : decode cX8_isGoodAt 50 = .ok (.if_icmp .gt 7, 3) := by decide +kernel
theorem dX8_isGoodAt_53 : decode cX8_isGoodAt 53 = .ok (.iconst 1, 1) := by decide +kernel
theorem dX8_isGoodAt_54 : decode cX8_isGoodAt 54 = .ok (.goto 4, 3) := by decide +kernel
theorem dX8_isGoodAt_57 : decode cX8_isGoodAt 57 = .ok (.iconst 0, 1) := by decide +kernel
theorem dX8_isGoodAt_58 : decode cX8_isGoodAt 58 = .ok (.ireturn, 1) := by decide +kernel
theorem dX8_isGoodAt_59 : decode cX8_isGoodAt 59 = .ok (.iload_n 1, 1) := by decide +kernel
theorem dX8_isGoodAt_60 : decode cX8_isGoodAt 60 = .ok (.bipush 11, 2) := by decide +kernel
theorem dX8_isGoodAt_62 : decode cX8_isGoodAt 62 = .ok (.if_icmp .ne 19, 3) := by decide +kernel
theorem dX8_isGoodAt_65 : decode cX8_isGoodAt 65 = .ok (.aload_n 0, 1) := by decide +kernel
theorem dX8_isGoodAt_66 : decode cX8_isGoodAt 66 = .ok (.iload_n 1, 1) := by decide +kernel
theorem dX8_isGoodAt_67 : decode cX8_isGoodAt 67 = .ok (.invokevirtual 19, 3) := by decide +kernel
theorem dX8_isGoodAt_70 : decode cX8_isGoodAt 70 = .ok (.bipush 59, 2) := by decide +kernel
theorem dX8_isGoodAt_72 : decode cX8_isGoodAt 72 = .ok (.if_icmp .ne 7, 3) := by decide +kernel
theorem dX8_isGoodAt_75 : decode cX8_isGoodAt 75 = .ok (.iconst 1, 1) := by decide +kernel
theorem dX8_isGoodAt_76 : decode cX8_isGoodAt 76 = .ok (.goto 4, 3) := by decide +kernel
theorem dX8_isGoodAt_79 : decode cX8_isGoodAt 79 = .ok (.iconst 0, 1) := by decide +kernel
theorem dX8_isGoodAt_80 : decode cX8_isGoodAt 80 = .ok (.ireturn, 1) := by decide +kernel
theorem dX8_isGoodAt_81 : decode cX8_isGoodAt 81 = .ok (.iload_n 1, 1) := by decide +kernel
theorem dX8_isGoodAt_82 : decode cX8_isGoodAt 82 = .ok (.iconst 4, 1) := by decide +kernel
theorem dX8_isGoodAt_83 : decode cX8_isGoodAt 83 = .ok (.irem, 1) := by decide +kernel
theorem dX8_isGoodAt_84 : decode cX8_isGoodAt 84 = .ok (.iconst 3, 1) := by decide +kernel
theorem dX8_isGoodAt_85 : decode cX8_isGoodAt 85 = .ok (.if_icmp .ne 21, 3) := by decide +kernel
theorem dX8_isGoodAt_88 : decode cX8_isGoodAt 88 = .ok (.aload_n 0, 1) := by decide +kernel
theorem dX8_isGoodAt_89 : decode cX8_isGoodAt 89 = .ok (.iload_n 1, 1) := by decide +kernel
theorem dX8_isGoodAt_90 : decode cX8_isGoodAt 90 = .ok (.invokevirtual 19, 3) := by decide +kernel
theorem dX8_isGoodAt_93 : decode cX8_isGoodAt 93 = .ok (.bipush 47, 2) := by decide +kernel
theorem dX8_isGoodAt_95 : decode cX8_isGoodAt 95 = .ok (.if_icmp .ne 7, 3) := by decide +kernel
theorem dX8_isGoodAt_98 : decode cX8_isGoodAt 98 = .ok (.iconst 1, 1) := by decide +kernel
theorem dX8_isGoodAt_99 : decode cX8_isGoodAt 99 = .ok (.goto 12, 3) := by decide +kernel
theorem dX8_isGoodAt_102 : decode cX8_isGoodAt 102 = .ok (.iconst 0, 1) := by decide +kernel
theorem dX8_isGoodAt_103 : decode cX8_isGoodAt 103 = .ok (.goto 8, 3) := by decide +kernel
theorem dX8_isGoodAt_106 : decode cX8_isGoodAt 106 = .ok (.aload_n 0, 1) := by decide +kernel
theorem dX8_isGoodAt_107 : decode cX8_isGoodAt 107 = .ok (.iload_n 1, 1) := by decide +kernel
theorem dX8_isGoodAt_108 : decode cX8_isGoodAt 108 = .ok (.invokevirtual 34, 3) := by decide +kernel
theorem dX8_isGoodAt_111 : decode cX8_isGoodAt 111 = .ok (.ireturn, 1) := by decide +kernel
theorem dX8_isGoodTenths_0 : decode cX8_isGoodTenths 0 = .ok (.iconst 0, 1) := by decide +kernel
theorem dX8_isGoodTenths_1 : decode cX8_isGoodTenths 1 = .ok (.istore_n 2, 1) := by decide +kernel
theorem dX8_isGoodTenths_2 : decode cX8_isGoodTenths 2 = .ok (.iload_n 1, 1) := by decide +kernel
theorem dX8_isGoodTenths_3 : decode cX8_isGoodTenths 3 = .ok (.iload_n 1, 1) := by decide +kernel
theorem dX8_isGoodTenths_4 : decode cX8_isGoodTenths 4 = .ok (.iconst 4, 1) := by decide +kernel
theorem dX8_isGoodTenths_5 : decode cX8_isGoodTenths 5 = .ok (.irem, 1) := by decide +kernel
theorem dX8_isGoodTenths_6 : decode cX8_isGoodTenths 6 = .ok (.isub, 1) := by decide +kernel
theorem dX8_isGoodTenths_7 : decode cX8_isGoodTenths 7 = .ok (.istore_n 3, 1) := by decide +kernel
theorem dX8_isGoodTenths_8 : decode cX8_isGoodTenths 8 = .ok (.iload_n 3, 1) := by decide +kernel
theorem dX8_isGoodTenths_9 : decode cX8_isGoodTenths 9 = .ok (.iload_n 1, 1) := by decide +kernel
theorem dX8_isGoodTenths_10 : decode cX8_isGoodTenths 10 = .ok (.if_icmp .gt 28, 3) := by decide +kernel
theorem dX8_isGoodTenths_13 : decode cX8_isGoodTenths 13 = .ok (.aload_n 0, 1) := by decide +kernel
theorem dX8_isGoodTenths_14 : decode cX8_isGoodTenths 14 = .ok (.iload_n 3, 1) := by decide +kernel
theorem dX8_isGoodTenths_15 : decode cX8_isGoodTenths 15 = .ok (.invokevirtual 31, 3) := by decide +kernel
theorem dX8_isGoodTenths_18 : decode cX8_isGoodTenths 18 = .ok (.iconst (-1), 1) := by decide +kernel
theorem dX8_isGoodTenths_19 : decode cX8_isGoodTenths 19 = .ok (.if_icmp .ne 5, 3) := by decide +kernel
theorem dX8_isGoodTenths_22 : decode cX8_isGoodTenths 22 = .ok (.iconst 0, 1) := by decide +kernel
theorem dX8_isGoodTenths_23 : decode cX8_isGoodTenths 23 = .ok (.ireturn, 1) := by decide +kernel
theorem dX8_isGoodTenths_24 : decode cX8_isGoodTenths 24 = .ok (.iload_n 2, 1) := by decide +kernel
theorem dX8_isGoodTenths_25 : decode cX8_isGoodTenths 25 = .ok (.aload_n 0, 1) := by decide +kernel
theorem dX8_isGoodTenths_26 : decode cX8_isGoodTenths 26 = .ok (.iload_n 3, 1) := by decide +kernel
theorem dX8_isGoodTenths_27 : decode cX8_isGoodTenths 27 = .ok (.invokevirtual 31, 3) := by decide +kernel
theorem dX8_isGoodTenths_30 : decode cX8_isGoodTenths 30 = .ok (.iadd, 1) := by decide +kernel
theorem dX8_isGoodTenths_31 : decode cX8_isGoodTenths 31 = .ok (.istore_n 2, 1) := by decide +kernel
theorem dX8_isGoodTenths_32 : decode cX8_isGoodTenths 32 = .ok (.iinc 3 1, 3) := by decide +kernel
theorem dX8_isGoodTenths_35 : decode cX8_isGoodTenths 35 = .ok (.goto (-27), 3) := by decide +kernel
theorem dX8_isGoodTenths_38 : decode cX8_isGoodTenths 38 = .ok (.iload_n 1, 1) := by decide +kernel
theorem dX8_isGoodTenths_39 : decode cX8_isGoodTenths 39 = .ok (.iconst 4, 1) := by decide +kernel
theorem dX8_isGoodTenths_40 : decode cX8_isGoodTenths 40 = .ok (.irem, 1) := by decide +kernel
theorem dX8_isGoodTenths_41 : decode cX8_isGoodTenths 41 = .ok (.iconst 2, 1) := by decide +kernel
theorem dX8_isGoodTenths_42 : decode cX8_isGoodTenths 42 = .ok (.if_icmp .ne 17, 3) := by decide +kernel
theorem dX8_isGoodTenths_45 : decode cX8_isGoodTenths 45 = .ok (.iload_n 2, 1) := by decide +kernel
theorem dX8_isGoodTenths_46 : decode cX8_isGoodTenths 46 = .ok (.bipush 10, 2) := by decide +kernel
theorem dX8_isGoodTenths_48 : decode cX8_isGoodTenths 48 = .ok (.if_icmp .ne 7, 3) := by decide +kernel
theorem dX8_isGoodTenths_51 : decode cX8_isGoodTenths 51 = .ok (.iconst 1, 1) := by decide +kernel
theorem dX8_isGoodTenths_52 : decode cX8_isGoodTenths 52 = .ok (.goto 18, 3) := by decide +kernel
theorem dX8_isGoodTenths_55 : decode cX8_isGoodTenths 55 = .ok (.iconst 0, 1) := by decide +kernel
theorem dX8_isGoodTenths_56 : decode cX8_isGoodTenths 56 = .ok (.goto 14, 3) := by decide +kernel
theorem dX8_isGoodTenths_59 : decode cX8_isGoodTenths 59 = .ok (.iload_n 2, 1) := by decide +kernel
theorem dX8_isGoodTenths_60 : decode cX8_isGoodTenths 60 = .ok (.bipush 10, 2) := by decide +kernel
theorem dX8_isGoodTenths_62 : decode cX8_isGoodTenths 62 = .ok (.if_icmp .gt 7, 3) := by decide +kernel
theorem dX8_isGoodTenths_65 : decode cX8_isGoodTenths 65 = .ok (.iconst 1, 1) := by decide +kernel
theorem dX8_isGoodTenths_66 : decode cX8_isGoodTenths 66 = .ok (.goto 4, 3) := by decide +kernel
theorem dX8_isGoodTenths_69 : decode cX8_isGoodTenths 69 = .ok (.iconst 0, 1) := by decide +kernel
theorem dX8_isGoodTenths_70 : decode cX8_isGoodTenths 70 = .ok (.ireturn, 1) := by decide +kernel
theorem dX9_init_0 : decode cX9_init 0 = .ok (.aload_n 0, 1) := by decide +kernel
theorem dX9_init_1 : decode cX9_init 1 = .ok (.invokespecial 3, 3) := by decide +kernel
theorem dX9_init_4 : decode cX9_init 4 = .ok (.aload_n 0, 1) := by decide +kernel
theorem dX9_init_5 : decode cX9_init 5 = .ok (.bipush 9, 2) := by decide +kernel
theorem dX9_init_7 : decode cX9_init 7 = .ok (.newarray .int, 2) := by decide +kernel
theorem dX9_init_9 : decode cX9_init 9 = .ok (.putfield 9, 3) := by decide +kernel
theorem dX9_init_12 : decode cX9_init 12 = .ok (.return_, 1) := by decide +kernel
theorem dX9_isRead_0 : decode cX9_isRead 0 = .ok (.aload_n 0, 1) := by decide +kernel
theorem dX9_isRead_1 : decode cX9_isRead 1 = .ok (.getfield 15, 3) := by decide +kernel
theorem dX9_isRead_4 : decode cX9_isRead 4 = .ok (.ifCond .le 7, 3) := by decide +kernel
theorem dX9_isRead_7 : decode cX9_isRead 7 = .ok (.iconst 1, 1) := by decide +kernel
theorem dX9_isRead_8 : decode cX9_isRead 8 = .ok (.goto 4, 3) := by decide +kernel
theorem dX9_isRead_11 : decode cX9_isRead 11 = .ok (.iconst 0, 1) := by decide +kernel
theorem dX9_isRead_12 : decode cX9_isRead 12 = .ok (.ireturn, 1) := by decide +kernel
theorem dX9_read_0 : decode cX9_read 0 = .ok (.iconst 0, 1) := by decide +kernel
theorem dX9_read_1 : decode cX9_read 1 = .ok (.istore_n 2, 1) := by decide +kernel
theorem dX9_read_2 : decode cX9_read 2 = .ok (.iload_n 2, 1) := by decide +kernel
theorem dX9_read_3 : decode cX9_read 3 = .ok (.iconst 3, 1) := by decide +kernel
theorem dX9_read_4 : decode cX9_read 4 = .ok (.if_icmp .ge 41, 3) := by decide +kernel
theorem dX9_read_7 : decode cX9_read 7 = .ok (.iconst 0, 1) := by decide +kernel
theorem dX9_read_8 : decode cX9_read 8 = .ok (.istore_n 3, 1) := by decide +kernel
theorem dX9_read_9 : decode cX9_read 9 = .ok (.iload_n 3, 1) := by decide +kernel
theorem dX9_read_10 : decode cX9_read 10 = .ok (.iconst 3, 1) := by decide +kernel
theorem dX9_read_11 : decode cX9_read 11 = .ok (.if_icmp .ge 28, 3) := by decide +kernel
theorem dX9_read_14 : decode cX9_read 14 = .ok (.aload_n 0, 1) := by decide +kernel
theorem dX9_read_15 : decode cX9_read 15 = .ok (.getfield 9, 3) := by decide +kernel
theorem dX9_read_18 : decode cX9_read 18 = .ok (.iload_n 2, 1) := by decide +kernel
theorem dX9_read_19 : decode cX9_read 19 = .ok (.iconst 3, 1) := by decide +kernel
theorem dX9_read_20 : decode cX9_read 20 = .ok (.imul, 1) := by decide +kernel
theorem dX9_read_21 : decode cX9_read 21 = .ok (.iload_n 3, 1) := by decide +kernel
theorem dX9_read_22 : decode cX9_read 22 = .ok (.iadd, 1) := by decide +kernel
theorem dX9_read_23 : decode cX9_read 23 = .ok (.aload_n 1, 1) := by decide +kernel
theorem dX9_read_24 : decode cX9_read 24 = .ok (.iload_n 2, 1) := by decide +kernel
theorem dX9_read_25 : decode cX9_read 25 = .ok (.iconst 4, 1) := by decide +kernel
theorem dX9_read_26 : decode cX9_read 26 = .ok (.imul, 1) := by decide +kernel
theorem dX9_read_27 : decode cX9_read 27 = .ok (.iload_n 3, 1) := by decide +kernel
theorem dX9_read_28 : decode cX9_read 28 = .ok (.iadd, 1) := by decide +kernel
theorem dX9_read_29 : decode cX9_read 29 = .ok (.invokevirtual 21, 3) := by decide +kernel
theorem dX9_read_32 : decode cX9_read 32 = .ok (.iastore, 1) := by decide +kernel
theorem dX9_read_33 : decode cX9_read 33 = .ok (.iinc 3 1, 3) := by decide +kernel
theorem dX9_read_36 : decode cX9_read 36 = .ok (.goto (-27), 3) := by decide +kernel
theorem dX9_read_39 : decode cX9_read 39 = .ok (.iinc 2 1, 3) := by decide +kernel
theorem dX9_read_42 : decode cX9_read 42 = .ok (.goto (-40), 3) := by decide +kernel
theorem dX9_read_45 : decode cX9_read 45 = .ok (.aload_n 0, 1) := by decide +kernel
theorem dX9_read_46 : decode cX9_read 46 = .ok (.aload_n 1, 1) := by decide +kernel
theorem dX9_read_47 : decode cX9_read 47 = .ok (.bipush 12, 2) := by decide +kernel
theorem dX9_read_49 : decode cX9_read 49 = .ok (.invokevirtual 21, 3) := by decide +kernel
theorem dX9_read_52 : decode cX9_read 52 = .ok (.putfield 15, 3) := by decide +kernel
theorem dX9_read_55 : decode cX9_read 55 = .ok (.aload_n 0, 1) := by decide +kernel
theorem dX9_read_56 : decode cX9_read 56 = .ok (.aload_n 1, 1) := by decide +kernel
theorem dX9_read_57 : decode cX9_read 57 = .ok (.bipush 13, 2) := by decide +kernel
theorem dX9_read_59 : decode cX9_read 59 = .ok (.invokevirtual 21, 3) := by decide +kernel
theorem dX9_read_62 : decode cX9_read 62 = .ok (.putfield 25, 3) := by decide +kernel
theorem dX9_read_65 : decode cX9_read 65 = .ok (.return_, 1) := by decide +kernel
theorem dX9_tenthsFrom_0 : decode cX9_tenthsFrom 0 = .ok (.iload_n 1, 1) := by decide +kernel
theorem dX9_tenthsFrom_1 : decode cX9_tenthsFrom 1 = .ok (.ifCond .lt 21, 3) := by decide +kernel
theorem dX9_tenthsFrom_4 : decode cX9_tenthsFrom 4 = .ok (.iload_n 1, 1) := by decide +kernel
theorem dX9_tenthsFrom_5 : decode cX9_tenthsFrom 5 = .ok (.iconst 3, 1) := by decide +kernel
theorem dX9_tenthsFrom_6 : decode cX9_tenthsFrom 6 = .ok (.if_icmp .ge 16, 3) := by decide +kernel
theorem dX9_tenthsFrom_9 : decode cX9_tenthsFrom 9 = .ok (.iload_n 2, 1) := by decide +kernel
theorem dX9_tenthsFrom_10 : decode cX9_tenthsFrom 10 = .ok (.ifCond .lt 12, 3) := by decide +kernel
theorem dX9_tenthsFrom_13 : decode cX9_tenthsFrom 13 = .ok (.iload_n 2, 1) := by decide +kernel
theorem dX9_tenthsFrom_14 : decode cX9_tenthsFrom 14 = .ok (.iconst 3, 1) := by decide +kernel
theorem dX9_tenthsFrom_15 : decode cX9_tenthsFrom 15 = .ok (.if_icmp .ge 7, 3) := by decide +kernel
theorem dX9_tenthsFrom_18 : decode cX9_tenthsFrom 18 = .ok (.iconst 1, 1) := by decide +kernel
theorem dX9_tenthsFrom_19 : decode cX9_tenthsFrom 19 = .ok (.goto 4, 3) := by decide +kernel
theorem dX9_tenthsFrom_22 : decode cX9_tenthsFrom 22 = .ok (.iconst 0, 1) := by decide +kernel
theorem dX9_tenthsFrom_23 : decode cX9_tenthsFrom 23 = .ok (.istore_n 3, 1) := by decide +kernel
theorem dX9_tenthsFrom_24 : decode cX9_tenthsFrom 24 = .ok (.iload_n 3, 1) := by decide +kernel
theorem dX9_tenthsFrom_25 : decode cX9_tenthsFrom 25 = .ok (.ifCond .eq 16, 3) := by decide +kernel
theorem dX9_tenthsFrom_28 : decode cX9_tenthsFrom 28 = .ok (.aload_n 0, 1) := by decide +kernel
theorem dX9_tenthsFrom_29 : decode cX9_tenthsFrom 29 = .ok (.getfield 9, 3) := by decide +kernel
theorem dX9_tenthsFrom_32 : decode cX9_tenthsFrom 32 = .ok (.iload_n 1, 1) := by decide +kernel
theorem dX9_tenthsFrom_33 : decode cX9_tenthsFrom 33 = .ok (.iconst 3, 1) := by decide +kernel
theorem dX9_tenthsFrom_34 : decode cX9_tenthsFrom 34 = .ok (.imul, 1) := by decide +kernel
theorem dX9_tenthsFrom_35 : decode cX9_tenthsFrom 35 = .ok (.iload_n 2, 1) := by decide +kernel
theorem dX9_tenthsFrom_36 : decode cX9_tenthsFrom 36 = .ok (.iadd, 1) := by decide +kernel
theorem dX9_tenthsFrom_37 : decode cX9_tenthsFrom 37 = .ok (.iaload, 1) := by decide +kernel
theorem dX9_tenthsFrom_38 : decode cX9_tenthsFrom 38 = .ok (.goto 4, 3) := by decide +kernel
theorem dX9_tenthsFrom_41 : decode cX9_tenthsFrom 41 = .ok (.iconst 0, 1) := by decide +kernel
theorem dX9_tenthsFrom_42 : decode cX9_tenthsFrom 42 = .ok (.ireturn, 1) := by decide +kernel
theorem dX9_fit_0 : decode cX9_fit 0 = .ok (.iload_n 1, 1) := by decide +kernel
theorem dX9_fit_1 : decode cX9_fit 1 = .ok (.iconst (-1), 1) := by decide +kernel
theorem dX9_fit_2 : decode cX9_fit 2 = .ok (.if_icmp .ne 5, 3) := by decide +kernel
theorem dX9_fit_5 : decode cX9_fit 5 = .ok (.iconst 1, 1) := by decide +kernel
theorem dX9_fit_6 : decode cX9_fit 6 = .ok (.ireturn, 1) := by decide +kernel
theorem dX9_fit_7 : decode cX9_fit 7 = .ok (.iload_n 1, 1) := by decide +kernel
theorem dX9_fit_8 : decode cX9_fit 8 = .ok (.iload_n 2, 1) := by decide +kernel
theorem dX9_fit_9 : decode cX9_fit 9 = .ok (.if_icmp .ne 11, 3) := by decide +kernel
theorem dX9_fit_12 : decode cX9_fit 12 = .ok (.bipush 10, 2) := by decide +kernel
theorem dX9_fit_14 : decode cX9_fit 14 = .ok (.aload_n 0, 1) := by decide +kernel
theorem dX9_fit_15 : decode cX9_fit 15 = .ok (.getfield 25, 3) := by decide +kernel
theorem dX9_fit_18 : decode cX9_fit 18 = .ok (.isub, 1) := by decide +kernel
theorem dX9_fit_19 : decode cX9_fit 19 = .ok (.ireturn, 1) := by decide +kernel
theorem dX9_fit_20 : decode cX9_fit 20 = .ok (.iload_n 1, 1) := by decide +kernel
theorem dX9_fit_21 : decode cX9_fit 21 = .ok (.iload_n 2, 1) := by decide +kernel
theorem dX9_fit_22 : decode cX9_fit 22 = .ok (.iconst 1, 1) := by decide +kernel
theorem dX9_fit_23 : decode cX9_fit 23 = .ok (.iadd, 1) := by decide +kernel
theorem dX9_fit_24 : decode cX9_fit 24 = .ok (.iconst 3, 1) := by decide +kernel
theorem dX9_fit_25 : decode cX9_fit 25 = .ok (.irem, 1) := by decide +kernel
theorem dX9_fit_26 : decode cX9_fit 26 = .ok (.if_icmp .ne 10, 3) := by decide +kernel
theorem dX9_fit_29 : decode cX9_fit 29 = .ok (.aload_n 0, 1) := by decide +kernel
theorem dX9_fit_30 : decode cX9_fit 30 = .ok (.getfield 25, 3) := by decide +kernel
theorem dX9_fit_33 : decode cX9_fit 33 = .ok (.goto 4, 3) := by decide +kernel
theorem dX9_fit_36 : decode cX9_fit 36 = .ok (.iconst 0, 1) := by decide +kernel
theorem dX9_fit_37 : decode cX9_fit 37 = .ok (.ireturn, 1) := by decide +kernel
theorem dX10_init_0 : decode cX10_init 0 = .ok (.aload_n 0, 1) := by decide +kernel
theorem dX10_init_1 : decode cX10_init 1 = .ok (.invokespecial 3, 3) := by decide +kernel
theorem dX10_init_4 : decode cX10_init 4 = .ok (.aload_n 0, 1) := by decide +kernel
theorem dX10_init_5 : decode cX10_init 5 = .ok (.iconst 5, 1) := by decide +kernel
theorem dX10_init_6 : decode cX10_init 6 = .ok (.newarray .int, 2) := by decide +kernel
theorem dX10_init_8 : decode cX10_init 8 = .ok (.putfield 9, 3) := by decide +kernel
theorem dX10_init_11 : decode cX10_init 11 = .ok (.aload_n 0, 1) := by decide +kernel
theorem dX10_init_12 : decode cX10_init 12 = .ok (.aload_n 1, 1) := by decide +kernel
theorem dX10_init_13 : decode cX10_init 13 = .ok (.putfield 15, 3) := by decide +kernel
theorem dX10_init_16 : decode cX10_init 16 = .ok (.aload_n 0, 1) := by decide +kernel
theorem dX10_init_17 : decode cX10_init 17 = .ok (.aload_n 2, 1) := by decide +kernel
theorem dX10_init_18 : decode cX10_init 18 = .ok (.putfield 19, 3) := by decide +kernel
theorem dX10_init_21 : decode cX10_init 21 = .ok (.return_, 1) := by decide +kernel
theorem dX10_begin_0 : decode cX10_begin 0 = .ok (.aload_n 0, 1) := by decide +kernel
theorem dX10_begin_1 : decode cX10_begin 1 = .ok (.getfield 19, 3) := by decide +kernel
theorem dX10_begin_4 : decode cX10_begin 4 = .ok (.iload_n 2, 1) := by decide +kernel
theorem dX10_begin_5 : decode cX10_begin 5 = .ok (.invokevirtual 23, 3) := by decide +kernel
theorem dX10_begin_8 : decode cX10_begin 8 = .ok (.aload_n 0, 1) := by decide +kernel
theorem dX10_begin_9 : decode cX10_begin 9 = .ok (.getfield 9, 3) := by decide +kernel
theorem dX10_begin_12 : decode cX10_begin 12 = .ok (.iconst 0, 1) := by decide +kernel
theorem dX10_begin_13 : decode cX10_begin 13 = .ok (.iload_n 2, 1) := by decide +kernel
theorem dX10_begin_14 : decode cX10_begin 14 = .ok (.iastore, 1) := by decide +kernel
theorem dX10_begin_15 : decode cX10_begin 15 = .ok (.aload_n 0, 1) := by decide +kernel
theorem dX10_begin_16 : decode cX10_begin 16 = .ok (.iconst 0, 1) := by decide +kernel
theorem dX10_begin_17 : decode cX10_begin 17 = .ok (.putfield 29, 3) := by decide +kernel
theorem dX10_begin_20 : decode cX10_begin 20 = .ok (.aload_n 0, 1) := by decide +kernel
theorem dX10_begin_21 : decode cX10_begin 21 = .ok (.iload_n 1, 1) := by decide +kernel
theorem dX10_begin_22 : decode cX10_begin 22 = .ok (.i2l, 1) := by decide +kernel
theorem dX10_begin_23 : decode cX10_begin 23 = .ok (.putfield 33, 3) := by decide +kernel
theorem dX10_begin_26 : decode cX10_begin 26 = .ok (.aload_n 0, 1) := by decide +kernel
theorem dX10_begin_27 : decode cX10_begin 27 = .ok (.iconst 0, 1) := by decide +kernel
theorem dX10_begin_28 : decode cX10_begin 28 = .ok (.putfield 37, 3) := by decide +kernel
theorem dX10_begin_31 : decode cX10_begin 31 = .ok (.aload_n 0, 1) := by decide +kernel
theorem dX10_begin_32 : decode cX10_begin 32 = .ok (.iconst 0, 1) := by decide +kernel
theorem dX10_begin_33 : decode cX10_begin 33 = .ok (.putfield 40, 3) := by decide +kernel
theorem dX10_begin_36 : decode cX10_begin 36 = .ok (.aload_n 0, 1) := by decide +kernel
theorem dX10_begin_37 : decode cX10_begin 37 = .ok (.iconst 0, 1) := by decide +kernel
theorem dX10_begin_38 : decode cX10_begin 38 = .ok (.putfield 43, 3) := by decide +kernel
theorem dX10_begin_41 : decode cX10_begin 41 = .ok (.return_, 1) := by decide +kernel
theorem dX10_tellOne_0 : decode cX10_tellOne 0 = .ok (.iconst 0, 1) := by decide +kernel
theorem dX10_tellOne_1 : decode cX10_tellOne 1 = .ok (.istore_n 1, 1) := by decide +kernel
theorem dX10_tellOne_2 : decode cX10_tellOne 2 = .ok (.iconst 1, 1) := by decide +kernel
theorem dX10_tellOne_3 : decode cX10_tellOne 3 = .ok (.istore_n 2, 1) := by decide +kernel
theorem dX10_tellOne_4 : decode cX10_tellOne 4 = .ok (.iload_n 2, 1) := by decide +kernel
theorem dX10_tellOne_5 : decode cX10_tellOne 5 = .ok (.iconst 4, 1) := by decide +kernel
theorem dX10_tellOne_6 : decode cX10_tellOne 6 = .ok (.if_icmp .gt 58, 3) := by decide +kernel
theorem dX10_tellOne_9 : decode cX10_tellOne 9 = .ok (.iload_n 2, 1) := by decide +kernel
theorem dX10_tellOne_10 : decode cX10_tellOne 10 = .ok (.aload_n 0, 1) := by decide +kernel
theorem dX10_tellOne_11 : decode cX10_tellOne 11 = .ok (.getfield 15, 3) := by decide +kernel
theorem dX10_tellOne_14 : decode cX10_tellOne 14 = .ok (.getfield 46, 3) := by decide +kernel
theorem dX10_tellOne_17 : decode cX10_tellOne 17 = .ok (.if_icmp .gt 47, 3) := by decide +kernel
theorem dX10_tellOne_20 : decode cX10_tellOne 20 = .ok (.iload_n 2, 1) := by decide +kernel
theorem dX10_tellOne_21 : decode cX10_tellOne 21 = .ok (.aload_n 0, 1) := by decide +kernel
theorem dX10_tellOne_22 : decode cX10_tellOne 22 = .ok (.getfield 29, 3) := by decide +kernel
theorem dX10_tellOne_25 : decode cX10_tellOne 25 = .ok (.if_icmp .le 26, 3) := by decide +kernel
theorem dX10_tellOne_28 : decode cX10_tellOne 28 = .ok (.aload_n 0, 1) := by decide +kernel
theorem dX10_tellOne_29 : decode cX10_tellOne 29 = .ok (.getfield 9, 3) := by decide +kernel
theorem dX10_tellOne_32 : decode cX10_tellOne 32 = .ok (.iload_n 2, 1) := by decide +kernel
theorem dX10_tellOne_33 : decode cX10_tellOne 33 = .ok (.aload_n 0, 1) := by decide +kernel
theorem dX10_tellOne_34 : decode cX10_tellOne 34 = .ok (.aload_n 0, 1) := by decide +kernel
theorem dX10_tellOne_35 : decode cX10_tellOne 35 = .ok (.getfield 9, 3) := by decide +kernel
theorem dX10_tellOne_38 : decode cX10_tellOne 38 = .ok (.iload_n 2, 1) := by decide +kernel
theorem dX10_tellOne_39 : decode cX10_tellOne 39 = .ok (.iconst 1, 1) := by decide +kernel
theorem dX10_tellOne_40 : decode cX10_tellOne 40 = .ok (.isub, 1) := by decide +kernel
theorem dX10_tellOne_41 : decode cX10_tellOne 41 = .ok (.iaload, 1) := by decide +kernel
theorem dX10_tellOne_42 : decode cX10_tellOne 42 = .ok (.invokevirtual 51, 3) := by decide +kernel
theorem dX10_tellOne_45 : decode cX10_tellOne 45 = .ok (.iastore, 1) := by decide +kernel
theorem dX10_tellOne_46 : decode cX10_tellOne 46 = .ok (.aload_n 0, 1) := by decide +kernel
theorem dX10_tellOne_47 : decode cX10_tellOne 47 = .ok (.iload_n 2, 1) := by decide +kernel
theorem dX10_tellOne_48 : decode cX10_tellOne 48 = .ok (.putfield 29, 3) := by decide +kernel
theorem dX10_tellOne_51 : decode cX10_tellOne 51 = .ok (.aload_n 0, 1) := by decide +kernel
theorem dX10_tellOne_52 : decode cX10_tellOne 52 = .ok (.getfield 9, 3) := by decide +kernel
theorem dX10_tellOne_55 : decode cX10_tellOne 55 = .ok (.iload_n 2, 1) := by decide +kernel
theorem dX10_tellOne_56 : decode cX10_tellOne 56 = .ok (.iaload, 1) := by decide +kernel
theorem dX10_tellOne_57 : decode cX10_tellOne 57 = .ok (.istore_n 1, 1) := by decide +kernel
theorem dX10_tellOne_58 : decode cX10_tellOne 58 = .ok (.iinc 2 1, 3) := by decide +kernel
theorem dX10_tellOne_61 : decode cX10_tellOne 61 = .ok (.goto (-57), 3) := by decide +kernel
theorem dX10_tellOne_64 : decode cX10_tellOne 64 = .ok (.aload_n 0, 1) := by decide +kernel
theorem dX10_tellOne_65 : decode cX10_tellOne 65 = .ok (.invokevirtual 55, 3) := by decide +kernel
theorem dX10_tellOne_68 : decode cX10_tellOne 68 = .ok (.aload_n 0, 1) := by decide +kernel
theorem dX10_tellOne_69 : decode cX10_tellOne 69 = .ok (.getfield 15, 3) := by decide +kernel
theorem dX10_tellOne_72 : decode cX10_tellOne 72 = .ok (.getfield 59, 3) := by decide +kernel
theorem dX10_tellOne_75 : decode cX10_tellOne 75 = .ok (.if_icmp .ge 7, 3) := by decide +kernel
theorem dX10_tellOne_78 : decode cX10_tellOne 78 = .ok (.iconst 1, 1) := by decide +kernel
theorem dX10_tellOne_79 : decode cX10_tellOne 79 = .ok (.goto 4, 3) := by decide +kernel
theorem dX10_tellOne_82 : decode cX10_tellOne 82 = .ok (.iconst 0, 1) := by decide +kernel
theorem dX10_tellOne_83 : decode cX10_tellOne 83 = .ok (.istore_n 2, 1) := by decide +kernel
theorem dX10_tellOne_84 : decode cX10_tellOne 84 = .ok (.aload_n 0, 1) := by decide +kernel
theorem dX10_tellOne_85 : decode cX10_tellOne 85 = .ok (.dup, 1) := by decide +kernel
theorem dX10_tellOne_86 : decode cX10_tellOne 86 = .ok (.getfield 43, 3) := by decide +kernel
theorem dX10_tellOne_89 : decode cX10_tellOne 89 = .ok (.iload_n 2, 1) := by decide +kernel
theorem dX10_tellOne_90 : decode cX10_tellOne 90 = .ok (.ifCond .eq 7, 3) := by decide +kernel
theorem dX10_tellOne_93 : decode cX10_tellOne 93 = .ok (.iconst 1, 1) := by decide +kernel
theorem dX10_tellOne_94 : decode cX10_tellOne 94 = .ok (.goto 4, 3) := by decide +kernel
theorem dX10_tellOne_97 : decode cX10_tellOne 97 = .ok (.iconst 0, 1) := by decide +kernel
theorem dX10_tellOne_98 : decode cX10_tellOne 98 = .ok (.iadd, 1) := by decide +kernel
theorem dX10_tellOne_99 : decode cX10_tellOne 99 = .ok (.putfield 43, 3) := by decide +kernel
theorem dX10_tellOne_102 : decode cX10_tellOne 102 = .ok (.aload_n 0, 1) := by decide +kernel
theorem dX10_tellOne_103 : decode cX10_tellOne 103 = .ok (.getfield 19, 3) := by decide +kernel
theorem dX10_tellOne_106 : decode cX10_tellOne 106 = .ok (.iload_n 2, 1) := by decide +kernel
theorem dX10_tellOne_107 : decode cX10_tellOne 107 = .ok (.ifCond .eq 11, 3) := by decide +kernel
theorem dX10_tellOne_110 : decode cX10_tellOne 110 = .ok (.iload_n 1, 1) := by decide +kernel
theorem dX10_tellOne_111 : decode cX10_tellOne 111 = .ok (.iconst 1, 1) := by decide +kernel
theorem dX10_tellOne_112 : decode cX10_tellOne 112 = .ok (.iadd, 1) := by decide +kernel
theorem dX10_tellOne_113 : decode cX10_tellOne 113 = .ok (.iconst 3, 1) := by decide +kernel
theorem dX10_tellOne_114 : decode cX10_tellOne 114 = .ok (.irem, 1) := by decide +kernel
theorem dX10_tellOne_115 : decode cX10_tellOne 115 = .ok (.goto 4, 3) := by decide +kernel
theorem dX10_tellOne_118 : decode cX10_tellOne 118 = .ok (.iload_n 1, 1) := by decide +kernel
theorem dX10_tellOne_119 : decode cX10_tellOne 119 = .ok (.invokevirtual 62, 3) := by decide +kernel
theorem dX10_tellOne_122 : decode cX10_tellOne 122 = .ok (.pop, 1) := by decide +kernel
theorem dX10_tellOne_123 : decode cX10_tellOne 123 = .ok (.return_, 1) := by decide +kernel
theorem dX10_passOne_0 : decode cX10_passOne 0 = .ok (.aload_n 0, 1) := by decide +kernel
theorem dX10_passOne_1 : decode cX10_passOne 1 = .ok (.getfield 9, 3) := by decide +kernel
theorem dX10_passOne_4 : decode cX10_passOne 4 = .ok (.iconst 1, 1) := by decide +kernel
theorem dX10_passOne_5 : decode cX10_passOne 5 = .ok (.iaload, 1) := by decide +kernel
theorem dX10_passOne_6 : decode cX10_passOne 6 = .ok (.istore_n 2, 1) := by decide +kernel
theorem dX10_passOne_7 : decode cX10_passOne 7 = .ok (.iconst 0, 1) := by decide +kernel
theorem dX10_passOne_8 : decode cX10_passOne 8 = .ok (.istore_n 3, 1) := by decide +kernel
theorem dX10_passOne_9 : decode cX10_passOne 9 = .ok (.iload_n 3, 1) := by decide +kernel
theorem dX10_passOne_10 : decode cX10_passOne 10 = .ok (.aload_n 1, 1) := by decide +kernel
theorem dX10_passOne_11 : decode cX10_passOne 11 = .ok (.arraylength, 1) := by decide +kernel
theorem dX10_passOne_12 : decode cX10_passOne 12 = .ok (.if_icmp .ge 42, 3) := by decide +kernel
theorem dX10_passOne_15 : decode cX10_passOne 15 = .ok (.aload_n 1, 1) := by decide +kernel
theorem dX10_passOne_16 : decode cX10_passOne 16 = .ok (.iload_n 3, 1) := by decide +kernel
theorem dX10_passOne_17 : decode cX10_passOne 17 = .ok (.aaload, 1) := by decide +kernel
theorem dX10_passOne_18 : decode cX10_passOne 18 = .ok (.astore 4, 2) := by decide +kernel
theorem dX10_passOne_20 : decode cX10_passOne 20 = .ok (.aload_n 0, 1) := by decide +kernel
theorem dX10_passOne_21 : decode cX10_passOne 21 = .ok (.dup, 1) := by decide +kernel
theorem dX10_passOne_22 : decode cX10_passOne 22 = .ok (.getfield 40, 3) := by decide +kernel
theorem dX10_passOne_25 : decode cX10_passOne 25 = .ok (.aload 4, 2) := by decide +kernel
theorem dX10_passOne_27 : decode cX10_passOne 27 = .ok (.ifnonnull 7, 3) := by decide +kernel
theorem dX10_passOne_30 : decode cX10_passOne 30 = .ok (.iconst 0, 1) := by decide +kernel
theorem dX10_passOne_31 : decode cX10_passOne 31 = .ok (.goto 13, 3) := by decide +kernel
theorem dX10_passOne_34 : decode cX10_passOne 34 = .ok (.aload 4, 2) := by decide +kernel
theorem dX10_passOne_36 : decode cX10_passOne 36 = .ok (.aload_n 0, 1) := by decide +kernel
theorem dX10_passOne_37 : decode cX10_passOne 37 = .ok (.getfield 19, 3) := by decide +kernel
theorem dX10_passOne_40 : decode cX10_passOne 40 = .ok (.iload_n 2, 1) := by decide +kernel
theorem dX10_passOne_41 : decode cX10_passOne 41 = .ok (.invokevirtual 66, 3) := by decide +kernel
theorem dX10_passOne_44 : decode cX10_passOne 44 = .ok (.iadd, 1) := by decide +kernel
theorem dX10_passOne_45 : decode cX10_passOne 45 = .ok (.putfield 40, 3) := by decide +kernel
theorem dX10_passOne_48 : decode cX10_passOne 48 = .ok (.iinc 3 1, 3) := by decide +kernel
theorem dX10_passOne_51 : decode cX10_passOne 51 = .ok (.goto (-42), 3) := by decide +kernel
theorem dX10_passOne_54 : decode cX10_passOne 54 = .ok (.aload_n 0, 1) := by decide +kernel
theorem dX10_passOne_55 : decode cX10_passOne 55 = .ok (.dup, 1) := by decide +kernel
theorem dX10_passOne_56 : decode cX10_passOne 56 = .ok (.getfield 37, 3) := by decide +kernel
theorem dX10_passOne_59 : decode cX10_passOne 59 = .ok (.iload_n 2, 1) := by decide +kernel
theorem dX10_passOne_60 : decode cX10_passOne 60 = .ok (.iconst 1, 1) := by decide +kernel
theorem dX10_passOne_61 : decode cX10_passOne 61 = .ok (.if_icmp .ne 7, 3) := by decide +kernel
theorem dX10_passOne_64 : decode cX10_passOne 64 = .ok (.iconst 1, 1) := by decide +kernel
theorem dX10_passOne_65 : decode cX10_passOne 65 = .ok (.goto 4, 3) := by decide +kernel
theorem dX10_passOne_68 : decode cX10_passOne 68 = .ok (.iconst 0, 1) := by decide +kernel
theorem dX10_passOne_69 : decode cX10_passOne 69 = .ok (.iadd, 1) := by decide +kernel
theorem dX10_passOne_70 : decode cX10_passOne 70 = .ok (.putfield 37, 3) := by decide +kernel
theorem dX10_passOne_73 : decode cX10_passOne 73 = .ok (.aload_n 0, 1) := by decide +kernel
theorem dX10_passOne_74 : decode cX10_passOne 74 = .ok (.getfield 19, 3) := by decide +kernel
theorem dX10_passOne_77 : decode cX10_passOne 77 = .ok (.iload_n 2, 1) := by decide +kernel
theorem dX10_passOne_78 : decode cX10_passOne 78 = .ok (.invokevirtual 72, 3) := by decide +kernel
theorem dX10_passOne_81 : decode cX10_passOne 81 = .ok (.iconst 0, 1) := by decide +kernel
theorem dX10_passOne_82 : decode cX10_passOne 82 = .ok (.istore_n 3, 1) := by decide +kernel
theorem dX10_passOne_83 : decode cX10_passOne 83 = .ok (.iload_n 3, 1) := by decide +kernel
theorem dX10_passOne_84 : decode cX10_passOne 84 = .ok (.iconst 4, 1) := by decide +kernel
theorem dX10_passOne_85 : decode cX10_passOne 85 = .ok (.if_icmp .ge 23, 3) := by decide +kernel
theorem dX10_passOne_88 : decode cX10_passOne 88 = .ok (.aload_n 0, 1) := by decide +kernel
theorem dX10_passOne_89 : decode cX10_passOne 89 = .ok (.getfield 9, 3) := by decide +kernel
theorem dX10_passOne_92 : decode cX10_passOne 92 = .ok (.iload_n 3, 1) := by decide +kernel
theorem dX10_passOne_93 : decode cX10_passOne 93 = .ok (.aload_n 0, 1) := by decide +kernel
theorem dX10_passOne_94 : decode cX10_passOne 94 = .ok (.getfield 9, 3) := by decide +kernel
theorem dX10_passOne_97 : decode cX10_passOne 97 = .ok (.iload_n 3, 1) := by decide +kernel
theorem dX10_passOne_98 : decode cX10_passOne 98 = .ok (.iconst 1, 1) := by decide +kernel
theorem dX10_passOne_99 : decode cX10_passOne 99 = .ok (.iadd, 1) := by decide +kernel
theorem dX10_passOne_100 : decode cX10_passOne 100 = .ok (.iaload, 1) := by decide +kernel
theorem dX10_passOne_101 : decode cX10_passOne 101 = .ok (.iastore, 1) := by decide +kernel
theorem dX10_passOne_102 : decode cX10_passOne 102 = .ok (.iinc 3 1, 3) := by decide +kernel
theorem dX10_passOne_105 : decode cX10_passOne 105 = .ok (.goto (-22), 3) := by decide +kernel
theorem dX10_passOne_108 : decode cX10_passOne 108 = .ok (.aload_n 0, 1) := by decide +kernel
theorem dX10_passOne_109 : decode cX10_passOne 109 = .ok (.dup, 1) := by decide +kernel
theorem dX10_passOne_110 : decode cX10_passOne 110 = .ok (.getfield 29, 3) := by decide +kernel
theorem dX10_passOne_113 : decode cX10_passOne 113 = .ok (.iconst 1, 1) := by decide +kernel
theorem dX10_passOne_114 : decode cX10_passOne 114 = .ok (.isub, 1) := by decide +kernel
theorem dX10_passOne_115 : decode cX10_passOne 115 = .ok (.putfield 29, 3) := by decide +kernel
theorem dX10_passOne_118 : decode cX10_passOne 118 = .ok (.return_, 1) := by decide +kernel
theorem dX10_drawWeather_0 : decode cX10_drawWeather 0 = .ok (.aload_n 0, 1) := by decide +kernel
theorem dX10_drawWeather_1 : decode cX10_drawWeather 1 = .ok (.invokevirtual 55, 3) := by decide +kernel
theorem dX10_drawWeather_4 : decode cX10_drawWeather 4 = .ok (.istore_n 2, 1) := by decide +kernel
theorem dX10_drawWeather_5 : decode cX10_drawWeather 5 = .ok (.aload_n 0, 1) := by decide +kernel
theorem dX10_drawWeather_6 : decode cX10_drawWeather 6 = .ok (.getfield 15, 3) := by decide +kernel
theorem dX10_drawWeather_9 : decode cX10_drawWeather 9 = .ok (.iload_n 1, 1) := by decide +kernel
theorem dX10_drawWeather_10 : decode cX10_drawWeather 10 = .ok (.iconst 0, 1) := by decide +kernel
theorem dX10_drawWeather_11 : decode cX10_drawWeather 11 = .ok (.invokevirtual 75, 3) := by decide +kernel
theorem dX10_drawWeather_14 : decode cX10_drawWeather 14 = .ok (.istore_n 3, 1) := by decide +kernel
theorem dX10_drawWeather_15 : decode cX10_drawWeather 15 = .ok (.iload_n 2, 1) := by decide +kernel
theorem dX10_drawWeather_16 : decode cX10_drawWeather 16 = .ok (.iload_n 3, 1) := by decide +kernel
theorem dX10_drawWeather_17 : decode cX10_drawWeather 17 = .ok (.if_icmp .ge 5, 3) := by decide +kernel
theorem dX10_drawWeather_20 : decode cX10_drawWeather 20 = .ok (.iconst 0, 1) := by decide +kernel
theorem dX10_drawWeather_21 : decode cX10_drawWeather 21 = .ok (.ireturn, 1) := by decide +kernel
theorem dX10_drawWeather_22 : decode cX10_drawWeather 22 = .ok (.iload_n 2, 1) := by decide +kernel
theorem dX10_drawWeather_23 : decode cX10_drawWeather 23 = .ok (.iload_n 3, 1) := by decide +kernel
theorem dX10_drawWeather_24 : decode cX10_drawWeather 24 = .ok (.aload_n 0, 1) := by decide +kernel
theorem dX10_drawWeather_25 : decode cX10_drawWeather 25 = .ok (.getfield 15, 3) := by decide +kernel
theorem dX10_drawWeather_28 : decode cX10_drawWeather 28 = .ok (.iload_n 1, 1) := by decide +kernel
theorem dX10_drawWeather_29 : decode cX10_drawWeather 29 = .ok (.iconst 1, 1) := by decide +kernel
theorem dX10_drawWeather_30 : decode cX10_drawWeather 30 = .ok (.invokevirtual 75, 3) := by decide +kernel
theorem dX10_drawWeather_33 : decode cX10_drawWeather 33 = .ok (.iadd, 1) := by decide +kernel
theorem dX10_drawWeather_34 : decode cX10_drawWeather 34 = .ok (.if_icmp .ge 7, 3) := by decide +kernel
theorem dX10_drawWeather_37 : decode cX10_drawWeather 37 = .ok (.iconst 1, 1) := by decide +kernel
theorem dX10_drawWeather_38 : decode cX10_drawWeather 38 = .ok (.goto 4, 3) := by decide +kernel
theorem dX10_drawWeather_41 : decode cX10_drawWeather 41 = .ok (.iconst 2, 1) := by decide +kernel
theorem dX10_drawWeather_42 : decode cX10_drawWeather 42 = .ok (.ireturn, 1) := by decide +kernel
theorem dX10_draw_0 : decode cX10_draw 0 = .ok (.aload_n 0, 1) := by decide +kernel
theorem dX10_draw_1 : decode cX10_draw 1 = .ok (.ldc2_w 79, 3) := by decide +kernel
theorem dX10_draw_4 : decode cX10_draw 4 = .ok (.aload_n 0, 1) := by decide +kernel
theorem dX10_draw_5 : decode cX10_draw 5 = .ok (.getfield 33, 3) := by decide +kernel
theorem dX10_draw_8 : decode cX10_draw 8 = .ok (.lmul, 1) := by decide +kernel
theorem dX10_draw_9 : decode cX10_draw 9 = .ok (.ldc2_w 81, 3) := by decide +kernel
theorem dX10_draw_12 : decode cX10_draw 12 = .ok (.ladd, 1) := by decide +kernel
theorem dX10_draw_13 : decode cX10_draw 13 = .ok (.ldc2_w 83, 3) := by decide +kernel
theorem dX10_draw_16 : decode cX10_draw 16 = .ok (.lrem, 1) := by decide +kernel
theorem dX10_draw_17 : decode cX10_draw 17 = .ok (.putfield 33, 3) := by decide +kernel
theorem dX10_draw_20 : decode cX10_draw 20 = .ok (.aload_n 0, 1) := by decide +kernel
theorem dX10_draw_21 : decode cX10_draw 21 = .ok (.getfield 33, 3) := by decide +kernel
theorem dX10_draw_24 : decode cX10_draw 24 = .ok (.ldc2_w 85, 3) := by decide +kernel
theorem dX10_draw_27 : decode cX10_draw 27 = .ok (.ldiv, 1) := by decide +kernel
theorem dX10_draw_28 : decode cX10_draw 28 = .ok (.ldc2_w 87, 3) := by decide +kernel
theorem dX10_draw_31 : decode cX10_draw 31 = .ok (.lrem, 1) := by decide +kernel
theorem dX10_draw_32 : decode cX10_draw 32 = .ok (.l2i, 1) := by decide +kernel
theorem dX10_draw_33 : decode cX10_draw 33 = .ok (.ireturn, 1) := by decide +kernel
theorem dX11_init_0 : decode cX11_init 0 = .ok (.aload_n 0, 1) := by decide +kernel
theorem dX11_init_1 : decode cX11_init 1 = .ok (.invokespecial 1, 3) := by decide +kernel
theorem dX11_init_4 : decode cX11_init 4 = .ok (.new 7, 3) := by decide +kernel
theorem dX11_init_7 : decode cX11_init 7 = .ok (.dup, 1) := by decide +kernel
theorem dX11_init_8 : decode cX11_init 8 = .ok (.invokespecial 9, 3) := by decide +kernel
theorem dX11_init_11 : decode cX11_init 11 = .ok (.astore_n 1, 1) := by decide +kernel
theorem dX11_init_12 : decode cX11_init 12 = .ok (.aload_n 0, 1) := by decide +kernel
theorem dX11_init_13 : decode cX11_init 13 = .ok (.new 10, 3) := by decide +kernel
theorem dX11_init_16 : decode cX11_init 16 = .ok (.dup, 1) := by decide +kernel
theorem dX11_init_17 : decode cX11_init 17 = .ok (.invokespecial 12, 3) := by decide +kernel
theorem dX11_init_20 : decode cX11_init 20 = .ok (.putfield 13, 3) := by decide +kernel
theorem dX11_init_23 : decode cX11_init 23 = .ok (.aload_n 0, 1) := by decide +kernel
theorem dX11_init_24 : decode cX11_init 24 = .ok (.aload_n 1, 1) := by decide +kernel
theorem dX11_init_25 : decode cX11_init 25 = .ok (.putfield 19, 3) := by decide +kernel
theorem dX11_init_28 : decode cX11_init 28 = .ok (.aload_n 0, 1) := by decide +kernel
theorem dX11_init_29 : decode cX11_init 29 = .ok (.new 23, 3) := by decide +kernel
theorem dX11_init_32 : decode cX11_init 32 = .ok (.dup, 1) := by decide +kernel
theorem dX11_init_33 : decode cX11_init 33 = .ok (.aload_n 1, 1) := by decide +kernel
theorem dX11_init_34 : decode cX11_init 34 = .ok (.invokespecial 25, 3) := by decide +kernel
theorem dX11_init_37 : decode cX11_init 37 = .ok (.putfield 28, 3) := by decide +kernel
theorem dX11_init_40 : decode cX11_init 40 = .ok (.aload_n 0, 1) := by decide +kernel
theorem dX11_init_41 : decode cX11_init 41 = .ok (.iconst 4, 1) := by decide +kernel
theorem dX11_init_42 : decode cX11_init 42 = .ok (.anewarray 32, 3) := by decide +kernel
theorem dX11_init_45 : decode cX11_init 45 = .ok (.putfield 34, 3) := by decide +kernel
theorem dX11_init_48 : decode cX11_init 48 = .ok (.aload_n 0, 1) := by decide +kernel
theorem dX11_init_49 : decode cX11_init 49 = .ok (.new 38, 3) := by decide +kernel
theorem dX11_init_52 : decode cX11_init 52 = .ok (.dup, 1) := by decide +kernel
theorem dX11_init_53 : decode cX11_init 53 = .ok (.invokespecial 40, 3) := by decide +kernel
theorem dX11_init_56 : decode cX11_init 56 = .ok (.putfield 41, 3) := by decide +kernel
theorem dX11_init_59 : decode cX11_init 59 = .ok (.aload_n 0, 1) := by decide +kernel
theorem dX11_init_60 : decode cX11_init 60 = .ok (.new 45, 3) := by decide +kernel
theorem dX11_init_63 : decode cX11_init 63 = .ok (.dup, 1) := by decide +kernel
theorem dX11_init_64 : decode cX11_init 64 = .ok (.aload_n 1, 1) := by decide +kernel
theorem dX11_init_65 : decode cX11_init 65 = .ok (.new 23, 3) := by decide +kernel
theorem dX11_init_68 : decode cX11_init 68 = .ok (.dup, 1) := by decide +kernel
theorem dX11_init_69 : decode cX11_init 69 = .ok (.aload_n 1, 1) := by decide +kernel
theorem dX11_init_70 : decode cX11_init 70 = .ok (.invokespecial 25, 3) := by decide +kernel
theorem dX11_init_73 : decode cX11_init 73 = .ok (.invokespecial 47, 3) := by decide +kernel
theorem dX11_init_76 : decode cX11_init 76 = .ok (.putfield 50, 3) := by decide +kernel
theorem dX11_init_79 : decode cX11_init 79 = .ok (.aload_n 0, 1) := by decide +kernel
theorem dX11_init_80 : decode cX11_init 80 = .ok (.new 54, 3) := by decide +kernel
theorem dX11_init_83 : decode cX11_init 83 = .ok (.dup, 1) := by decide +kernel
theorem dX11_init_84 : decode cX11_init 84 = .ok (.new 23, 3) := by decide +kernel
theorem dX11_init_87 : decode cX11_init 87 = .ok (.dup, 1) := by decide +kernel
theorem dX11_init_88 : decode cX11_init 88 = .ok (.aload_n 1, 1) := by decide +kernel
theorem dX11_init_89 : decode cX11_init 89 = .ok (.invokespecial 25, 3) := by decide +kernel
theorem dX11_init_92 : decode cX11_init 92 = .ok (.new 38, 3) := by decide +kernel
theorem dX11_init_95 : decode cX11_init 95 = .ok (.dup, 1) := by decide +kernel
theorem dX11_init_96 : decode cX11_init 96 = .ok (.invokespecial 40, 3) := by decide +kernel
theorem dX11_init_99 : decode cX11_init 99 = .ok (.invokespecial 56, 3) := by decide +kernel
theorem dX11_init_102 : decode cX11_init 102 = .ok (.putfield 59, 3) := by decide +kernel
theorem dX11_init_105 : decode cX11_init 105 = .ok (.return_, 1) := by decide +kernel
theorem dX11_letter_0 : decode cX11_letter 0 = .ok (.iload_n 1, 1) := by decide +kernel
theorem dX11_letter_1 : decode cX11_letter 1 = .ok (.bipush 32, 2) := by decide +kernel
theorem dX11_letter_3 : decode cX11_letter 3 = .ok (.if_icmp .lt 9, 3) := by decide +kernel
theorem dX11_letter_6 : decode cX11_letter 6 = .ok (.iload_n 1, 1) := by decide +kernel
theorem dX11_letter_7 : decode cX11_letter 7 = .ok (.bipush 126, 2) := by decide +kernel
theorem dX11_letter_9 : decode cX11_letter 9 = .ok (.if_icmp .le 6, 3) := by decide +kernel
theorem dX11_letter_12 : decode cX11_letter 12 = .ok (.bipush (-102), 2) := by decide +kernel
theorem dX11_letter_14 : decode cX11_letter 14 = .ok (.ireturn, 1) := by decide +kernel
theorem dX11_letter_15 : decode cX11_letter 15 = .ok (.aload_n 0, 1) := by decide +kernel
theorem dX11_letter_16 : decode cX11_letter 16 = .ok (.getfield 13, 3) := by decide +kernel
theorem dX11_letter_19 : decode cX11_letter 19 = .ok (.iload_n 1, 1) := by decide +kernel
theorem dX11_letter_20 : decode cX11_letter 20 = .ok (.invokevirtual 63, 3) := by decide +kernel
theorem dX11_letter_23 : decode cX11_letter 23 = .ok (.ifCond .eq 13, 3) := by decide +kernel
theorem dX11_letter_26 : decode cX11_letter 26 = .ok (.aload_n 0, 1) := by decide +kernel
theorem dX11_letter_27 : decode cX11_letter 27 = .ok (.getfield 13, 3) := by decide +kernel
theorem dX11_letter_30 : decode cX11_letter 30 = .ok (.getfield 67, 3) := by decide +kernel
theorem dX11_letter_33 : decode cX11_letter 33 = .ok (.goto 5, 3) := by decide +kernel
theorem dX11_letter_36 : decode cX11_letter 36 = .ok (.bipush (-104), 2) := by decide +kernel
theorem dX11_letter_38 : decode cX11_letter 38 = .ok (.ireturn, 1) := by decide +kernel
theorem dX11_blank_0 : decode cX11_blank 0 = .ok (.aload_n 0, 1) := by decide +kernel
theorem dX11_blank_1 : decode cX11_blank 1 = .ok (.getfield 13, 3) := by decide +kernel
theorem dX11_blank_4 : decode cX11_blank 4 = .ok (.getfield 67, 3) := by decide +kernel
theorem dX11_blank_7 : decode cX11_blank 7 = .ok (.istore_n 1, 1) := by decide +kernel
theorem dX11_blank_8 : decode cX11_blank 8 = .ok (.aload_n 0, 1) := by decide +kernel
theorem dX11_blank_9 : decode cX11_blank 9 = .ok (.getfield 13, 3) := by decide +kernel
theorem dX11_blank_12 : decode cX11_blank 12 = .ok (.iconst 0, 1) := by decide +kernel
theorem dX11_blank_13 : decode cX11_blank 13 = .ok (.putfield 67, 3) := by decide +kernel
theorem dX11_blank_16 : decode cX11_blank 16 = .ok (.iload_n 1, 1) := by decide +kernel
theorem dX11_blank_17 : decode cX11_blank 17 = .ok (.ireturn, 1) := by decide +kernel
theorem dX11_fault_0 : decode cX11_fault 0 = .ok (.aload_n 0, 1) := by decide +kernel
theorem dX11_fault_1 : decode cX11_fault 1 = .ok (.getfield 13, 3) := by decide +kernel
theorem dX11_fault_4 : decode cX11_fault 4 = .ok (.invokevirtual 71, 3) := by decide +kernel
theorem dX11_fault_7 : decode cX11_fault 7 = .ok (.ireturn, 1) := by decide +kernel
theorem dX11_station_0 : decode cX11_station 0 = .ok (.aload_n 0, 1) := by decide +kernel
theorem dX11_station_1 : decode cX11_station 1 = .ok (.getfield 13, 3) := by decide +kernel
theorem dX11_station_4 : decode cX11_station 4 = .ok (.invokevirtual 75, 3) := by decide +kernel
theorem dX11_station_7 : decode cX11_station 7 = .ok (.ifCond .ne 6, 3) := by decide +kernel
theorem dX11_station_10 : decode cX11_station 10 = .ok (.bipush (-103), 2) := by decide +kernel
theorem dX11_station_12 : decode cX11_station 12 = .ok (.ireturn, 1) := by decide +kernel
theorem dX11_station_13 : decode cX11_station 13 = .ok (.aload_n 0, 1) := by decide +kernel
theorem dX11_station_14 : decode cX11_station 14 = .ok (.getfield 19, 3) := by decide +kernel
theorem dX11_station_17 : decode cX11_station 17 = .ok (.aload_n 0, 1) := by decide +kernel
theorem dX11_station_18 : decode cX11_station 18 = .ok (.getfield 13, 3) := by decide +kernel
theorem dX11_station_21 : decode cX11_station 21 = .ok (.invokevirtual 79, 3) := by decide +kernel
theorem dX11_station_24 : decode cX11_station 24 = .ok (.aload_n 0, 1) := by decide +kernel
theorem dX11_station_25 : decode cX11_station 25 = .ok (.getfield 28, 3) := by decide +kernel
theorem dX11_station_28 : decode cX11_station 28 = .ok (.iconst 0, 1) := by decide +kernel
theorem dX11_station_29 : decode cX11_station 29 = .ok (.invokevirtual 83, 3) := by decide +kernel
theorem dX11_station_32 : decode cX11_station 32 = .ok (.iconst 0, 1) := by decide +kernel
theorem dX11_station_33 : decode cX11_station 33 = .ok (.istore_n 1, 1) := by decide +kernel
theorem dX11_station_34 : decode cX11_station 34 = .ok (.iload_n 1, 1) := by decide +kernel
theorem dX11_station_35 : decode cX11_station 35 = .ok (.iconst 4, 1) := by decide +kernel
theorem dX11_station_36 : decode cX11_station 36 = .ok (.if_icmp .ge 16, 3) := by decide +kernel
theorem dX11_station_39 : decode cX11_station 39 = .ok (.aload_n 0, 1) := by decide +kernel
theorem dX11_station_40 : decode cX11_station 40 = .ok (.getfield 34, 3) := by decide +kernel
theorem dX11_station_43 : decode cX11_station 43 = .ok (.iload_n 1, 1) := by decide +kernel
theorem dX11_station_44 : decode cX11_station 44 = .ok (.aconst_null, 1) := by decide +kernel
theorem dX11_station_45 : decode cX11_station 45 = .ok (.aastore, 1) := by decide +kernel
theorem dX11_station_46 : decode cX11_station 46 = .ok (.iinc 1 1, 3) := by decide +kernel
theorem dX11_station_49 : decode cX11_station 49 = .ok (.goto (-15), 3) := by decide +kernel
theorem dX11_station_52 : decode cX11_station 52 = .ok (.aload_n 0, 1) := by decide +kernel
theorem dX11_station_53 : decode cX11_station 53 = .ok (.getfield 41, 3) := by decide +kernel
theorem dX11_station_56 : decode cX11_station 56 = .ok (.iconst 0, 1) := by decide +kernel
theorem dX11_station_57 : decode cX11_station 57 = .ok (.putfield 87, 3) := by decide +kernel
theorem dX11_station_60 : decode cX11_station 60 = .ok (.aload_n 0, 1) := by decide +kernel
theorem dX11_station_61 : decode cX11_station 61 = .ok (.getfield 59, 3) := by decide +kernel
theorem dX11_station_64 : decode cX11_station 64 = .ok (.iconst 0, 1) := by decide +kernel
theorem dX11_station_65 : decode cX11_station 65 = .ok (.putfield 90, 3) := by decide +kernel
theorem dX11_station_68 : decode cX11_station 68 = .ok (.aload_n 0, 1) := by decide +kernel
theorem dX11_station_69 : decode cX11_station 69 = .ok (.getfield 13, 3) := by decide +kernel
theorem dX11_station_72 : decode cX11_station 72 = .ok (.iconst 0, 1) := by decide +kernel
theorem dX11_station_73 : decode cX11_station 73 = .ok (.putfield 67, 3) := by decide +kernel
theorem dX11_station_76 : decode cX11_station 76 = .ok (.aload_n 0, 1) := by decide +kernel
theorem dX11_station_77 : decode cX11_station 77 = .ok (.dup, 1) := by decide +kernel
theorem dX11_station_78 : decode cX11_station 78 = .ok (.getfield 94, 3) := by decide +kernel
theorem dX11_station_81 : decode cX11_station 81 = .ok (.iconst 1, 1) := by decide +kernel
theorem dX11_station_82 : decode cX11_station 82 = .ok (.iadd, 1) := by decide +kernel
theorem dX11_station_83 : decode cX11_station 83 = .ok (.putfield 94, 3) := by decide +kernel
theorem dX11_station_86 : decode cX11_station 86 = .ok (.aload_n 0, 1) := by decide +kernel
theorem dX11_station_87 : decode cX11_station 87 = .ok (.getfield 19, 3) := by decide +kernel
theorem dX11_station_90 : decode cX11_station 90 = .ok (.getfield 97, 3) := by decide +kernel
theorem dX11_station_93 : decode cX11_station 93 = .ok (.ireturn, 1) := by decide +kernel
theorem dX11_follows_0 : decode cX11_follows 0 = .ok (.iload_n 1, 1) := by decide +kernel
theorem dX11_follows_1 : decode cX11_follows 1 = .ok (.invokestatic 100, 3) := by decide +kernel
theorem dX11_follows_4 : decode cX11_follows 4 = .ok (.ifCond .eq 10, 3) := by decide +kernel
theorem dX11_follows_7 : decode cX11_follows 7 = .ok (.iload_n 2, 1) := by decide +kernel
theorem dX11_follows_8 : decode cX11_follows 8 = .ok (.invokestatic 100, 3) := by decide +kernel
theorem dX11_follows_11 : decode cX11_follows 11 = .ok (.ifCond .ne 6, 3) := by decide +kernel
theorem dX11_follows_14 : decode cX11_follows 14 = .ok (.bipush (-101), 2) := by decide +kernel
theorem dX11_follows_16 : decode cX11_follows 16 = .ok (.ireturn, 1) := by decide +kernel
theorem dX11_follows_17 : decode cX11_follows 17 = .ok (.aload_n 0, 1) := by decide +kernel
theorem dX11_follows_18 : decode cX11_follows 18 = .ok (.getfield 19, 3) := by decide +kernel
theorem dX11_follows_21 : decode cX11_follows 21 = .ok (.invokevirtual 103, 3) := by decide +kernel
theorem dX11_follows_24 : decode cX11_follows 24 = .ok (.ifCond .eq 15, 3) := by decide +kernel
theorem dX11_follows_27 : decode cX11_follows 27 = .ok (.aload_n 0, 1) := by decide +kernel
theorem dX11_follows_28 : decode cX11_follows 28 = .ok (.getfield 19, 3) := by decide +kernel
theorem dX11_follows_31 : decode cX11_follows 31 = .ok (.iload_n 1, 1) := by decide +kernel
theorem dX11_follows_32 : decode cX11_follows 32 = .ok (.iload_n 2, 1) := by decide +kernel
theorem dX11_follows_33 : decode cX11_follows 33 = .ok (.invokevirtual 106, 3) := by decide +kernel
theorem dX11_follows_36 : decode cX11_follows 36 = .ok (.goto 5, 3) := by decide +kernel
theorem dX11_follows_39 : decode cX11_follows 39 = .ok (.bipush (-103), 2) := by decide +kernel
theorem dX11_follows_41 : decode cX11_follows 41 = .ok (.ireturn, 1) := by decide +kernel
theorem dX11_reading_0 : decode cX11_reading 0 = .ok (.iload_n 1, 1) := by decide +kernel
theorem dX11_reading_1 : decode cX11_reading 1 = .ok (.invokestatic 100, 3) := by decide +kernel
theorem dX11_reading_4 : decode cX11_reading 4 = .ok (.ifCond .ne 6, 3) := by decide +kernel
theorem dX11_reading_7 : decode cX11_reading 7 = .ok (.bipush (-101), 2) := by decide +kernel
theorem dX11_reading_9 : decode cX11_reading 9 = .ok (.ireturn, 1) := by decide +kernel
theorem dX11_reading_10 : decode cX11_reading 10 = .ok (.aload_n 0, 1) := by decide +kernel
theorem dX11_reading_11 : decode cX11_reading 11 = .ok (.getfield 19, 3) := by decide +kernel
theorem dX11_reading_14 : decode cX11_reading 14 = .ok (.invokevirtual 103, 3) := by decide +kernel
theorem dX11_reading_17 : decode cX11_reading 17 = .ok (.ifCond .eq 14, 3) := by decide +kernel
theorem dX11_reading_20 : decode cX11_reading 20 = .ok (.aload_n 0, 1) := by decide +kernel
theorem dX11_reading_21 : decode cX11_reading 21 = .ok (.getfield 28, 3) := by decide +kernel
theorem dX11_reading_24 : decode cX11_reading 24 = .ok (.iload_n 1, 1) := by decide +kernel
theorem dX11_reading_25 : decode cX11_reading 25 = .ok (.invokevirtual 110, 3) := by decide +kernel
theorem dX11_reading_28 : decode cX11_reading 28 = .ok (.ifCond .ne 6, 3) := by decide +kernel
theorem dX11_reading_31 : decode cX11_reading 31 = .ok (.bipush (-103), 2) := by decide +kernel
theorem dX11_reading_33 : decode cX11_reading 33 = .ok (.ireturn, 1) := by decide +kernel
theorem dX11_reading_34 : decode cX11_reading 34 = .ok (.aload_n 0, 1) := by decide +kernel
theorem dX11_reading_35 : decode cX11_reading 35 = .ok (.getfield 28, 3) := by decide +kernel
theorem dX11_reading_38 : decode cX11_reading 38 = .ok (.invokevirtual 113, 3) := by decide +kernel
theorem dX11_reading_41 : decode cX11_reading 41 = .ok (.ireturn, 1) := by decide +kernel
theorem dX11_told_0 : decode cX11_told 0 = .ok (.iload_n 1, 1) := by decide +kernel
theorem dX11_told_1 : decode cX11_told 1 = .ok (.iconst 1, 1) := by decide +kernel
theorem dX11_told_2 : decode cX11_told 2 = .ok (.if_icmp .lt 8, 3) := by decide +kernel
theorem dX11_told_5 : decode cX11_told 5 = .ok (.iload_n 1, 1) := by decide +kernel
theorem dX11_told_6 : decode cX11_told 6 = .ok (.iconst 4, 1) := by decide +kernel
theorem dX11_told_7 : decode cX11_told 7 = .ok (.if_icmp .le 6, 3) := by decide +kernel
theorem dX11_told_10 : decode cX11_told 10 = .ok (.bipush (-101), 2) := by decide +kernel
theorem dX11_told_12 : decode cX11_told 12 = .ok (.ireturn, 1) := by decide +kernel
theorem dX11_told_13 : decode cX11_told 13 = .ok (.aload_n 0, 1) := by decide +kernel
theorem dX11_told_14 : decode cX11_told 14 = .ok (.getfield 19, 3) := by decide +kernel
theorem dX11_told_17 : decode cX11_told 17 = .ok (.invokevirtual 103, 3) := by decide +kernel
theorem dX11_told_20 : decode cX11_told 20 = .ok (.ifCond .eq 14, 3) := by decide +kernel
theorem dX11_told_23 : decode cX11_told 23 = .ok (.aload_n 0, 1) := by decide +kernel
theorem dX11_told_24 : decode cX11_told 24 = .ok (.getfield 28, 3) := by decide +kernel
theorem dX11_told_27 : decode cX11_told 27 = .ok (.iload_n 1, 1) := by decide +kernel
theorem dX11_told_28 : decode cX11_told 28 = .ok (.invokevirtual 116, 3) := by decide +kernel
theorem dX11_told_31 : decode cX11_told 31 = .ok (.goto 5, 3) := by decide +kernel
theorem dX11_told_34 : decode cX11_told 34 = .ok (.bipush (-103), 2) := by decide +kernel
theorem dX11_told_36 : decode cX11_told 36 = .ok (.ireturn, 1) := by decide +kernel
theorem dX11_day_0 : decode cX11_day 0 = .ok (.iload_n 1, 1) := by decide +kernel
theorem dX11_day_1 : decode cX11_day 1 = .ok (.invokestatic 100, 3) := by decide +kernel
theorem dX11_day_4 : decode cX11_day 4 = .ok (.ifCond .ne 6, 3) := by decide +kernel
theorem dX11_day_7 : decode cX11_day 7 = .ok (.bipush (-101), 2) := by decide +kernel
theorem dX11_day_9 : decode cX11_day 9 = .ok (.ireturn, 1) := by decide +kernel
theorem dX11_day_10 : decode cX11_day 10 = .ok (.aload_n 0, 1) := by decide +kernel
theorem dX11_day_11 : decode cX11_day 11 = .ok (.getfield 19, 3) := by decide +kernel
theorem dX11_day_14 : decode cX11_day 14 = .ok (.invokevirtual 103, 3) := by decide +kernel
theorem dX11_day_17 : decode cX11_day 17 = .ok (.ifCond .eq 17, 3) := by decide +kernel
theorem dX11_day_20 : decode cX11_day 20 = .ok (.aload_n 0, 1) := by decide +kernel
theorem dX11_day_21 : decode cX11_day 21 = .ok (.getfield 28, 3) := by decide +kernel
theorem dX11_day_24 : decode cX11_day 24 = .ok (.iconst 1, 1) := by decide +kernel
theorem dX11_day_25 : decode cX11_day 25 = .ok (.iload_n 1, 1) := by decide +kernel
theorem dX11_day_26 : decode cX11_day 26 = .ok (.invokevirtual 120, 3) := by decide +kernel
theorem dX11_day_29 : decode cX11_day 29 = .ok (.lconst 0, 1) := by decide +kernel
theorem dX11_day_30 : decode cX11_day 30 = .ok (.lcmp, 1) := by decide +kernel
theorem dX11_day_31 : decode cX11_day 31 = .ok (.ifCond .gt 6, 3) := by decide +kernel
theorem dX11_day_34 : decode cX11_day 34 = .ok (.bipush (-103), 2) := by decide +kernel
theorem dX11_day_36 : decode cX11_day 36 = .ok (.ireturn, 1) := by decide +kernel
theorem dX11_day_37 : decode cX11_day 37 = .ok (.iconst 0, 1) := by decide +kernel
theorem dX11_day_38 : decode cX11_day 38 = .ok (.istore_n 2, 1) := by decide +kernel
theorem dX11_day_39 : decode cX11_day 39 = .ok (.iload_n 2, 1) := by decide +kernel
theorem dX11_day_40 : decode cX11_day 40 = .ok (.iconst 4, 1) := by decide +kernel
theorem dX11_day_41 : decode cX11_day 41 = .ok (.if_icmp .ge 38, 3) := by decide +kernel
theorem dX11_day_44 : decode cX11_day 44 = .ok (.aload_n 0, 1) := by decide +kernel
theorem dX11_day_45 : decode cX11_day 45 = .ok (.getfield 34, 3) := by decide +kernel
theorem dX11_day_48 : decode cX11_day 48 = .ok (.iload_n 2, 1) := by decide +kernel
theorem dX11_day_49 : decode cX11_day 49 = .ok (.aaload, 1) := by decide +kernel
theorem dX11_day_50 : decode cX11_day 50 = .ok (.astore_n 3, 1) := by decide +kernel
theorem dX11_day_51 : decode cX11_day 51 = .ok (.aload_n 3, 1) := by decide +kernel
theorem dX11_day_52 : decode cX11_day 52 = .ok (.ifnull 21, 3) := by decide +kernel
theorem dX11_day_55 : decode cX11_day 55 = .ok (.aload_n 3, 1) := by decide +kernel
theorem dX11_day_56 : decode cX11_day 56 = .ok (.dup, 1) := by decide +kernel
theorem dX11_day_57 : decode cX11_day 57 = .ok (.getfield 124, 3) := by decide +kernel
theorem dX11_day_60 : decode cX11_day 60 = .ok (.aload_n 3, 1) := by decide +kernel
theorem dX11_day_61 : decode cX11_day 61 = .ok (.aload_n 0, 1) := by decide +kernel
theorem dX11_day_62 : decode cX11_day 62 = .ok (.getfield 28, 3) := by decide +kernel
theorem dX11_day_65 : decode cX11_day 65 = .ok (.iload_n 1, 1) := by decide +kernel
theorem dX11_day_66 : decode cX11_day 66 = .ok (.invokevirtual 127, 3) := by decide +kernel
theorem dX11_day_69 : decode cX11_day 69 = .ok (.iadd, 1) := by decide +kernel
theorem dX11_day_70 : decode cX11_day 70 = .ok (.putfield 124, 3) := by decide +kernel
theorem dX11_day_73 : decode cX11_day 73 = .ok (.iinc 2 1, 3) := by decide +kernel
theorem dX11_day_76 : decode cX11_day 76 = .ok (.goto (-37), 3) := by decide +kernel
theorem dX11_day_79 : decode cX11_day 79 = .ok (.aload_n 0, 1) := by decide +kernel
theorem dX11_day_80 : decode cX11_day 80 = .ok (.getfield 28, 3) := by decide +kernel
theorem dX11_day_83 : decode cX11_day 83 = .ok (.iload_n 1, 1) := by decide +kernel
theorem dX11_day_84 : decode cX11_day 84 = .ok (.invokevirtual 131, 3) := by decide +kernel
theorem dX11_day_87 : decode cX11_day 87 = .ok (.aload_n 0, 1) := by decide +kernel
theorem dX11_day_88 : decode cX11_day 88 = .ok (.getfield 28, 3) := by decide +kernel
theorem dX11_day_91 : decode cX11_day 91 = .ok (.getfield 134, 3) := by decide +kernel
theorem dX11_day_94 : decode cX11_day 94 = .ok (.ireturn, 1) := by decide +kernel
theorem dX11_person_0 : decode cX11_person 0 = .ok (.iload_n 1, 1) := by decide +kernel
theorem dX11_person_1 : decode cX11_person 1 = .ok (.ifCond .lt 22, 3) := by decide +kernel
theorem dX11_person_4 : decode cX11_person 4 = .ok (.iload_n 1, 1) := by decide +kernel
theorem dX11_person_5 : decode cX11_person 5 = .ok (.iconst 5, 1) := by decide +kernel
theorem dX11_person_6 : decode cX11_person 6 = .ok (.if_icmp .ge 17, 3) := by decide +kernel
theorem dX11_person_9 : decode cX11_person 9 = .ok (.iload_n 2, 1) := by decide +kernel
theorem dX11_person_10 : decode cX11_person 10 = .ok (.invokestatic 137, 3) := by decide +kernel
theorem dX11_person_13 : decode cX11_person 13 = .ok (.ifCond .eq 10, 3) := by decide +kernel
theorem dX11_person_16 : decode cX11_person 16 = .ok (.iload_n 3, 1) := by decide +kernel
theorem dX11_person_17 : decode cX11_person 17 = .ok (.invokestatic 137, 3) := by decide +kernel
theorem dX11_person_20 : decode cX11_person 20 = .ok (.ifCond .ne 6, 3) := by decide +kernel
theorem dX11_person_23 : decode cX11_person 23 = .ok (.bipush (-102), 2) := by decide +kernel
theorem dX11_person_25 : decode cX11_person 25 = .ok (.ireturn, 1) := by decide +kernel
theorem dX11_person_26 : decode cX11_person 26 = .ok (.aload_n 0, 1) := by decide +kernel
theorem dX11_person_27 : decode cX11_person 27 = .ok (.getfield 19, 3) := by decide +kernel
theorem dX11_person_30 : decode cX11_person 30 = .ok (.invokevirtual 103, 3) := by decide +kernel
theorem dX11_person_33 : decode cX11_person 33 = .ok (.ifCond .ne 6, 3) := by decide +kernel
theorem dX11_person_36 : decode cX11_person 36 = .ok (.bipush (-103), 2) := by decide +kernel
theorem dX11_person_38 : decode cX11_person 38 = .ok (.ireturn, 1) := by decide +kernel
theorem dX11_person_39 : decode cX11_person 39 = .ok (.iconst 0, 1) := by decide +kernel
theorem dX11_person_40 : decode cX11_person 40 = .ok (.istore 4, 2) := by decide +kernel
theorem dX11_person_42 : decode cX11_person 42 = .ok (.iload 4, 2) := by decide +kernel
theorem dX11_person_44 : decode cX11_person 44 = .ok (.iconst 4, 1) := by decide +kernel
theorem dX11_person_45 : decode cX11_person 45 = .ok (.if_icmp .ge 35, 3) := by decide +kernel
theorem dX11_person_48 : decode cX11_person 48 = .ok (.aload_n 0, 1) := by decide +kernel
theorem dX11_person_49 : decode cX11_person 49 = .ok (.getfield 34, 3) := by decide +kernel
theorem dX11_person_52 : decode cX11_person 52 = .ok (.iload 4, 2) := by decide +kernel
theorem dX11_person_54 : decode cX11_person 54 = .ok (.aaload, 1) := by decide +kernel
theorem dX11_person_55 : decode cX11_person 55 = .ok (.ifnonnull 19, 3) := by decide +kernel
theorem dX11_person_58 : decode cX11_person 58 = .ok (.aload_n 0, 1) := by decide +kernel
theorem dX11_person_59 : decode cX11_person 59 = .ok (.getfield 34, 3) := by decide +kernel
theorem dX11_person_62 : decode cX11_person 62 = .ok (.iload 4, 2) := by decide +kernel
theorem dX11_person_64 : decode cX11_person 64 = .ok (.iload_n 1, 1) := by decide +kernel
theorem dX11_person_65 : decode cX11_person 65 = .ok (.iload_n 2, 1) := by decide +kernel
theorem dX11_person_66 : decode cX11_person 66 = .ok (.iload_n 3, 1) := by decide +kernel
theorem dX11_person_67 : decode cX11_person 67 = .ok (.invokestatic 140, 3) := by decide +kernel
theorem dX11_person_70 : decode cX11_person 70 = .ok (.aastore, 1) := by decide +kernel
theorem dX11_person_71 : decode cX11_person 71 = .ok (.iload 4, 2) := by decide +kernel
theorem dX11_person_73 : decode cX11_person 73 = .ok (.ireturn, 1) := by decide +kernel
theorem dX11_person_74 : decode cX11_person 74 = .ok (.iinc 4 1, 3) := by decide +kernel
theorem dX11_person_77 : decode cX11_person 77 = .ok (.goto (-35), 3) := by decide +kernel
theorem dX11_person_80 : decode cX11_person 80 = .ok (.bipush (-104), 2) := by decide +kernel
theorem dX11_person_82 : decode cX11_person 82 = .ok (.ireturn, 1) := by decide +kernel
theorem dX11_about_0 : decode cX11_about 0 = .ok (.aload_n 0, 1) := by decide +kernel
theorem dX11_about_1 : decode cX11_about 1 = .ok (.iload_n 1, 1) := by decide +kernel
theorem dX11_about_2 : decode cX11_about 2 = .ok (.invokevirtual 144, 3) := by decide +kernel
theorem dX11_about_5 : decode cX11_about 5 = .ok (.astore_n 3, 1) := by decide +kernel
theorem dX11_about_6 : decode cX11_about 6 = .ok (.aload_n 3, 1) := by decide +kernel
theorem dX11_about_7 : decode cX11_about 7 = .ok (.ifnonnull 6, 3) := by decide +kernel
theorem dX11_about_10 : decode cX11_about 10 = .ok (.bipush (-101), 2) := by decide +kernel
theorem dX11_about_12 : decode cX11_about 12 = .ok (.ireturn, 1) := by decide +kernel
theorem dX11_about_13 : decode cX11_about 13 = .ok (.iload_n 2, 1) := by decide +kernel
theorem dX11_about_14 : decode cX11_about 14 = .ok (.tableswitch 71 0 4 #[34, 39, 44, 49, 54], 34) := by decide +kernel
theorem dX11_about_48 : decode cX11_about 48 = .ok (.aload_n 3, 1) := by decide +kernel
theorem dX11_about_49 : decode cX11_about 49 = .ok (.invokevirtual 148, 3) := by decide +kernel
theorem dX11_about_52 : decode cX11_about 52 = .ok (.ireturn, 1) := by decide +kernel
theorem dX11_about_53 : decode cX11_about 53 = .ok (.aload_n 3, 1) := by decide +kernel
theorem dX11_about_54 : decode cX11_about 54 = .ok (.getfield 151, 3) := by decide +kernel
theorem dX11_about_57 : decode cX11_about 57 = .ok (.ireturn, 1) := by decide +kernel
theorem dX11_about_58 : decode cX11_about 58 = .ok (.aload_n 3, 1) := by decide +kernel
theorem dX11_about_59 : decode cX11_about 59 = .ok (.getfield 154, 3) := by decide +kernel
theorem dX11_about_62 : decode cX11_about 62 = .ok (.ireturn, 1) := by decide +kernel
theorem dX11_about_63 : decode cX11_about 63 = .ok (.aload_n 3, 1) := by decide +kernel
theorem dX11_about_64 : decode cX11_about 64 = .ok (.getfield 124, 3) := by decide +kernel
theorem dX11_about_67 : decode cX11_about 67 = .ok (.ireturn, 1) := by decide +kernel
theorem dX11_about_68 : decode cX11_about 68 = .ok (.aload_n 3, 1) := by decide +kernel
theorem dX11_about_69 : decode cX11_about 69 = .ok (.aload_n 0, 1) := by decide +kernel
theorem dX11_about_70 : decode cX11_about 70 = .ok (.getfield 28, 3) := by decide +kernel
theorem dX11_about_73 : decode cX11_about 73 = .ok (.invokevirtual 157, 3) := by decide +kernel
theorem dX11_about_76 : decode cX11_about 76 = .ok (.ifCond .eq 7, 3) := by decide +kernel
theorem dX11_about_79 : decode cX11_about 79 = .ok (.iconst 1, 1) := by decide +kernel
theorem dX11_about_80 : decode cX11_about 80 = .ok (.goto 4, 3) := by decide +kernel
theorem dX11_about_83 : decode cX11_about 83 = .ok (.iconst 0, 1) := by decide +kernel
theorem dX11_about_84 : decode cX11_about 84 = .ok (.ireturn, 1) := by decide +kernel
theorem dX11_about_85 : decode cX11_about 85 = .ok (.bipush (-102), 2) := by decide +kernel
theorem dX11_about_87 : decode cX11_about 87 = .ok (.ireturn, 1) := by decide +kernel
theorem dX11_as_0 : decode cX11_as 0 = .ok (.aload_n 0, 1) := by decide +kernel
theorem dX11_as_1 : decode cX11_as 1 = .ok (.iload_n 1, 1) := by decide +kernel
theorem dX11_as_2 : decode cX11_as 2 = .ok (.invokevirtual 144, 3) := by decide +kernel
theorem dX11_as_5 : decode cX11_as 5 = .ok (.astore_n 3, 1) := by decide +kernel
theorem dX11_as_6 : decode cX11_as 6 = .ok (.aload_n 3, 1) := by decide +kernel
theorem dX11_as_7 : decode cX11_as 7 = .ok (.ifnonnull 6, 3) := by decide +kernel
theorem dX11_as_10 : decode cX11_as 10 = .ok (.bipush (-101), 2) := by decide +kernel
theorem dX11_as_12 : decode cX11_as 12 = .ok (.ireturn, 1) := by decide +kernel
theorem dX11_as_13 : decode cX11_as 13 = .ok (.iload_n 2, 1) := by decide +kernel
theorem dX11_as_14 : decode cX11_as 14 = .ok (.ifCond .lt 8, 3) := by decide +kernel
theorem dX11_as_17 : decode cX11_as 17 = .ok (.iload_n 2, 1) := by decide +kernel
theorem dX11_as_18 : decode cX11_as 18 = .ok (.iconst 5, 1) := by decide +kernel
theorem dX11_as_19 : decode cX11_as 19 = .ok (.if_icmp .lt 6, 3) := by decide +kernel
theorem dX11_as_22 : decode cX11_as 22 = .ok (.bipush (-102), 2) := by decide +kernel
theorem dX11_as_24 : decode cX11_as 24 = .ok (.ireturn, 1) := by decide +kernel
theorem dX11_as_25 : decode cX11_as 25 = .ok (.aload_n 3, 1) := by decide +kernel
theorem dX11_as_26 : decode cX11_as 26 = .ok (.iload_n 2, 1) := by decide +kernel
theorem dX11_as_27 : decode cX11_as 27 = .ok (.invokestatic 161, 3) := by decide +kernel
theorem dX11_as_30 : decode cX11_as 30 = .ok (.ifCond .eq 7, 3) := by decide +kernel
theorem dX11_as_33 : decode cX11_as 33 = .ok (.iload_n 1, 1) := by decide +kernel
theorem dX11_as_34 : decode cX11_as 34 = .ok (.goto 4, 3) := by decide +kernel
theorem dX11_as_37 : decode cX11_as 37 = .ok (.iconst (-1), 1) := by decide +kernel
theorem dX11_as_38 : decode cX11_as 38 = .ok (.ireturn, 1) := by decide +kernel
theorem dX11_likely_0 : decode cX11_likely 0 = .ok (.iload_n 1, 1) := by decide +kernel
theorem dX11_likely_1 : decode cX11_likely 1 = .ok (.invokestatic 165, 3) := by decide +kernel
theorem dX11_likely_4 : decode cX11_likely 4 = .ok (.ifCond .eq 10, 3) := by decide +kernel
theorem dX11_likely_7 : decode cX11_likely 7 = .ok (.iload_n 2, 1) := by decide +kernel
theorem dX11_likely_8 : decode cX11_likely 8 = .ok (.invokestatic 100, 3) := by decide +kernel
theorem dX11_likely_11 : decode cX11_likely 11 = .ok (.ifCond .ne 7, 3) := by decide +kernel
theorem dX11_likely_14 : decode cX11_likely 14 = .ok (.ldc2_w 168, 3) := by decide +kernel
theorem dX11_likely_17 : decode cX11_likely 17 = .ok (.lreturn, 1) := by decide +kernel
theorem dX11_likely_18 : decode cX11_likely 18 = .ok (.iload_n 3, 1) := by decide +kernel
theorem dX11_likely_19 : decode cX11_likely 19 = .ok (.invokestatic 170, 3) := by decide +kernel
theorem dX11_likely_22 : decode cX11_likely 22 = .ok (.ifCond .ne 7, 3) := by decide +kernel
theorem dX11_likely_25 : decode cX11_likely 25 = .ok (.ldc2_w 173, 3) := by decide +kernel
theorem dX11_likely_28 : decode cX11_likely 28 = .ok (.lreturn, 1) := by decide +kernel
theorem dX11_likely_29 : decode cX11_likely 29 = .ok (.aload_n 0, 1) := by decide +kernel
theorem dX11_likely_30 : decode cX11_likely 30 = .ok (.getfield 19, 3) := by decide +kernel
theorem dX11_likely_33 : decode cX11_likely 33 = .ok (.invokevirtual 103, 3) := by decide +kernel
theorem dX11_likely_36 : decode cX11_likely 36 = .ok (.ifCond .ne 7, 3) := by decide +kernel
theorem dX11_likely_39 : decode cX11_likely 39 = .ok (.ldc2_w 175, 3) := by decide +kernel
theorem dX11_likely_42 : decode cX11_likely 42 = .ok (.lreturn, 1) := by decide +kernel
theorem dX11_likely_43 : decode cX11_likely 43 = .ok (.aload_n 0, 1) := by decide +kernel
theorem dX11_likely_44 : decode cX11_likely 44 = .ok (.getfield 28, 3) := by decide +kernel
theorem dX11_likely_47 : decode cX11_likely 47 = .ok (.iload_n 1, 1) := by decide +kernel
theorem dX11_likely_48 : decode cX11_likely 48 = .ok (.iload_n 2, 1) := by decide +kernel
theorem dX11_likely_49 : decode cX11_likely 49 = .ok (.invokevirtual 120, 3) := by decide +kernel
theorem dX11_likely_52 : decode cX11_likely 52 = .ok (.aload_n 0, 1) := by decide +kernel
theorem dX11_likely_53 : decode cX11_likely 53 = .ok (.getfield 28, 3) := by decide +kernel
theorem dX11_likely_56 : decode cX11_likely 56 = .ok (.invokevirtual 177, 3) := by decide +kernel
theorem dX11_likely_59 : decode cX11_likely 59 = .ok (.iload_n 3, 1) := by decide +kernel
theorem dX11_likely_60 : decode cX11_likely 60 = .ok (.invokestatic 181, 3) := by decide +kernel
theorem dX11_likely_63 : decode cX11_likely 63 = .ok (.lreturn, 1) := by decide +kernel
theorem dX11_likeliest_0 : decode cX11_likeliest 0 = .ok (.aload_n 0, 1) := by decide +kernel
theorem dX11_likeliest_1 : decode cX11_likeliest 1 = .ok (.getfield 19, 3) := by decide +kernel
theorem dX11_likeliest_4 : decode cX11_likeliest 4 = .ok (.invokevirtual 103, 3) := by decide +kernel
theorem dX11_likeliest_7 : decode cX11_likeliest 7 = .ok (.ifCond .eq 13, 3) := by decide +kernel
theorem dX11_likeliest_10 : decode cX11_likeliest 10 = .ok (.aload_n 0, 1) := by decide +kernel
theorem dX11_likeliest_11 : decode cX11_likeliest 11 = .ok (.getfield 28, 3) := by decide +kernel
theorem dX11_likeliest_14 : decode cX11_likeliest 14 = .ok (.invokevirtual 185, 3) := by decide +kernel
theorem dX11_likeliest_17 : decode cX11_likeliest 17 = .ok (.goto 5, 3) := by decide +kernel
theorem dX11_likeliest_20 : decode cX11_likeliest 20 = .ok (.bipush (-103), 2) := by decide +kernel
theorem dX11_likeliest_22 : decode cX11_likeliest 22 = .ok (.ireturn, 1) := by decide +kernel
theorem dX11_ways_0 : decode cX11_ways 0 = .ok (.aload_n 0, 1) := by decide +kernel
theorem dX11_ways_1 : decode cX11_ways 1 = .ok (.getfield 19, 3) := by decide +kernel
theorem dX11_ways_4 : decode cX11_ways 4 = .ok (.invokevirtual 103, 3) := by decide +kernel
theorem dX11_ways_7 : decode cX11_ways 7 = .ok (.ifCond .eq 13, 3) := by decide +kernel
theorem dX11_ways_10 : decode cX11_ways 10 = .ok (.aload_n 0, 1) := by decide +kernel
theorem dX11_ways_11 : decode cX11_ways 11 = .ok (.getfield 28, 3) := by decide +kernel
theorem dX11_ways_14 : decode cX11_ways 14 = .ok (.invokevirtual 188, 3) := by decide +kernel
theorem dX11_ways_17 : decode cX11_ways 17 = .ok (.goto 5, 3) := by decide +kernel
theorem dX11_ways_20 : decode cX11_ways 20 = .ok (.bipush (-103), 2) := by decide +kernel
theorem dX11_ways_22 : decode cX11_ways 22 = .ok (.ireturn, 1) := by decide +kernel
theorem dX11_sure_0 : decode cX11_sure 0 = .ok (.iload_n 1, 1) := by decide +kernel
theorem dX11_sure_1 : decode cX11_sure 1 = .ok (.invokestatic 165, 3) := by decide +kernel
theorem dX11_sure_4 : decode cX11_sure 4 = .ok (.ifCond .ne 6, 3) := by decide +kernel
theorem dX11_sure_7 : decode cX11_sure 7 = .ok (.bipush (-101), 2) := by decide +kernel
theorem dX11_sure_9 : decode cX11_sure 9 = .ok (.ireturn, 1) := by decide +kernel
theorem dX11_sure_10 : decode cX11_sure 10 = .ok (.aload_n 0, 1) := by decide +kernel
theorem dX11_sure_11 : decode cX11_sure 11 = .ok (.getfield 19, 3) := by decide +kernel
theorem dX11_sure_14 : decode cX11_sure 14 = .ok (.invokevirtual 103, 3) := by decide +kernel
theorem dX11_sure_17 : decode cX11_sure 17 = .ok (.ifCond .eq 14, 3) := by decide +kernel
theorem dX11_sure_20 : decode cX11_sure 20 = .ok (.aload_n 0, 1) := by decide +kernel
theorem dX11_sure_21 : decode cX11_sure 21 = .ok (.getfield 28, 3) := by decide +kernel
theorem dX11_sure_24 : decode cX11_sure 24 = .ok (.iload_n 1, 1) := by decide +kernel
theorem dX11_sure_25 : decode cX11_sure 25 = .ok (.invokevirtual 191, 3) := by decide +kernel
theorem dX11_sure_28 : decode cX11_sure 28 = .ok (.goto 5, 3) := by decide +kernel
theorem dX11_sure_31 : decode cX11_sure 31 = .ok (.bipush (-103), 2) := by decide +kernel
theorem dX11_sure_33 : decode cX11_sure 33 = .ok (.ireturn, 1) := by decide +kernel
theorem dX11_look_0 : decode cX11_look 0 = .ok (.iload_n 1, 1) := by decide +kernel
theorem dX11_look_1 : decode cX11_look 1 = .ok (.invokestatic 137, 3) := by decide +kernel
theorem dX11_look_4 : decode cX11_look 4 = .ok (.ifCond .eq 17, 3) := by decide +kernel
theorem dX11_look_7 : decode cX11_look 7 = .ok (.iload_n 2, 1) := by decide +kernel
theorem dX11_look_8 : decode cX11_look 8 = .ok (.invokestatic 137, 3) := by decide +kernel
theorem dX11_look_11 : decode cX11_look 11 = .ok (.ifCond .eq 10, 3) := by decide +kernel
theorem dX11_look_14 : decode cX11_look 14 = .ok (.iload_n 3, 1) := by decide +kernel
theorem dX11_look_15 : decode cX11_look 15 = .ok (.invokestatic 170, 3) := by decide +kernel
theorem dX11_look_18 : decode cX11_look 18 = .ok (.ifCond .ne 7, 3) := by decide +kernel
theorem dX11_look_21 : decode cX11_look 21 = .ok (.ldc2_w 173, 3) := by decide +kernel
theorem dX11_look_24 : decode cX11_look 24 = .ok (.lreturn, 1) := by decide +kernel
theorem dX11_look_25 : decode cX11_look 25 = .ok (.aload_n 0, 1) := by decide +kernel
theorem dX11_look_26 : decode cX11_look 26 = .ok (.getfield 19, 3) := by decide +kernel
theorem dX11_look_29 : decode cX11_look 29 = .ok (.invokevirtual 103, 3) := by decide +kernel
theorem dX11_look_32 : decode cX11_look 32 = .ok (.ifCond .ne 7, 3) := by decide +kernel
theorem dX11_look_35 : decode cX11_look 35 = .ok (.ldc2_w 175, 3) := by decide +kernel
theorem dX11_look_38 : decode cX11_look 38 = .ok (.lreturn, 1) := by decide +kernel
theorem dX11_look_39 : decode cX11_look 39 = .ok (.ldc2_w 194, 3) := by decide +kernel
theorem dX11_look_42 : decode cX11_look 42 = .ok (.aload_n 0, 1) := by decide +kernel
theorem dX11_look_43 : decode cX11_look 43 = .ok (.getfield 28, 3) := by decide +kernel
theorem dX11_look_46 : decode cX11_look 46 = .ok (.iconst (-1), 1) := by decide +kernel
theorem dX11_look_47 : decode cX11_look 47 = .ok (.iload_n 1, 1) := by decide +kernel
theorem dX11_look_48 : decode cX11_look 48 = .ok (.iload_n 2, 1) := by decide +kernel
theorem dX11_look_49 : decode cX11_look 49 = .ok (.invokevirtual 196, 3) := by decide +kernel
theorem dX11_look_52 : decode cX11_look 52 = .ok (.lmul, 1) := by decide +kernel
theorem dX11_look_53 : decode cX11_look 53 = .ok (.lstore 4, 2) := by decide +kernel
theorem dX11_look_55 : decode cX11_look 55 = .ok (.lconst 0, 1) := by decide +kernel
theorem dX11_look_56 : decode cX11_look 56 = .ok (.lstore 6, 2) := by decide +kernel
theorem dX11_look_58 : decode cX11_look 58 = .ok (.iconst 0, 1) := by decide +kernel
theorem dX11_look_59 : decode cX11_look 59 = .ok (.istore 8, 2) := by decide +kernel
theorem dX11_look_61 : decode cX11_look 61 = .ok (.iload 8, 2) := by decide +kernel
theorem dX11_look_63 : decode cX11_look 63 = .ok (.iconst 3, 1) := by decide +kernel
theorem dX11_look_64 : decode cX11_look 64 = .ok (.if_icmp .ge 25, 3) := by decide +kernel
theorem dX11_look_67 : decode cX11_look 67 = .ok (.lload 6, 2) := by decide +kernel
theorem dX11_look_69 : decode cX11_look 69 = .ok (.aload_n 0, 1) := by decide +kernel
theorem dX11_look_70 : decode cX11_look 70 = .ok (.getfield 28, 3) := by decide +kernel
theorem dX11_look_73 : decode cX11_look 73 = .ok (.iload 8, 2) := by decide +kernel
theorem dX11_look_75 : decode cX11_look 75 = .ok (.iload_n 1, 1) := by decide +kernel
theorem dX11_look_76 : decode cX11_look 76 = .ok (.iload_n 2, 1) := by decide +kernel
theorem dX11_look_77 : decode cX11_look 77 = .ok (.invokevirtual 196, 3) := by decide +kernel
theorem dX11_look_80 : decode cX11_look 80 = .ok (.ladd, 1) := by decide +kernel
theorem dX11_look_81 : decode cX11_look 81 = .ok (.lstore 6, 2) := by decide +kernel
theorem dX11_look_83 : decode cX11_look 83 = .ok (.iinc 8 1, 3) := by decide +kernel
theorem dX11_look_86 : decode cX11_look 86 = .ok (.goto (-25), 3) := by decide +kernel
theorem dX11_look_89 : decode cX11_look 89 = .ok (.lload 4, 2) := by decide +kernel
theorem dX11_look_91 : decode cX11_look 91 = .ok (.lload 6, 2) := by decide +kernel
theorem dX11_look_93 : decode cX11_look 93 = .ok (.lsub, 1) := by decide +kernel
theorem dX11_look_94 : decode cX11_look 94 = .ok (.ldc2_w 194, 3) := by decide +kernel
theorem dX11_look_97 : decode cX11_look 97 = .ok (.aload_n 0, 1) := by decide +kernel
theorem dX11_look_98 : decode cX11_look 98 = .ok (.getfield 28, 3) := by decide +kernel
theorem dX11_look_101 : decode cX11_look 101 = .ok (.invokevirtual 177, 3) := by decide +kernel
theorem dX11_look_104 : decode cX11_look 104 = .ok (.lmul, 1) := by decide +kernel
theorem dX11_look_105 : decode cX11_look 105 = .ok (.iload_n 3, 1) := by decide +kernel
theorem dX11_look_106 : decode cX11_look 106 = .ok (.invokestatic 181, 3) := by decide +kernel
theorem dX11_look_109 : decode cX11_look 109 = .ok (.lreturn, 1) := by decide +kernel
theorem dX11_book_0 : decode cX11_book 0 = .ok (.iload_n 1, 1) := by decide +kernel
theorem dX11_book_1 : decode cX11_book 1 = .ok (.invokestatic 100, 3) := by decide +kernel
theorem dX11_book_4 : decode cX11_book 4 = .ok (.ifCond .eq 15, 3) := by decide +kernel
theorem dX11_book_7 : decode cX11_book 7 = .ok (.iload_n 2, 1) := by decide +kernel
theorem dX11_book_8 : decode cX11_book 8 = .ok (.iconst (-1), 1) := by decide +kernel
theorem dX11_book_9 : decode cX11_book 9 = .ok (.if_icmp .eq 13, 3) := by decide +kernel
theorem dX11_book_12 : decode cX11_book 12 = .ok (.iload_n 2, 1) := by decide +kernel
theorem dX11_book_13 : decode cX11_book 13 = .ok (.invokestatic 100, 3) := by decide +kernel
theorem dX11_book_16 : decode cX11_book 16 = .ok (.ifCond .ne 6, 3) := by decide +kernel
theorem dX11_book_19 : decode cX11_book 19 = .ok (.bipush (-101), 2) := by decide +kernel
theorem dX11_book_21 : decode cX11_book 21 = .ok (.ireturn, 1) := by decide +kernel
theorem dX11_book_22 : decode cX11_book 22 = .ok (.aload_n 0, 1) := by decide +kernel
theorem dX11_book_23 : decode cX11_book 23 = .ok (.getfield 41, 3) := by decide +kernel
theorem dX11_book_26 : decode cX11_book 26 = .ok (.iload_n 1, 1) := by decide +kernel
theorem dX11_book_27 : decode cX11_book 27 = .ok (.iload_n 2, 1) := by decide +kernel
theorem dX11_book_28 : decode cX11_book 28 = .ok (.invokevirtual 200, 3) := by decide +kernel
theorem dX11_book_31 : decode cX11_book 31 = .ok (.ifCond .eq 13, 3) := by decide +kernel
theorem dX11_book_34 : decode cX11_book 34 = .ok (.aload_n 0, 1) := by decide +kernel
theorem dX11_book_35 : decode cX11_book 35 = .ok (.getfield 41, 3) := by decide +kernel
theorem dX11_book_38 : decode cX11_book 38 = .ok (.getfield 87, 3) := by decide +kernel
theorem dX11_book_41 : decode cX11_book 41 = .ok (.goto 5, 3) := by decide +kernel
theorem dX11_book_44 : decode cX11_book 44 = .ok (.bipush (-104), 2) := by decide +kernel
theorem dX11_book_46 : decode cX11_book 46 = .ok (.ireturn, 1) := by decide +kernel
theorem dX11_forget_0 : decode cX11_forget 0 = .ok (.aload_n 0, 1) := by decide +kernel
theorem dX11_forget_1 : decode cX11_forget 1 = .ok (.getfield 41, 3) := by decide +kernel
theorem dX11_forget_4 : decode cX11_forget 4 = .ok (.getfield 87, 3) := by decide +kernel
theorem dX11_forget_7 : decode cX11_forget 7 = .ok (.istore_n 1, 1) := by decide +kernel
theorem dX11_forget_8 : decode cX11_forget 8 = .ok (.aload_n 0, 1) := by decide +kernel
theorem dX11_forget_9 : decode cX11_forget 9 = .ok (.getfield 41, 3) := by decide +kernel
theorem dX11_forget_12 : decode cX11_forget 12 = .ok (.iconst 0, 1) := by decide +kernel
theorem dX11_forget_13 : decode cX11_forget 13 = .ok (.putfield 87, 3) := by decide +kernel
theorem dX11_forget_16 : decode cX11_forget 16 = .ok (.iload_n 1, 1) := by decide +kernel
theorem dX11_forget_17 : decode cX11_forget 17 = .ok (.ireturn, 1) := by decide +kernel
theorem dX11_wrong_0 : decode cX11_wrong 0 = .ok (.iload_n 1, 1) := by decide +kernel
theorem dX11_wrong_1 : decode cX11_wrong 1 = .ok (.ifCond .lt 8, 3) := by decide +kernel
theorem dX11_wrong_4 : decode cX11_wrong 4 = .ok (.iload_n 1, 1) := by decide +kernel
theorem dX11_wrong_5 : decode cX11_wrong 5 = .ok (.iconst 4, 1) := by decide +kernel
theorem dX11_wrong_6 : decode cX11_wrong 6 = .ok (.if_icmp .le 8, 3) := by decide +kernel
theorem dX11_wrong_9 : decode cX11_wrong 9 = .ok (.bipush (-102), 2) := by decide +kernel
theorem dX11_wrong_11 : decode cX11_wrong 11 = .ok (.goto 11, 3) := by decide +kernel
theorem dX11_wrong_14 : decode cX11_wrong 14 = .ok (.aload_n 0, 1) := by decide +kernel
theorem dX11_wrong_15 : decode cX11_wrong 15 = .ok (.getfield 41, 3) := by decide +kernel
theorem dX11_wrong_18 : decode cX11_wrong 18 = .ok (.iload_n 1, 1) := by decide +kernel
theorem dX11_wrong_19 : decode cX11_wrong 19 = .ok (.invokevirtual 203, 3) := by decide +kernel
theorem dX11_wrong_22 : decode cX11_wrong 22 = .ok (.ireturn, 1) := by decide +kernel
theorem dX11_earliest_0 : decode cX11_earliest 0 = .ok (.iconst (-1), 1) := by decide +kernel
theorem dX11_earliest_1 : decode cX11_earliest 1 = .ok (.istore_n 1, 1) := by decide +kernel
theorem dX11_earliest_2 : decode cX11_earliest 2 = .ok (.iconst 0, 1) := by decide +kernel
theorem dX11_earliest_3 : decode cX11_earliest 3 = .ok (.istore_n 2, 1) := by decide +kernel
theorem dX11_earliest_4 : decode cX11_earliest 4 = .ok (.iload_n 2, 1) := by decide +kernel
theorem dX11_earliest_5 : decode cX11_earliest 5 = .ok (.iconst 4, 1) := by decide +kernel
theorem dX11_earliest_6 : decode cX11_earliest 6 = .ok (.if_icmp .gt 56, 3) := by decide +kernel
theorem dX11_earliest_9 : decode cX11_earliest 9 = .ok (.iload_n 1, 1) := by decide +kernel
theorem dX11_earliest_10 : decode cX11_earliest 10 = .ok (.iconst (-1), 1) := by decide +kernel
theorem dX11_earliest_11 : decode cX11_earliest 11 = .ok (.if_icmp .eq 22, 3) := by decide +kernel
theorem dX11_earliest_14 : decode cX11_earliest 14 = .ok (.aload_n 0, 1) := by decide +kernel
theorem dX11_earliest_15 : decode cX11_earliest 15 = .ok (.getfield 41, 3) := by decide +kernel
theorem dX11_earliest_18 : decode cX11_earliest 18 = .ok (.iload_n 2, 1) := by decide +kernel
theorem dX11_earliest_19 : decode cX11_earliest 19 = .ok (.invokevirtual 203, 3) := by decide +kernel
theorem dX11_earliest_22 : decode cX11_earliest 22 = .ok (.aload_n 0, 1) := by decide +kernel
theorem dX11_earliest_23 : decode cX11_earliest 23 = .ok (.getfield 41, 3) := by decide +kernel
theorem dX11_earliest_26 : decode cX11_earliest 26 = .ok (.iload_n 1, 1) := by decide +kernel
theorem dX11_earliest_27 : decode cX11_earliest 27 = .ok (.invokevirtual 203, 3) := by decide +kernel
theorem dX11_earliest_30 : decode cX11_earliest 30 = .ok (.if_icmp .ge 7, 3) := by decide +kernel
theorem dX11_earliest_33 : decode cX11_earliest 33 = .ok (.iconst 1, 1) := by decide +kernel
theorem dX11_earliest_34 : decode cX11_earliest 34 = .ok (.goto 4, 3) := by decide +kernel
theorem dX11_earliest_37 : decode cX11_earliest 37 = .ok (.iconst 0, 1) := by decide +kernel
theorem dX11_earliest_38 : decode cX11_earliest 38 = .ok (.istore_n 3, 1) := by decide +kernel
theorem dX11_earliest_39 : decode cX11_earliest 39 = .ok (.aload_n 0, 1) := by decide +kernel
theorem dX11_earliest_40 : decode cX11_earliest 40 = .ok (.getfield 41, 3) := by decide +kernel
theorem dX11_earliest_43 : decode cX11_earliest 43 = .ok (.iload_n 2, 1) := by decide +kernel
theorem dX11_earliest_44 : decode cX11_earliest 44 = .ok (.invokevirtual 206, 3) := by decide +kernel
theorem dX11_earliest_47 : decode cX11_earliest 47 = .ok (.ifCond .le 9, 3) := by decide +kernel
theorem dX11_earliest_50 : decode cX11_earliest 50 = .ok (.iload_n 3, 1) := by decide +kernel
theorem dX11_earliest_51 : decode cX11_earliest 51 = .ok (.ifCond .eq 5, 3) := by decide +kernel
theorem dX11_earliest_54 : decode cX11_earliest 54 = .ok (.iload_n 2, 1) := by decide +kernel
theorem dX11_earliest_55 : decode cX11_earliest 55 = .ok (.istore_n 1, 1) := by decide +kernel
theorem dX11_earliest_56 : decode cX11_earliest 56 = .ok (.iinc 2 1, 3) := by decide +kernel
theorem dX11_earliest_59 : decode cX11_earliest 59 = .ok (.goto (-55), 3) := by decide +kernel
theorem dX11_earliest_62 : decode cX11_earliest 62 = .ok (.iload_n 1, 1) := by decide +kernel
theorem dX11_earliest_63 : decode cX11_earliest 63 = .ok (.ireturn, 1) := by decide +kernel
theorem dX11_days_0 : decode cX11_days 0 = .ok (.iload_n 1, 1) := by decide +kernel
theorem dX11_days_1 : decode cX11_days 1 = .ok (.iconst 1, 1) := by decide +kernel
theorem dX11_days_2 : decode cX11_days 2 = .ok (.if_icmp .lt 22, 3) := by decide +kernel
theorem dX11_days_5 : decode cX11_days 5 = .ok (.iload_n 1, 1) := by decide +kernel
theorem dX11_days_6 : decode cX11_days 6 = .ok (.bipush 30, 2) := by decide +kernel
theorem dX11_days_8 : decode cX11_days 8 = .ok (.if_icmp .gt 16, 3) := by decide +kernel
theorem dX11_days_11 : decode cX11_days 11 = .ok (.iload_n 2, 1) := by decide +kernel
theorem dX11_days_12 : decode cX11_days 12 = .ok (.ifCond .lt 12, 3) := by decide +kernel
theorem dX11_days_15 : decode cX11_days 15 = .ok (.iload_n 3, 1) := by decide +kernel
theorem dX11_days_16 : decode cX11_days 16 = .ok (.ifCond .lt 8, 3) := by decide +kernel
theorem dX11_days_19 : decode cX11_days 19 = .ok (.iload_n 3, 1) := by decide +kernel
theorem dX11_days_20 : decode cX11_days 20 = .ok (.iconst 3, 1) := by decide +kernel
theorem dX11_days_21 : decode cX11_days 21 = .ok (.if_icmp .le 6, 3) := by decide +kernel
theorem dX11_days_24 : decode cX11_days 24 = .ok (.bipush (-102), 2) := by decide +kernel
theorem dX11_days_26 : decode cX11_days 26 = .ok (.ireturn, 1) := by decide +kernel
theorem dX11_days_27 : decode cX11_days 27 = .ok (.aload_n 0, 1) := by decide +kernel
theorem dX11_days_28 : decode cX11_days 28 = .ok (.getfield 19, 3) := by decide +kernel
theorem dX11_days_31 : decode cX11_days 31 = .ok (.invokevirtual 103, 3) := by decide +kernel
theorem dX11_days_34 : decode cX11_days 34 = .ok (.ifCond .ne 6, 3) := by decide +kernel
theorem dX11_days_37 : decode cX11_days 37 = .ok (.bipush (-103), 2) := by decide +kernel
theorem dX11_days_39 : decode cX11_days 39 = .ok (.ireturn, 1) := by decide +kernel
theorem dX11_days_40 : decode cX11_days 40 = .ok (.aload_n 0, 1) := by decide +kernel
theorem dX11_days_41 : decode cX11_days 41 = .ok (.getfield 50, 3) := by decide +kernel
theorem dX11_days_44 : decode cX11_days 44 = .ok (.iload_n 2, 1) := by decide +kernel
theorem dX11_days_45 : decode cX11_days 45 = .ok (.aload_n 0, 1) := by decide +kernel
theorem dX11_days_46 : decode cX11_days 46 = .ok (.getfield 28, 3) := by decide +kernel
theorem dX11_days_49 : decode cX11_days 49 = .ok (.getfield 209, 3) := by decide +kernel
theorem dX11_days_52 : decode cX11_days 52 = .ok (.invokevirtual 212, 3) := by decide +kernel
theorem dX11_days_55 : decode cX11_days 55 = .ok (.iconst 0, 1) := by decide +kernel
theorem dX11_days_56 : decode cX11_days 56 = .ok (.istore 4, 2) := by decide +kernel
theorem dX11_days_58 : decode cX11_days 58 = .ok (.iload 4, 2) := by decide +kernel
theorem dX11_days_60 : decode cX11_days 60 = .ok (.iload_n 1, 1) := by decide +kernel
theorem dX11_days_61 : decode cX11_days 61 = .ok (.if_icmp .ge 27, 3) := by decide +kernel
theorem dX11_days_64 : decode cX11_days 64 = .ok (.aload_n 0, 1) := by decide +kernel
theorem dX11_days_65 : decode cX11_days 65 = .ok (.getfield 50, 3) := by decide +kernel
theorem dX11_days_68 : decode cX11_days 68 = .ok (.invokevirtual 216, 3) := by decide +kernel
theorem dX11_days_71 : decode cX11_days 71 = .ok (.aload_n 0, 1) := by decide +kernel
theorem dX11_days_72 : decode cX11_days 72 = .ok (.getfield 50, 3) := by decide +kernel
theorem dX11_days_75 : decode cX11_days 75 = .ok (.aload_n 0, 1) := by decide +kernel
theorem dX11_days_76 : decode cX11_days 76 = .ok (.getfield 34, 3) := by decide +kernel
theorem dX11_days_79 : decode cX11_days 79 = .ok (.invokevirtual 219, 3) := by decide +kernel
theorem dX11_days_82 : decode cX11_days 82 = .ok (.iinc 4 1, 3) := by decide +kernel
theorem dX11_days_85 : decode cX11_days 85 = .ok (.goto (-27), 3) := by decide +kernel
theorem dX11_days_88 : decode cX11_days 88 = .ok (.iload_n 3, 1) := by decide +kernel
theorem dX11_days_89 : decode cX11_days 89 = .ok (.tableswitch 51 0 2 #[27, 35, 43], 27) := by decide +kernel
theorem dX11_days_116 : decode cX11_days 116 = .ok (.aload_n 0, 1) := by decide +kernel
theorem dX11_days_117 : decode cX11_days 117 = .ok (.getfield 50, 3) := by decide +kernel
theorem dX11_days_120 : decode cX11_days 120 = .ok (.getfield 223, 3) := by decide +kernel
theorem dX11_days_123 : decode cX11_days 123 = .ok (.ireturn, 1) := by decide +kernel
theorem dX11_days_124 : decode cX11_days 124 = .ok (.aload_n 0, 1) := by decide +kernel
theorem dX11_days_125 : decode cX11_days 125 = .ok (.getfield 50, 3) := by decide +kernel
theorem dX11_days_128 : decode cX11_days 128 = .ok (.getfield 226, 3) := by decide +kernel
theorem dX11_days_131 : decode cX11_days 131 = .ok (.ireturn, 1) := by decide +kernel
theorem dX11_days_132 : decode cX11_days 132 = .ok (.aload_n 0, 1) := by decide +kernel
theorem dX11_days_133 : decode cX11_days 133 = .ok (.getfield 50, 3) := by decide +kernel
theorem dX11_days_136 : decode cX11_days 136 = .ok (.getfield 227, 3) := by decide +kernel
theorem dX11_days_139 : decode cX11_days 139 = .ok (.ireturn, 1) := by decide +kernel
theorem dX11_days_140 : decode cX11_days 140 = .ok (.aload_n 0, 1) := by decide +kernel
theorem dX11_days_141 : decode cX11_days 141 = .ok (.getfield 50, 3) := by decide +kernel
theorem dX11_days_144 : decode cX11_days 144 = .ok (.getfield 230, 3) := by decide +kernel
theorem dX11_days_147 : decode cX11_days 147 = .ok (.l2i, 1) := by decide +kernel
theorem dX11_days_148 : decode cX11_days 148 = .ok (.ireturn, 1) := by decide +kernel
theorem dX11_image_0 : decode cX11_image 0 = .ok (.aload_n 0, 1) := by decide +kernel
theorem dX11_image_1 : decode cX11_image 1 = .ok (.getfield 19, 3) := by decide +kernel
theorem dX11_image_4 : decode cX11_image 4 = .ok (.invokevirtual 103, 3) := by decide +kernel
theorem dX11_image_7 : decode cX11_image 7 = .ok (.ifCond .ne 6, 3) := by decide +kernel
theorem dX11_image_10 : decode cX11_image 10 = .ok (.bipush (-103), 2) := by decide +kernel
theorem dX11_image_12 : decode cX11_image 12 = .ok (.ireturn, 1) := by decide +kernel
theorem dX11_image_13 : decode cX11_image 13 = .ok (.aload_n 0, 1) := by decide +kernel
theorem dX11_image_14 : decode cX11_image 14 = .ok (.getfield 59, 3) := by decide +kernel
theorem dX11_image_17 : decode cX11_image 17 = .ok (.getfield 234, 3) := by decide +kernel
theorem dX11_image_20 : decode cX11_image 20 = .ok (.aload_n 0, 1) := by decide +kernel
theorem dX11_image_21 : decode cX11_image 21 = .ok (.getfield 28, 3) := by decide +kernel
theorem dX11_image_24 : decode cX11_image 24 = .ok (.invokevirtual 235, 3) := by decide +kernel
theorem dX11_image_27 : decode cX11_image 27 = .ok (.aload_n 0, 1) := by decide +kernel
theorem dX11_image_28 : decode cX11_image 28 = .ok (.getfield 59, 3) := by decide +kernel
theorem dX11_image_31 : decode cX11_image 31 = .ok (.getfield 239, 3) := by decide +kernel
theorem dX11_image_34 : decode cX11_image 34 = .ok (.aload_n 0, 1) := by decide +kernel
theorem dX11_image_35 : decode cX11_image 35 = .ok (.getfield 41, 3) := by decide +kernel
theorem dX11_image_38 : decode cX11_image 38 = .ok (.invokevirtual 240, 3) := by decide +kernel
theorem dX11_image_41 : decode cX11_image 41 = .ok (.aload_n 0, 1) := by decide +kernel
theorem dX11_image_42 : decode cX11_image 42 = .ok (.getfield 59, 3) := by decide +kernel
theorem dX11_image_45 : decode cX11_image 45 = .ok (.aload_n 0, 1) := by decide +kernel
theorem dX11_image_46 : decode cX11_image 46 = .ok (.invokevirtual 243, 3) := by decide +kernel
theorem dX11_image_49 : decode cX11_image 49 = .ok (.putfield 246, 3) := by decide +kernel
theorem dX11_image_52 : decode cX11_image 52 = .ok (.iconst 0, 1) := by decide +kernel
theorem dX11_image_53 : decode cX11_image 53 = .ok (.istore_n 1, 1) := by decide +kernel
theorem dX11_image_54 : decode cX11_image 54 = .ok (.iload_n 1, 1) := by decide +kernel
theorem dX11_image_55 : decode cX11_image 55 = .ok (.iconst 4, 1) := by decide +kernel
theorem dX11_image_56 : decode cX11_image 56 = .ok (.if_icmp .ge 37, 3) := by decide +kernel
theorem dX11_image_59 : decode cX11_image 59 = .ok (.aload_n 0, 1) := by decide +kernel
theorem dX11_image_60 : decode cX11_image 60 = .ok (.getfield 34, 3) := by decide +kernel
theorem dX11_image_63 : decode cX11_image 63 = .ok (.iload_n 1, 1) := by decide +kernel
theorem dX11_image_64 : decode cX11_image 64 = .ok (.aaload, 1) := by decide +kernel
theorem dX11_image_65 : decode cX11_image 65 = .ok (.astore_n 2, 1) := by decide +kernel
theorem dX11_image_66 : decode cX11_image 66 = .ok (.aload_n 0, 1) := by decide +kernel
theorem dX11_image_67 : decode cX11_image 67 = .ok (.getfield 59, 3) := by decide +kernel
theorem dX11_image_70 : decode cX11_image 70 = .ok (.getfield 248, 3) := by decide +kernel
theorem dX11_image_73 : decode cX11_image 73 = .ok (.iload_n 1, 1) := by decide +kernel
theorem dX11_image_74 : decode cX11_image 74 = .ok (.aload_n 2, 1) := by decide +kernel
theorem dX11_image_75 : decode cX11_image 75 = .ok (.ifnonnull 7, 3) := by decide +kernel
theorem dX11_image_78 : decode cX11_image 78 = .ok (.iconst 0, 1) := by decide +kernel
theorem dX11_image_79 : decode cX11_image 79 = .ok (.goto 7, 3) := by decide +kernel
theorem dX11_image_82 : decode cX11_image 82 = .ok (.aload_n 2, 1) := by decide +kernel
theorem dX11_image_83 : decode cX11_image 83 = .ok (.getfield 124, 3) := by decide +kernel
theorem dX11_image_86 : decode cX11_image 86 = .ok (.iastore, 1) := by decide +kernel
theorem dX11_image_87 : decode cX11_image 87 = .ok (.iinc 1 1, 3) := by decide +kernel
theorem dX11_image_90 : decode cX11_image 90 = .ok (.goto (-36), 3) := by decide +kernel
theorem dX11_image_93 : decode cX11_image 93 = .ok (.aload_n 0, 1) := by decide +kernel
theorem dX11_image_94 : decode cX11_image 94 = .ok (.getfield 59, 3) := by decide +kernel
theorem dX11_image_97 : decode cX11_image 97 = .ok (.iconst 1, 1) := by decide +kernel
theorem dX11_image_98 : decode cX11_image 98 = .ok (.putfield 90, 3) := by decide +kernel
theorem dX11_image_101 : decode cX11_image 101 = .ok (.aload_n 0, 1) := by decide +kernel
theorem dX11_image_102 : decode cX11_image 102 = .ok (.getfield 28, 3) := by decide +kernel
theorem dX11_image_105 : decode cX11_image 105 = .ok (.getfield 134, 3) := by decide +kernel
theorem dX11_image_108 : decode cX11_image 108 = .ok (.ireturn, 1) := by decide +kernel
theorem dX11_restore_0 : decode cX11_restore 0 = .ok (.aload_n 0, 1) := by decide +kernel
theorem dX11_restore_1 : decode cX11_restore 1 = .ok (.getfield 59, 3) := by decide +kernel
theorem dX11_restore_4 : decode cX11_restore 4 = .ok (.getfield 90, 3) := by decide +kernel
theorem dX11_restore_7 : decode cX11_restore 7 = .ok (.ifCond .ne 6, 3) := by decide +kernel
theorem dX11_restore_10 : decode cX11_restore 10 = .ok (.bipush (-103), 2) := by decide +kernel
theorem dX11_restore_12 : decode cX11_restore 12 = .ok (.ireturn, 1) := by decide +kernel
theorem dX11_restore_13 : decode cX11_restore 13 = .ok (.aload_n 0, 1) := by decide +kernel
theorem dX11_restore_14 : decode cX11_restore 14 = .ok (.getfield 28, 3) := by decide +kernel
theorem dX11_restore_17 : decode cX11_restore 17 = .ok (.aload_n 0, 1) := by decide +kernel
theorem dX11_restore_18 : decode cX11_restore 18 = .ok (.getfield 59, 3) := by decide +kernel
theorem dX11_restore_21 : decode cX11_restore 21 = .ok (.getfield 234, 3) := by decide +kernel
theorem dX11_restore_24 : decode cX11_restore 24 = .ok (.invokevirtual 235, 3) := by decide +kernel
theorem dX11_restore_27 : decode cX11_restore 27 = .ok (.aload_n 0, 1) := by decide +kernel
theorem dX11_restore_28 : decode cX11_restore 28 = .ok (.getfield 41, 3) := by decide +kernel
theorem dX11_restore_31 : decode cX11_restore 31 = .ok (.aload_n 0, 1) := by decide +kernel
theorem dX11_restore_32 : decode cX11_restore 32 = .ok (.getfield 59, 3) := by decide +kernel
theorem dX11_restore_35 : decode cX11_restore 35 = .ok (.getfield 239, 3) := by decide +kernel
theorem dX11_restore_38 : decode cX11_restore 38 = .ok (.invokevirtual 240, 3) := by decide +kernel
theorem dX11_restore_41 : decode cX11_restore 41 = .ok (.iconst 0, 1) := by decide +kernel
theorem dX11_restore_42 : decode cX11_restore 42 = .ok (.istore_n 1, 1) := by decide +kernel
theorem dX11_restore_43 : decode cX11_restore 43 = .ok (.iload_n 1, 1) := by decide +kernel
theorem dX11_restore_44 : decode cX11_restore 44 = .ok (.iconst 4, 1) := by decide +kernel
theorem dX11_restore_45 : decode cX11_restore 45 = .ok (.if_icmp .ge 54, 3) := by decide +kernel
theorem dX11_restore_48 : decode cX11_restore 48 = .ok (.aload_n 0, 1) := by decide +kernel
theorem dX11_restore_49 : decode cX11_restore 49 = .ok (.getfield 34, 3) := by decide +kernel
theorem dX11_restore_52 : decode cX11_restore 52 = .ok (.iload_n 1, 1) := by decide +kernel
theorem dX11_restore_53 : decode cX11_restore 53 = .ok (.aaload, 1) := by decide +kernel
theorem dX11_restore_54 : decode cX11_restore 54 = .ok (.astore_n 2, 1) := by decide +kernel
theorem dX11_restore_55 : decode cX11_restore 55 = .ok (.iload_n 1, 1) := by decide +kernel
theorem dX11_restore_56 : decode cX11_restore 56 = .ok (.aload_n 0, 1) := by decide +kernel
theorem dX11_restore_57 : decode cX11_restore 57 = .ok (.getfield 59, 3) := by decide +kernel
theorem dX11_restore_60 : decode cX11_restore 60 = .ok (.getfield 246, 3) := by decide +kernel
theorem dX11_restore_63 : decode cX11_restore 63 = .ok (.if_icmp .lt 13, 3) := by decide +kernel
theorem dX11_restore_66 : decode cX11_restore 66 = .ok (.aload_n 0, 1) := by decide +kernel
theorem dX11_restore_67 : decode cX11_restore 67 = .ok (.getfield 34, 3) := by decide +kernel
theorem dX11_restore_70 : decode cX11_restore 70 = .ok (.iload_n 1, 1) := by decide +kernel
theorem dX11_restore_71 : decode cX11_restore 71 = .ok (.aconst_null, 1) := by decide +kernel
theorem dX11_restore_72 : decode cX11_restore 72 = .ok (.aastore, 1) := by decide +kernel
theorem dX11_restore_73 : decode cX11_restore 73 = .ok (.goto 20, 3) := by decide +kernel
theorem dX11_restore_76 : decode cX11_restore 76 = .ok (.aload_n 2, 1) := by decide +kernel
theorem dX11_restore_77 : decode cX11_restore 77 = .ok (.ifnull 16, 3) := by decide +kernel
theorem dX11_restore_80 : decode cX11_restore 80 = .ok (.aload_n 2, 1) := by decide +kernel
theorem dX11_restore_81 : decode cX11_restore 81 = .ok (.aload_n 0, 1) := by decide +kernel
theorem dX11_restore_82 : decode cX11_restore 82 = .ok (.getfield 59, 3) := by decide +kernel
theorem dX11_restore_85 : decode cX11_restore 85 = .ok (.getfield 248, 3) := by decide +kernel
theorem dX11_restore_88 : decode cX11_restore 88 = .ok (.iload_n 1, 1) := by decide +kernel
theorem dX11_restore_89 : decode cX11_restore 89 = .ok (.iaload, 1) := by decide +kernel
theorem dX11_restore_90 : decode cX11_restore 90 = .ok (.putfield 124, 3) := by decide +kernel
theorem dX11_restore_93 : decode cX11_restore 93 = .ok (.iinc 1 1, 3) := by decide +kernel
theorem dX11_restore_96 : decode cX11_restore 96 = .ok (.goto (-53), 3) := by decide +kernel
theorem dX11_restore_99 : decode cX11_restore 99 = .ok (.aload_n 0, 1) := by decide +kernel
theorem dX11_restore_100 : decode cX11_restore 100 = .ok (.getfield 28, 3) := by decide +kernel
theorem dX11_restore_103 : decode cX11_restore 103 = .ok (.getfield 134, 3) := by decide +kernel
theorem dX11_restore_106 : decode cX11_restore 106 = .ok (.ireturn, 1) := by decide +kernel
theorem dX11_count_0 : decode cX11_count 0 = .ok (.iload_n 1, 1) := by decide +kernel
theorem dX11_count_1 : decode cX11_count 1 = .ok (.tableswitch 126 0 9 #[55, 63, 71, 79, 87, 95, 100, 105, 113, 121], 55) := by decide +kernel
theorem dX11_count_56 : decode cX11_count 56 = .ok (.aload_n 0, 1) := by decide +kernel
theorem dX11_count_57 : decode cX11_count 57 = .ok (.getfield 19, 3) := by decide +kernel
theorem dX11_count_60 : decode cX11_count 60 = .ok (.getfield 97, 3) := by decide +kernel
theorem dX11_count_63 : decode cX11_count 63 = .ok (.ireturn, 1) := by decide +kernel
theorem dX11_count_64 : decode cX11_count 64 = .ok (.aload_n 0, 1) := by decide +kernel
theorem dX11_count_65 : decode cX11_count 65 = .ok (.getfield 19, 3) := by decide +kernel
theorem dX11_count_68 : decode cX11_count 68 = .ok (.getfield 251, 3) := by decide +kernel
theorem dX11_count_71 : decode cX11_count 71 = .ok (.ireturn, 1) := by decide +kernel
theorem dX11_count_72 : decode cX11_count 72 = .ok (.aload_n 0, 1) := by decide +kernel
theorem dX11_count_73 : decode cX11_count 73 = .ok (.getfield 28, 3) := by decide +kernel
theorem dX11_count_76 : decode cX11_count 76 = .ok (.getfield 134, 3) := by decide +kernel
theorem dX11_count_79 : decode cX11_count 79 = .ok (.ireturn, 1) := by decide +kernel
theorem dX11_count_80 : decode cX11_count 80 = .ok (.aload_n 0, 1) := by decide +kernel
theorem dX11_count_81 : decode cX11_count 81 = .ok (.getfield 28, 3) := by decide +kernel
theorem dX11_count_84 : decode cX11_count 84 = .ok (.getfield 209, 3) := by decide +kernel
theorem dX11_count_87 : decode cX11_count 87 = .ok (.ireturn, 1) := by decide +kernel
theorem dX11_count_88 : decode cX11_count 88 = .ok (.aload_n 0, 1) := by decide +kernel
theorem dX11_count_89 : decode cX11_count 89 = .ok (.getfield 28, 3) := by decide +kernel
theorem dX11_count_92 : decode cX11_count 92 = .ok (.invokevirtual 113, 3) := by decide +kernel
theorem dX11_count_95 : decode cX11_count 95 = .ok (.ireturn, 1) := by decide +kernel
theorem dX11_count_96 : decode cX11_count 96 = .ok (.aload_n 0, 1) := by decide +kernel
theorem dX11_count_97 : decode cX11_count 97 = .ok (.invokevirtual 243, 3) := by decide +kernel
theorem dX11_count_100 : decode cX11_count 100 = .ok (.ireturn, 1) := by decide +kernel
theorem dX11_count_101 : decode cX11_count 101 = .ok (.aload_n 0, 1) := by decide +kernel
theorem dX11_count_102 : decode cX11_count 102 = .ok (.invokevirtual 254, 3) := by decide +kernel
theorem dX11_count_105 : decode cX11_count 105 = .ok (.ireturn, 1) := by decide +kernel
theorem dX11_count_106 : decode cX11_count 106 = .ok (.aload_n 0, 1) := by decide +kernel
theorem dX11_count_107 : decode cX11_count 107 = .ok (.getfield 41, 3) := by decide +kernel
theorem dX11_count_110 : decode cX11_count 110 = .ok (.getfield 87, 3) := by decide +kernel
theorem dX11_count_113 : decode cX11_count 113 = .ok (.ireturn, 1) := by decide +kernel
theorem dX11_count_114 : decode cX11_count 114 = .ok (.aload_n 0, 1) := by decide +kernel
theorem dX11_count_115 : decode cX11_count 115 = .ok (.getfield 13, 3) := by decide +kernel
theorem dX11_count_118 : decode cX11_count 118 = .ok (.getfield 67, 3) := by decide +kernel
theorem dX11_count_121 : decode cX11_count 121 = .ok (.ireturn, 1) := by decide +kernel
theorem dX11_count_122 : decode cX11_count 122 = .ok (.aload_n 0, 1) := by decide +kernel
theorem dX11_count_123 : decode cX11_count 123 = .ok (.getfield 94, 3) := by decide +kernel
theorem dX11_count_126 : decode cX11_count 126 = .ok (.ireturn, 1) := by decide +kernel
theorem dX11_count_127 : decode cX11_count 127 = .ok (.bipush (-102), 2) := by decide +kernel
theorem dX11_count_129 : decode cX11_count 129 = .ok (.ireturn, 1) := by decide +kernel
theorem dX11_digest_0 : decode cX11_digest 0 = .ok (.aload_n 0, 1) := by decide +kernel
theorem dX11_digest_1 : decode cX11_digest 1 = .ok (.ldc2_w 257, 3) := by decide +kernel
theorem dX11_digest_4 : decode cX11_digest 4 = .ok (.invokevirtual 259, 3) := by decide +kernel
theorem dX11_digest_7 : decode cX11_digest 7 = .ok (.lstore_n 1, 1) := by decide +kernel
theorem dX11_digest_8 : decode cX11_digest 8 = .ok (.aload_n 0, 1) := by decide +kernel
theorem dX11_digest_9 : decode cX11_digest 9 = .ok (.getfield 19, 3) := by decide +kernel
theorem dX11_digest_12 : decode cX11_digest 12 = .ok (.invokevirtual 103, 3) := by decide +kernel
theorem dX11_digest_15 : decode cX11_digest 15 = .ok (.ifCond .eq 9, 3) := by decide +kernel
theorem dX11_digest_18 : decode cX11_digest 18 = .ok (.aload_n 0, 1) := by decide +kernel
theorem dX11_digest_19 : decode cX11_digest 19 = .ok (.lload_n 1, 1) := by decide +kernel
theorem dX11_digest_20 : decode cX11_digest 20 = .ok (.invokevirtual 263, 3) := by decide +kernel
theorem dX11_digest_23 : decode cX11_digest 23 = .ok (.lstore_n 1, 1) := by decide +kernel
theorem dX11_digest_24 : decode cX11_digest 24 = .ok (.iconst 0, 1) := by decide +kernel
theorem dX11_digest_25 : decode cX11_digest 25 = .ok (.istore_n 3, 1) := by decide +kernel
theorem dX11_digest_26 : decode cX11_digest 26 = .ok (.iload_n 3, 1) := by decide +kernel
theorem dX11_digest_27 : decode cX11_digest 27 = .ok (.iconst 4, 1) := by decide +kernel
theorem dX11_digest_28 : decode cX11_digest 28 = .ok (.if_icmp .gt 22, 3) := by decide +kernel
theorem dX11_digest_31 : decode cX11_digest 31 = .ok (.ldc2_w 266, 3) := by decide +kernel
theorem dX11_digest_34 : decode cX11_digest 34 = .ok (.lload_n 1, 1) := by decide +kernel
theorem dX11_digest_35 : decode cX11_digest 35 = .ok (.lmul, 1) := by decide +kernel
theorem dX11_digest_36 : decode cX11_digest 36 = .ok (.aload_n 0, 1) := by decide +kernel
theorem dX11_digest_37 : decode cX11_digest 37 = .ok (.iload_n 3, 1) := by decide +kernel
theorem dX11_digest_38 : decode cX11_digest 38 = .ok (.invokevirtual 268, 3) := by decide +kernel
theorem dX11_digest_41 : decode cX11_digest 41 = .ok (.i2l, 1) := by decide +kernel
theorem dX11_digest_42 : decode cX11_digest 42 = .ok (.ladd, 1) := by decide +kernel
theorem dX11_digest_43 : decode cX11_digest 43 = .ok (.lstore_n 1, 1) := by decide +kernel
theorem dX11_digest_44 : decode cX11_digest 44 = .ok (.iinc 3 1, 3) := by decide +kernel
theorem dX11_digest_47 : decode cX11_digest 47 = .ok (.goto (-21), 3) := by decide +kernel
theorem dX11_digest_50 : decode cX11_digest 50 = .ok (.ldc2_w 266, 3) := by decide +kernel
theorem dX11_digest_53 : decode cX11_digest 53 = .ok (.lload_n 1, 1) := by decide +kernel
theorem dX11_digest_54 : decode cX11_digest 54 = .ok (.lmul, 1) := by decide +kernel
theorem dX11_digest_55 : decode cX11_digest 55 = .ok (.aload_n 0, 1) := by decide +kernel
theorem dX11_digest_56 : decode cX11_digest 56 = .ok (.invokevirtual 271, 3) := by decide +kernel
theorem dX11_digest_59 : decode cX11_digest 59 = .ok (.i2l, 1) := by decide +kernel
theorem dX11_digest_60 : decode cX11_digest 60 = .ok (.ladd, 1) := by decide +kernel
theorem dX11_digest_61 : decode cX11_digest 61 = .ok (.lstore_n 1, 1) := by decide +kernel
theorem dX11_digest_62 : decode cX11_digest 62 = .ok (.iconst 0, 1) := by decide +kernel
theorem dX11_digest_63 : decode cX11_digest 63 = .ok (.istore_n 3, 1) := by decide +kernel
theorem dX11_digest_64 : decode cX11_digest 64 = .ok (.iload_n 3, 1) := by decide +kernel
theorem dX11_digest_65 : decode cX11_digest 65 = .ok (.aload_n 0, 1) := by decide +kernel
theorem dX11_digest_66 : decode cX11_digest 66 = .ok (.getfield 13, 3) := by decide +kernel
theorem dX11_digest_69 : decode cX11_digest 69 = .ok (.getfield 67, 3) := by decide +kernel
theorem dX11_digest_72 : decode cX11_digest 72 = .ok (.if_icmp .ge 25, 3) := by decide +kernel
theorem dX11_digest_75 : decode cX11_digest 75 = .ok (.ldc2_w 266, 3) := by decide +kernel
theorem dX11_digest_78 : decode cX11_digest 78 = .ok (.lload_n 1, 1) := by decide +kernel
theorem dX11_digest_79 : decode cX11_digest 79 = .ok (.lmul, 1) := by decide +kernel
theorem dX11_digest_80 : decode cX11_digest 80 = .ok (.aload_n 0, 1) := by decide +kernel
theorem dX11_digest_81 : decode cX11_digest 81 = .ok (.getfield 13, 3) := by decide +kernel
theorem dX11_digest_84 : decode cX11_digest 84 = .ok (.iload_n 3, 1) := by decide +kernel
theorem dX11_digest_85 : decode cX11_digest 85 = .ok (.invokevirtual 274, 3) := by decide +kernel
theorem dX11_digest_88 : decode cX11_digest 88 = .ok (.i2l, 1) := by decide +kernel
theorem dX11_digest_89 : decode cX11_digest 89 = .ok (.ladd, 1) := by decide +kernel
theorem dX11_digest_90 : decode cX11_digest 90 = .ok (.lstore_n 1, 1) := by decide +kernel
theorem dX11_digest_91 : decode cX11_digest 91 = .ok (.iinc 3 1, 3) := by decide +kernel
theorem dX11_digest_94 : decode cX11_digest 94 = .ok (.goto (-30), 3) := by decide +kernel
theorem dX11_digest_97 : decode cX11_digest 97 = .ok (.iconst 0, 1) := by decide +kernel
theorem dX11_digest_98 : decode cX11_digest 98 = .ok (.istore_n 3, 1) := by decide +kernel
theorem dX11_digest_99 : decode cX11_digest 99 = .ok (.iload_n 3, 1) := by decide +kernel
theorem dX11_digest_100 : decode cX11_digest 100 = .ok (.bipush 10, 2) := by decide +kernel
theorem dX11_digest_102 : decode cX11_digest 102 = .ok (.if_icmp .ge 22, 3) := by decide +kernel
theorem dX11_digest_105 : decode cX11_digest 105 = .ok (.ldc2_w 266, 3) := by decide +kernel
theorem dX11_digest_108 : decode cX11_digest 108 = .ok (.lload_n 1, 1) := by decide +kernel
theorem dX11_digest_109 : decode cX11_digest 109 = .ok (.lmul, 1) := by decide +kernel
theorem dX11_digest_110 : decode cX11_digest 110 = .ok (.aload_n 0, 1) := by decide +kernel
theorem dX11_digest_111 : decode cX11_digest 111 = .ok (.iload_n 3, 1) := by decide +kernel
theorem dX11_digest_112 : decode cX11_digest 112 = .ok (.invokevirtual 277, 3) := by decide +kernel
theorem dX11_digest_115 : decode cX11_digest 115 = .ok (.i2l, 1) := by decide +kernel
theorem dX11_digest_116 : decode cX11_digest 116 = .ok (.ladd, 1) := by decide +kernel
theorem dX11_digest_117 : decode cX11_digest 117 = .ok (.lstore_n 1, 1) := by decide +kernel
theorem dX11_digest_118 : decode cX11_digest 118 = .ok (.iinc 3 1, 3) := by decide +kernel
theorem dX11_digest_121 : decode cX11_digest 121 = .ok (.goto (-22), 3) := by decide +kernel
theorem dX11_digest_124 : decode cX11_digest 124 = .ok (.lload_n 1, 1) := by decide +kernel
theorem dX11_digest_125 : decode cX11_digest 125 = .ok (.lreturn, 1) := by decide +kernel
theorem dX11_digestOfPeople_0 : decode cX11_digestOfPeople 0 = .ok (.lload_n 1, 1) := by decide +kernel
theorem dX11_digestOfPeople_1 : decode cX11_digestOfPeople 1 = .ok (.lstore_n 3, 1) := by decide +kernel
theorem dX11_digestOfPeople_2 : decode cX11_digestOfPeople 2 = .ok (.aload_n 0, 1) := by decide +kernel
theorem dX11_digestOfPeople_3 : decode cX11_digestOfPeople 3 = .ok (.invokevirtual 243, 3) := by decide +kernel
theorem dX11_digestOfPeople_6 : decode cX11_digestOfPeople 6 = .ok (.istore 5, 2) := by decide +kernel
theorem dX11_digestOfPeople_8 : decode cX11_digestOfPeople 8 = .ok (.iconst 0, 1) := by decide +kernel
theorem dX11_digestOfPeople_9 : decode cX11_digestOfPeople 9 = .ok (.istore 6, 2) := by decide +kernel
theorem dX11_digestOfPeople_11 : decode cX11_digestOfPeople 11 = .ok (.iload 6, 2) := by decide +kernel
theorem dX11_digestOfPeople_13 : decode cX11_digestOfPeople 13 = .ok (.iload 5, 2) := by decide +kernel
theorem dX11_digestOfPeople_15 : decode cX11_digestOfPeople 15 = .ok (.if_icmp .ge 40, 3) := by decide +kernel
theorem dX11_digestOfPeople_18 : decode cX11_digestOfPeople 18 = .ok (.iconst 0, 1) := by decide +kernel
theorem dX11_digestOfPeople_19 : decode cX11_digestOfPeople 19 = .ok (.istore 7, 2) := by decide +kernel
theorem dX11_digestOfPeople_21 : decode cX11_digestOfPeople 21 = .ok (.iload 7, 2) := by decide +kernel
theorem dX11_digestOfPeople_23 : decode cX11_digestOfPeople 23 = .ok (.iconst 5, 1) := by decide +kernel
theorem dX11_digestOfPeople_24 : decode cX11_digestOfPeople 24 = .ok (.if_icmp .ge 25, 3) := by decide +kernel
theorem dX11_digestOfPeople_27 : decode cX11_digestOfPeople 27 = .ok (.ldc2_w 266, 3) := by decide +kernel
theorem dX11_digestOfPeople_30 : decode cX11_digestOfPeople 30 = .ok (.lload_n 3, 1) := by decide +kernel
theorem dX11_digestOfPeople_31 : decode cX11_digestOfPeople 31 = .ok (.lmul, 1) := by decide +kernel
theorem dX11_digestOfPeople_32 : decode cX11_digestOfPeople 32 = .ok (.aload_n 0, 1) := by decide +kernel
theorem dX11_digestOfPeople_33 : decode cX11_digestOfPeople 33 = .ok (.iload 6, 2) := by decide +kernel
theorem dX11_digestOfPeople_35 : decode cX11_digestOfPeople 35 = .ok (.iload 7, 2) := by decide +kernel
theorem dX11_digestOfPeople_37 : decode cX11_digestOfPeople 37 = .ok (.invokevirtual 280, 3) := by decide +kernel
theorem dX11_digestOfPeople_40 : decode cX11_digestOfPeople 40 = .ok (.i2l, 1) := by decide +kernel
theorem dX11_digestOfPeople_41 : decode cX11_digestOfPeople 41 = .ok (.ladd, 1) := by decide +kernel
theorem dX11_digestOfPeople_42 : decode cX11_digestOfPeople 42 = .ok (.lstore_n 3, 1) := by decide +kernel
theorem dX11_digestOfPeople_43 : decode cX11_digestOfPeople 43 = .ok (.iinc 7 1, 3) := by decide +kernel
theorem dX11_digestOfPeople_46 : decode cX11_digestOfPeople 46 = .ok (.goto (-25), 3) := by decide +kernel
theorem dX11_digestOfPeople_49 : decode cX11_digestOfPeople 49 = .ok (.iinc 6 1, 3) := by decide +kernel
theorem dX11_digestOfPeople_52 : decode cX11_digestOfPeople 52 = .ok (.goto (-41), 3) := by decide +kernel
theorem dX11_digestOfPeople_55 : decode cX11_digestOfPeople 55 = .ok (.lload_n 3, 1) := by decide +kernel
theorem dX11_digestOfPeople_56 : decode cX11_digestOfPeople 56 = .ok (.lreturn, 1) := by decide +kernel
theorem dX11_digestOfComing_0 : decode cX11_digestOfComing 0 = .ok (.lload_n 1, 1) := by decide +kernel
theorem dX11_digestOfComing_1 : decode cX11_digestOfComing 1 = .ok (.lstore_n 3, 1) := by decide +kernel
theorem dX11_digestOfComing_2 : decode cX11_digestOfComing 2 = .ok (.iconst 1, 1) := by decide +kernel
theorem dX11_digestOfComing_3 : decode cX11_digestOfComing 3 = .ok (.istore 5, 2) := by decide +kernel
theorem dX11_digestOfComing_5 : decode cX11_digestOfComing 5 = .ok (.iload 5, 2) := by decide +kernel
theorem dX11_digestOfComing_7 : decode cX11_digestOfComing 7 = .ok (.iconst 4, 1) := by decide +kernel
theorem dX11_digestOfComing_8 : decode cX11_digestOfComing 8 = .ok (.if_icmp .gt 23, 3) := by decide +kernel
theorem dX11_digestOfComing_11 : decode cX11_digestOfComing 11 = .ok (.ldc2_w 266, 3) := by decide +kernel
theorem dX11_digestOfComing_14 : decode cX11_digestOfComing 14 = .ok (.lload_n 3, 1) := by decide +kernel
theorem dX11_digestOfComing_15 : decode cX11_digestOfComing 15 = .ok (.lmul, 1) := by decide +kernel
theorem dX11_digestOfComing_16 : decode cX11_digestOfComing 16 = .ok (.aload_n 0, 1) := by decide +kernel
theorem dX11_digestOfComing_17 : decode cX11_digestOfComing 17 = .ok (.iload 5, 2) := by decide +kernel
theorem dX11_digestOfComing_19 : decode cX11_digestOfComing 19 = .ok (.invokevirtual 283, 3) := by decide +kernel
theorem dX11_digestOfComing_22 : decode cX11_digestOfComing 22 = .ok (.i2l, 1) := by decide +kernel
theorem dX11_digestOfComing_23 : decode cX11_digestOfComing 23 = .ok (.ladd, 1) := by decide +kernel
theorem dX11_digestOfComing_24 : decode cX11_digestOfComing 24 = .ok (.lstore_n 3, 1) := by decide +kernel
theorem dX11_digestOfComing_25 : decode cX11_digestOfComing 25 = .ok (.iinc 5 1, 3) := by decide +kernel
theorem dX11_digestOfComing_28 : decode cX11_digestOfComing 28 = .ok (.goto (-23), 3) := by decide +kernel
theorem dX11_digestOfComing_31 : decode cX11_digestOfComing 31 = .ok (.aload_n 0, 1) := by decide +kernel
theorem dX11_digestOfComing_32 : decode cX11_digestOfComing 32 = .ok (.lload_n 3, 1) := by decide +kernel
theorem dX11_digestOfComing_33 : decode cX11_digestOfComing 33 = .ok (.iconst 1, 1) := by decide +kernel
theorem dX11_digestOfComing_34 : decode cX11_digestOfComing 34 = .ok (.invokevirtual 286, 3) := by decide +kernel
theorem dX11_digestOfComing_37 : decode cX11_digestOfComing 37 = .ok (.lstore_n 3, 1) := by decide +kernel
theorem dX11_digestOfComing_38 : decode cX11_digestOfComing 38 = .ok (.aload_n 0, 1) := by decide +kernel
theorem dX11_digestOfComing_39 : decode cX11_digestOfComing 39 = .ok (.lload_n 3, 1) := by decide +kernel
theorem dX11_digestOfComing_40 : decode cX11_digestOfComing 40 = .ok (.bipush 6, 2) := by decide +kernel
theorem dX11_digestOfComing_42 : decode cX11_digestOfComing 42 = .ok (.invokevirtual 286, 3) := by decide +kernel
theorem dX11_digestOfComing_45 : decode cX11_digestOfComing 45 = .ok (.lstore_n 3, 1) := by decide +kernel
theorem dX11_digestOfComing_46 : decode cX11_digestOfComing 46 = .ok (.ldc2_w 266, 3) := by decide +kernel
theorem dX11_digestOfComing_49 : decode cX11_digestOfComing 49 = .ok (.lload_n 3, 1) := by decide +kernel
theorem dX11_digestOfComing_50 : decode cX11_digestOfComing 50 = .ok (.lmul, 1) := by decide +kernel
theorem dX11_digestOfComing_51 : decode cX11_digestOfComing 51 = .ok (.aload_n 0, 1) := by decide +kernel
theorem dX11_digestOfComing_52 : decode cX11_digestOfComing 52 = .ok (.invokevirtual 290, 3) := by decide +kernel
theorem dX11_digestOfComing_55 : decode cX11_digestOfComing 55 = .ok (.i2l, 1) := by decide +kernel
theorem dX11_digestOfComing_56 : decode cX11_digestOfComing 56 = .ok (.ladd, 1) := by decide +kernel
theorem dX11_digestOfComing_57 : decode cX11_digestOfComing 57 = .ok (.lstore_n 3, 1) := by decide +kernel
theorem dX11_digestOfComing_58 : decode cX11_digestOfComing 58 = .ok (.ldc2_w 266, 3) := by decide +kernel
theorem dX11_digestOfComing_61 : decode cX11_digestOfComing 61 = .ok (.lload_n 3, 1) := by decide +kernel
theorem dX11_digestOfComing_62 : decode cX11_digestOfComing 62 = .ok (.lmul, 1) := by decide +kernel
theorem dX11_digestOfComing_63 : decode cX11_digestOfComing 63 = .ok (.aload_n 0, 1) := by decide +kernel
theorem dX11_digestOfComing_64 : decode cX11_digestOfComing 64 = .ok (.invokevirtual 293, 3) := by decide +kernel
theorem dX11_digestOfComing_67 : decode cX11_digestOfComing 67 = .ok (.i2l, 1) := by decide +kernel
theorem dX11_digestOfComing_68 : decode cX11_digestOfComing 68 = .ok (.ladd, 1) := by decide +kernel
theorem dX11_digestOfComing_69 : decode cX11_digestOfComing 69 = .ok (.lstore_n 3, 1) := by decide +kernel
theorem dX11_digestOfComing_70 : decode cX11_digestOfComing 70 = .ok (.ldc2_w 266, 3) := by decide +kernel
theorem dX11_digestOfComing_73 : decode cX11_digestOfComing 73 = .ok (.lload_n 3, 1) := by decide +kernel
theorem dX11_digestOfComing_74 : decode cX11_digestOfComing 74 = .ok (.lmul, 1) := by decide +kernel
theorem dX11_digestOfComing_75 : decode cX11_digestOfComing 75 = .ok (.aload_n 0, 1) := by decide +kernel
theorem dX11_digestOfComing_76 : decode cX11_digestOfComing 76 = .ok (.iconst 1, 1) := by decide +kernel
theorem dX11_digestOfComing_77 : decode cX11_digestOfComing 77 = .ok (.invokevirtual 296, 3) := by decide +kernel
theorem dX11_digestOfComing_80 : decode cX11_digestOfComing 80 = .ok (.i2l, 1) := by decide +kernel
theorem dX11_digestOfComing_81 : decode cX11_digestOfComing 81 = .ok (.ladd, 1) := by decide +kernel
theorem dX11_digestOfComing_82 : decode cX11_digestOfComing 82 = .ok (.lstore_n 3, 1) := by decide +kernel
theorem dX11_digestOfComing_83 : decode cX11_digestOfComing 83 = .ok (.ldc2_w 266, 3) := by decide +kernel
theorem dX11_digestOfComing_86 : decode cX11_digestOfComing 86 = .ok (.lload_n 3, 1) := by decide +kernel
theorem dX11_digestOfComing_87 : decode cX11_digestOfComing 87 = .ok (.lmul, 1) := by decide +kernel
theorem dX11_digestOfComing_88 : decode cX11_digestOfComing 88 = .ok (.aload_n 0, 1) := by decide +kernel
theorem dX11_digestOfComing_89 : decode cX11_digestOfComing 89 = .ok (.iconst 2, 1) := by decide +kernel
theorem dX11_digestOfComing_90 : decode cX11_digestOfComing 90 = .ok (.iconst 5, 1) := by decide +kernel
theorem dX11_digestOfComing_91 : decode cX11_digestOfComing 91 = .ok (.iconst 0, 1) := by decide +kernel
theorem dX11_digestOfComing_92 : decode cX11_digestOfComing 92 = .ok (.invokevirtual 299, 3) := by decide +kernel
theorem dX11_digestOfComing_95 : decode cX11_digestOfComing 95 = .ok (.ladd, 1) := by decide +kernel
theorem dX11_digestOfComing_96 : decode cX11_digestOfComing 96 = .ok (.lstore_n 3, 1) := by decide +kernel
theorem dX11_digestOfComing_97 : decode cX11_digestOfComing 97 = .ok (.ldc2_w 266, 3) := by decide +kernel
theorem dX11_digestOfComing_100 : decode cX11_digestOfComing 100 = .ok (.lload_n 3, 1) := by decide +kernel
theorem dX11_digestOfComing_101 : decode cX11_digestOfComing 101 = .ok (.lmul, 1) := by decide +kernel
theorem dX11_digestOfComing_102 : decode cX11_digestOfComing 102 = .ok (.aload_n 0, 1) := by decide +kernel
theorem dX11_digestOfComing_103 : decode cX11_digestOfComing 103 = .ok (.iconst 2, 1) := by decide +kernel
theorem dX11_digestOfComing_104 : decode cX11_digestOfComing 104 = .ok (.iconst 5, 1) := by decide +kernel
theorem dX11_digestOfComing_105 : decode cX11_digestOfComing 105 = .ok (.iconst 1, 1) := by decide +kernel
theorem dX11_digestOfComing_106 : decode cX11_digestOfComing 106 = .ok (.invokevirtual 299, 3) := by decide +kernel
theorem dX11_digestOfComing_109 : decode cX11_digestOfComing 109 = .ok (.ladd, 1) := by decide +kernel
theorem dX11_digestOfComing_110 : decode cX11_digestOfComing 110 = .ok (.lreturn, 1) := by decide +kernel
theorem dX11_digestOfLikely_0 : decode cX11_digestOfLikely 0 = .ok (.lload_n 1, 1) := by decide +kernel
theorem dX11_digestOfLikely_1 : decode cX11_digestOfLikely 1 = .ok (.lstore 4, 2) := by decide +kernel
theorem dX11_digestOfLikely_3 : decode cX11_digestOfLikely 3 = .ok (.iconst 0, 1) := by decide +kernel
theorem dX11_digestOfLikely_4 : decode cX11_digestOfLikely 4 = .ok (.istore 6, 2) := by decide +kernel
theorem dX11_digestOfLikely_6 : decode cX11_digestOfLikely 6 = .ok (.iload 6, 2) := by decide +kernel
theorem dX11_digestOfLikely_8 : decode cX11_digestOfLikely 8 = .ok (.iconst 3, 1) := by decide +kernel
theorem dX11_digestOfLikely_9 : decode cX11_digestOfLikely 9 = .ok (.if_icmp .ge 43, 3) := by decide +kernel
theorem dX11_digestOfLikely_12 : decode cX11_digestOfLikely 12 = .ok (.ldc2_w 266, 3) := by decide +kernel
theorem dX11_digestOfLikely_15 : decode cX11_digestOfLikely 15 = .ok (.lload 4, 2) := by decide +kernel
theorem dX11_digestOfLikely_17 : decode cX11_digestOfLikely 17 = .ok (.lmul, 1) := by decide +kernel
theorem dX11_digestOfLikely_18 : decode cX11_digestOfLikely 18 = .ok (.aload_n 0, 1) := by decide +kernel
theorem dX11_digestOfLikely_19 : decode cX11_digestOfLikely 19 = .ok (.iload_n 3, 1) := by decide +kernel
theorem dX11_digestOfLikely_20 : decode cX11_digestOfLikely 20 = .ok (.iload 6, 2) := by decide +kernel
theorem dX11_digestOfLikely_22 : decode cX11_digestOfLikely 22 = .ok (.iconst 0, 1) := by decide +kernel
theorem dX11_digestOfLikely_23 : decode cX11_digestOfLikely 23 = .ok (.invokevirtual 302, 3) := by decide +kernel
theorem dX11_digestOfLikely_26 : decode cX11_digestOfLikely 26 = .ok (.ladd, 1) := by decide +kernel
theorem dX11_digestOfLikely_27 : decode cX11_digestOfLikely 27 = .ok (.lstore 4, 2) := by decide +kernel
theorem dX11_digestOfLikely_29 : decode cX11_digestOfLikely 29 = .ok (.ldc2_w 266, 3) := by decide +kernel
theorem dX11_digestOfLikely_32 : decode cX11_digestOfLikely 32 = .ok (.lload 4, 2) := by decide +kernel
theorem dX11_digestOfLikely_34 : decode cX11_digestOfLikely 34 = .ok (.lmul, 1) := by decide +kernel
theorem dX11_digestOfLikely_35 : decode cX11_digestOfLikely 35 = .ok (.aload_n 0, 1) := by decide +kernel
theorem dX11_digestOfLikely_36 : decode cX11_digestOfLikely 36 = .ok (.iload_n 3, 1) := by decide +kernel
theorem dX11_digestOfLikely_37 : decode cX11_digestOfLikely 37 = .ok (.iload 6, 2) := by decide +kernel
theorem dX11_digestOfLikely_39 : decode cX11_digestOfLikely 39 = .ok (.iconst 1, 1) := by decide +kernel
theorem dX11_digestOfLikely_40 : decode cX11_digestOfLikely 40 = .ok (.invokevirtual 302, 3) := by decide +kernel
theorem dX11_digestOfLikely_43 : decode cX11_digestOfLikely 43 = .ok (.ladd, 1) := by decide +kernel
theorem dX11_digestOfLikely_44 : decode cX11_digestOfLikely 44 = .ok (.lstore 4, 2) := by decide +kernel
theorem dX11_digestOfLikely_46 : decode cX11_digestOfLikely 46 = .ok (.iinc 6 1, 3) := by decide +kernel
theorem dX11_digestOfLikely_49 : decode cX11_digestOfLikely 49 = .ok (.goto (-43), 3) := by decide +kernel
theorem dX11_digestOfLikely_52 : decode cX11_digestOfLikely 52 = .ok (.lload 4, 2) := by decide +kernel
theorem dX11_digestOfLikely_54 : decode cX11_digestOfLikely 54 = .ok (.lreturn, 1) := by decide +kernel
theorem dX11_isWeather_0 : decode cX11_isWeather 0 = .ok (.iload_n 0, 1) := by decide +kernel
theorem dX11_isWeather_1 : decode cX11_isWeather 1 = .ok (.ifCond .lt 12, 3) := by decide +kernel
theorem dX11_isWeather_4 : decode cX11_isWeather 4 = .ok (.iload_n 0, 1) := by decide +kernel
theorem dX11_isWeather_5 : decode cX11_isWeather 5 = .ok (.iconst 3, 1) := by decide +kernel
theorem dX11_isWeather_6 : decode cX11_isWeather 6 = .ok (.if_icmp .ge 7, 3) := by decide +kernel
theorem dX11_isWeather_9 : decode cX11_isWeather 9 = .ok (.iconst 1, 1) := by decide +kernel
theorem dX11_isWeather_10 : decode cX11_isWeather 10 = .ok (.goto 4, 3) := by decide +kernel
theorem dX11_isWeather_13 : decode cX11_isWeather 13 = .ok (.iconst 0, 1) := by decide +kernel
theorem dX11_isWeather_14 : decode cX11_isWeather 14 = .ok (.ireturn, 1) := by decide +kernel
theorem dX11_isAhead_0 : decode cX11_isAhead 0 = .ok (.iload_n 0, 1) := by decide +kernel
theorem dX11_isAhead_1 : decode cX11_isAhead 1 = .ok (.iconst 1, 1) := by decide +kernel
theorem dX11_isAhead_2 : decode cX11_isAhead 2 = .ok (.if_icmp .lt 13, 3) := by decide +kernel
theorem dX11_isAhead_5 : decode cX11_isAhead 5 = .ok (.iload_n 0, 1) := by decide +kernel
theorem dX11_isAhead_6 : decode cX11_isAhead 6 = .ok (.bipush 6, 2) := by decide +kernel
theorem dX11_isAhead_8 : decode cX11_isAhead 8 = .ok (.if_icmp .gt 7, 3) := by decide +kernel
theorem dX11_isAhead_11 : decode cX11_isAhead 11 = .ok (.iconst 1, 1) := by decide +kernel
theorem dX11_isAhead_12 : decode cX11_isAhead 12 = .ok (.goto 4, 3) := by decide +kernel
theorem dX11_isAhead_15 : decode cX11_isAhead 15 = .ok (.iconst 0, 1) := by decide +kernel
theorem dX11_isAhead_16 : decode cX11_isAhead 16 = .ok (.ireturn, 1) := by decide +kernel
theorem dX11_isPart_0 : decode cX11_isPart 0 = .ok (.iload_n 0, 1) := by decide +kernel
theorem dX11_isPart_1 : decode cX11_isPart 1 = .ok (.ifCond .eq 8, 3) := by decide +kernel
theorem dX11_isPart_4 : decode cX11_isPart 4 = .ok (.iload_n 0, 1) := by decide +kernel
theorem dX11_isPart_5 : decode cX11_isPart 5 = .ok (.iconst 1, 1) := by decide +kernel
theorem dX11_isPart_6 : decode cX11_isPart 6 = .ok (.if_icmp .ne 7, 3) := by decide +kernel
theorem dX11_isPart_9 : decode cX11_isPart 9 = .ok (.iconst 1, 1) := by decide +kernel
theorem dX11_isPart_10 : decode cX11_isPart 10 = .ok (.goto 4, 3) := by decide +kernel
theorem dX11_isPart_13 : decode cX11_isPart 13 = .ok (.iconst 0, 1) := by decide +kernel
theorem dX11_isPart_14 : decode cX11_isPart 14 = .ok (.ireturn, 1) := by decide +kernel
theorem dX11_isPrice_0 : decode cX11_isPrice 0 = .ok (.iload_n 0, 1) := by decide +kernel
theorem dX11_isPrice_1 : decode cX11_isPrice 1 = .ok (.iconst 1, 1) := by decide +kernel
theorem dX11_isPrice_2 : decode cX11_isPrice 2 = .ok (.if_icmp .lt 13, 3) := by decide +kernel
theorem dX11_isPrice_5 : decode cX11_isPrice 5 = .ok (.iload_n 0, 1) := by decide +kernel
theorem dX11_isPrice_6 : decode cX11_isPrice 6 = .ok (.bipush 9, 2) := by decide +kernel
theorem dX11_isPrice_8 : decode cX11_isPrice 8 = .ok (.if_icmp .gt 7, 3) := by decide +kernel
theorem dX11_isPrice_11 : decode cX11_isPrice 11 = .ok (.iconst 1, 1) := by decide +kernel
theorem dX11_isPrice_12 : decode cX11_isPrice 12 = .ok (.goto 4, 3) := by decide +kernel
theorem dX11_isPrice_15 : decode cX11_isPrice 15 = .ok (.iconst 0, 1) := by decide +kernel
theorem dX11_isPrice_16 : decode cX11_isPrice 16 = .ok (.ireturn, 1) := by decide +kernel
theorem dX11_lowestTerms_0 : decode cX11_lowestTerms 0 = .ok (.lload_n 0, 1) := by decide +kernel
theorem dX11_lowestTerms_1 : decode cX11_lowestTerms 1 = .ok (.lload_n 2, 1) := by decide +kernel
theorem dX11_lowestTerms_2 : decode cX11_lowestTerms 2 = .ok (.invokestatic 305, 3) := by decide +kernel
theorem dX11_lowestTerms_5 : decode cX11_lowestTerms 5 = .ok (.lstore 5, 2) := by decide +kernel
theorem dX11_lowestTerms_7 : decode cX11_lowestTerms 7 = .ok (.iload 4, 2) := by decide +kernel
theorem dX11_lowestTerms_9 : decode cX11_lowestTerms 9 = .ok (.ifCond .ne 7, 3) := by decide +kernel
theorem dX11_lowestTerms_12 : decode cX11_lowestTerms 12 = .ok (.lload_n 0, 1) := by decide +kernel
theorem dX11_lowestTerms_13 : decode cX11_lowestTerms 13 = .ok (.goto 4, 3) := by decide +kernel
theorem dX11_lowestTerms_16 : decode cX11_lowestTerms 16 = .ok (.lload_n 2, 1) := by decide +kernel
theorem dX11_lowestTerms_17 : decode cX11_lowestTerms 17 = .ok (.lstore 7, 2) := by decide +kernel
theorem dX11_lowestTerms_19 : decode cX11_lowestTerms 19 = .ok (.lload 5, 2) := by decide +kernel
theorem dX11_lowestTerms_21 : decode cX11_lowestTerms 21 = .ok (.lconst 0, 1) := by decide +kernel
theorem dX11_lowestTerms_22 : decode cX11_lowestTerms 22 = .ok (.lcmp, 1) := by decide +kernel
theorem dX11_lowestTerms_23 : decode cX11_lowestTerms 23 = .ok (.ifCond .le 11, 3) := by decide +kernel
theorem dX11_lowestTerms_26 : decode cX11_lowestTerms 26 = .ok (.lload 7, 2) := by decide +kernel
theorem dX11_lowestTerms_28 : decode cX11_lowestTerms 28 = .ok (.lload 5, 2) := by decide +kernel
theorem dX11_lowestTerms_30 : decode cX11_lowestTerms 30 = .ok (.ldiv, 1) := by decide +kernel
theorem dX11_lowestTerms_31 : decode cX11_lowestTerms 31 = .ok (.goto 5, 3) := by decide +kernel
theorem dX11_lowestTerms_34 : decode cX11_lowestTerms 34 = .ok (.lload 7, 2) := by decide +kernel
theorem dX11_lowestTerms_36 : decode cX11_lowestTerms 36 = .ok (.lreturn, 1) := by decide +kernel
theorem dX11_greatestDivisor_0 : decode cX11_greatestDivisor 0 = .ok (.lload_n 0, 1) := by decide +kernel
theorem dX11_greatestDivisor_1 : decode cX11_greatestDivisor 1 = .ok (.lstore 4, 2) := by decide +kernel
theorem dX11_greatestDivisor_3 : decode cX11_greatestDivisor 3 = .ok (.lload_n 2, 1) := by decide +kernel
theorem dX11_greatestDivisor_4 : decode cX11_greatestDivisor 4 = .ok (.lstore 6, 2) := by decide +kernel
theorem dX11_greatestDivisor_6 : decode cX11_greatestDivisor 6 = .ok (.iconst 0, 1) := by decide +kernel
theorem dX11_greatestDivisor_7 : decode cX11_greatestDivisor 7 = .ok (.istore 8, 2) := by decide +kernel
theorem dX11_greatestDivisor_9 : decode cX11_greatestDivisor 9 = .ok (.iload 8, 2) := by decide +kernel
theorem dX11_greatestDivisor_11 : decode cX11_greatestDivisor 11 = .ok (.sipush 1000, 3) := by decide +kernel
theorem dX11_greatestDivisor_14 : decode cX11_greatestDivisor 14 = .ok (.if_icmp .ge 31, 3) := by decide +kernel
theorem dX11_greatestDivisor_17 : decode cX11_greatestDivisor 17 = .ok (.lload 6, 2) := by decide +kernel
theorem dX11_greatestDivisor_19 : decode cX11_greatestDivisor 19 = .ok (.lconst 0, 1) := by decide +kernel
theorem dX11_greatestDivisor_20 : decode cX11_greatestDivisor 20 = .ok (.lcmp, 1) := by decide +kernel
theorem dX11_greatestDivisor_21 : decode cX11_greatestDivisor 21 = .ok (.ifCond .eq 24, 3) := by decide +kernel
theorem dX11_greatestDivisor_24 : decode cX11_greatestDivisor 24 = .ok (.lload 4, 2) := by decide +kernel
theorem dX11_greatestDivisor_26 : decode cX11_greatestDivisor 26 = .ok (.lload 6, 2) := by decide +kernel
theorem dX11_greatestDivisor_28 : decode cX11_greatestDivisor 28 = .ok (.lrem, 1) := by decide +kernel
theorem dX11_greatestDivisor_29 : decode cX11_greatestDivisor 29 = .ok (.lstore 9, 2) := by decide +kernel
theorem dX11_greatestDivisor_31 : decode cX11_greatestDivisor 31 = .ok (.lload 6, 2) := by decide +kernel
theorem dX11_greatestDivisor_33 : decode cX11_greatestDivisor 33 = .ok (.lstore 4, 2) := by decide +kernel
theorem dX11_greatestDivisor_35 : decode cX11_greatestDivisor 35 = .ok (.lload 9, 2) := by decide +kernel
theorem dX11_greatestDivisor_37 : decode cX11_greatestDivisor 37 = .ok (.lstore 6, 2) := by decide +kernel
theorem dX11_greatestDivisor_39 : decode cX11_greatestDivisor 39 = .ok (.iinc 8 1, 3) := by decide +kernel
theorem dX11_greatestDivisor_42 : decode cX11_greatestDivisor 42 = .ok (.goto (-33), 3) := by decide +kernel
theorem dX11_greatestDivisor_45 : decode cX11_greatestDivisor 45 = .ok (.lload 4, 2) := by decide +kernel
theorem dX11_greatestDivisor_47 : decode cX11_greatestDivisor 47 = .ok (.lreturn, 1) := by decide +kernel
theorem dX11_newcomer_0 : decode cX11_newcomer 0 = .ok (.iload_n 0, 1) := by decide +kernel
theorem dX11_newcomer_1 : decode cX11_newcomer 1 = .ok (.tableswitch 71 1 4 #[31, 41, 51, 61], 31) := by decide +kernel
theorem dX11_newcomer_32 : decode cX11_newcomer 32 = .ok (.new 309, 3) := by decide +kernel
theorem dX11_newcomer_35 : decode cX11_newcomer 35 = .ok (.dup, 1) := by decide +kernel
theorem dX11_newcomer_36 : decode cX11_newcomer 36 = .ok (.iload_n 1, 1) := by decide +kernel
theorem dX11_newcomer_37 : decode cX11_newcomer 37 = .ok (.iload_n 2, 1) := by decide +kernel
theorem dX11_newcomer_38 : decode cX11_newcomer 38 = .ok (.invokespecial 311, 3) := by decide +kernel
theorem dX11_newcomer_41 : decode cX11_newcomer 41 = .ok (.areturn, 1) := by decide +kernel
theorem dX11_newcomer_42 : decode cX11_newcomer 42 = .ok (.new 313, 3) := by decide +kernel
theorem dX11_newcomer_45 : decode cX11_newcomer 45 = .ok (.dup, 1) := by decide +kernel
theorem dX11_newcomer_46 : decode cX11_newcomer 46 = .ok (.iload_n 1, 1) := by decide +kernel
theorem dX11_newcomer_47 : decode cX11_newcomer 47 = .ok (.iload_n 2, 1) := by decide +kernel
theorem dX11_newcomer_48 : decode cX11_newcomer 48 = .ok (.invokespecial 315, 3) := by decide +kernel
theorem dX11_newcomer_51 : decode cX11_newcomer 51 = .ok (.areturn, 1) := by decide +kernel
theorem dX11_newcomer_52 : decode cX11_newcomer 52 = .ok (.new 316, 3) := by decide +kernel
theorem dX11_newcomer_55 : decode cX11_newcomer 55 = .ok (.dup, 1) := by decide +kernel
theorem dX11_newcomer_56 : decode cX11_newcomer 56 = .ok (.iload_n 1, 1) := by decide +kernel
theorem dX11_newcomer_57 : decode cX11_newcomer 57 = .ok (.iload_n 2, 1) := by decide +kernel
theorem dX11_newcomer_58 : decode cX11_newcomer 58 = .ok (.invokespecial 318, 3) := by decide +kernel
theorem dX11_newcomer_61 : decode cX11_newcomer 61 = .ok (.areturn, 1) := by decide +kernel
theorem dX11_newcomer_62 : decode cX11_newcomer 62 = .ok (.new 319, 3) := by decide +kernel
theorem dX11_newcomer_65 : decode cX11_newcomer 65 = .ok (.dup, 1) := by decide +kernel
theorem dX11_newcomer_66 : decode cX11_newcomer 66 = .ok (.iload_n 1, 1) := by decide +kernel
theorem dX11_newcomer_67 : decode cX11_newcomer 67 = .ok (.iload_n 2, 1) := by decide +kernel
theorem dX11_newcomer_68 : decode cX11_newcomer 68 = .ok (.invokespecial 321, 3) := by decide +kernel
theorem dX11_newcomer_71 : decode cX11_newcomer 71 = .ok (.areturn, 1) := by decide +kernel
theorem dX11_newcomer_72 : decode cX11_newcomer 72 = .ok (.new 32, 3) := by decide +kernel
theorem dX11_newcomer_75 : decode cX11_newcomer 75 = .ok (.dup, 1) := by decide +kernel
theorem dX11_newcomer_76 : decode cX11_newcomer 76 = .ok (.iload_n 1, 1) := by decide +kernel
theorem dX11_newcomer_77 : decode cX11_newcomer 77 = .ok (.iload_n 2, 1) := by decide +kernel
theorem dX11_newcomer_78 : decode cX11_newcomer 78 = .ok (.invokespecial 322, 3) := by decide +kernel
theorem dX11_newcomer_81 : decode cX11_newcomer 81 = .ok (.areturn, 1) := by decide +kernel
theorem dX11_isOfKind_0 : decode cX11_isOfKind 0 = .ok (.iload_n 1, 1) := by decide +kernel
theorem dX11_isOfKind_1 : decode cX11_isOfKind 1 = .ok (.tableswitch 48 0 3 #[31, 33, 38, 43], 31) := by decide +kernel
theorem dX11_isOfKind_32 : decode cX11_isOfKind 32 = .ok (.iconst 1, 1) := by decide +kernel
theorem dX11_isOfKind_33 : decode cX11_isOfKind 33 = .ok (.ireturn, 1) := by decide +kernel
theorem dX11_isOfKind_34 : decode cX11_isOfKind 34 = .ok (.aload_n 0, 1) := by decide +kernel
theorem dX11_isOfKind_35 : decode cX11_isOfKind 35 = .ok (.instanceof 309, 3) := by decide +kernel
theorem dX11_isOfKind_38 : decode cX11_isOfKind 38 = .ok (.ireturn, 1) := by decide +kernel
theorem dX11_isOfKind_39 : decode cX11_isOfKind 39 = .ok (.aload_n 0, 1) := by decide +kernel
theorem dX11_isOfKind_40 : decode cX11_isOfKind 40 = .ok (.instanceof 313, 3) := by decide +kernel
theorem dX11_isOfKind_43 : decode cX11_isOfKind 43 = .ok (.ireturn, 1) := by decide +kernel
theorem dX11_isOfKind_44 : decode cX11_isOfKind 44 = .ok (.aload_n 0, 1) := by decide +kernel
theorem dX11_isOfKind_45 : decode cX11_isOfKind 45 = .ok (.instanceof 316, 3) := by decide +kernel
theorem dX11_isOfKind_48 : decode cX11_isOfKind 48 = .ok (.ireturn, 1) := by decide +kernel
theorem dX11_isOfKind_49 : decode cX11_isOfKind 49 = .ok (.aload_n 0, 1) := by decide +kernel
theorem dX11_isOfKind_50 : decode cX11_isOfKind 50 = .ok (.instanceof 319, 3) := by decide +kernel
theorem dX11_isOfKind_53 : decode cX11_isOfKind 53 = .ok (.ireturn, 1) := by decide +kernel
theorem dX11_personOf_0 : decode cX11_personOf 0 = .ok (.iload_n 1, 1) := by decide +kernel
theorem dX11_personOf_1 : decode cX11_personOf 1 = .ok (.ifCond .lt 17, 3) := by decide +kernel
theorem dX11_personOf_4 : decode cX11_personOf 4 = .ok (.iload_n 1, 1) := by decide +kernel
theorem dX11_personOf_5 : decode cX11_personOf 5 = .ok (.iconst 4, 1) := by decide +kernel
theorem dX11_personOf_6 : decode cX11_personOf 6 = .ok (.if_icmp .ge 12, 3) := by decide +kernel
theorem dX11_personOf_9 : decode cX11_personOf 9 = .ok (.aload_n 0, 1) := by decide +kernel
theorem dX11_personOf_10 : decode cX11_personOf 10 = .ok (.getfield 34, 3) := by decide +kernel
theorem dX11_personOf_13 : decode cX11_personOf 13 = .ok (.iload_n 1, 1) := by decide +kernel
theorem dX11_personOf_14 : decode cX11_personOf 14 = .ok (.aaload, 1) := by decide +kernel
theorem dX11_personOf_15 : decode cX11_personOf 15 = .ok (.goto 4, 3) := by decide +kernel
theorem dX11_personOf_18 : decode cX11_personOf 18 = .ok (.aconst_null, 1) := by decide +kernel
theorem dX11_personOf_19 : decode cX11_personOf 19 = .ok (.areturn, 1) := by decide +kernel
theorem dX11_countPeople_0 : decode cX11_countPeople 0 = .ok (.iconst 0, 1) := by decide +kernel
theorem dX11_countPeople_1 : decode cX11_countPeople 1 = .ok (.istore_n 1, 1) := by decide +kernel
theorem dX11_countPeople_2 : decode cX11_countPeople 2 = .ok (.iconst 0, 1) := by decide +kernel
theorem dX11_countPeople_3 : decode cX11_countPeople 3 = .ok (.istore_n 2, 1) := by decide +kernel
theorem dX11_countPeople_4 : decode cX11_countPeople 4 = .ok (.iload_n 2, 1) := by decide +kernel
theorem dX11_countPeople_5 : decode cX11_countPeople 5 = .ok (.iconst 4, 1) := by decide +kernel
theorem dX11_countPeople_6 : decode cX11_countPeople 6 = .ok (.if_icmp .ge 26, 3) := by decide +kernel
theorem dX11_countPeople_9 : decode cX11_countPeople 9 = .ok (.iload_n 1, 1) := by decide +kernel
theorem dX11_countPeople_10 : decode cX11_countPeople 10 = .ok (.aload_n 0, 1) := by decide +kernel
theorem dX11_countPeople_11 : decode cX11_countPeople 11 = .ok (.getfield 34, 3) := by decide +kernel
theorem dX11_countPeople_14 : decode cX11_countPeople 14 = .ok (.iload_n 2, 1) := by decide +kernel
theorem dX11_countPeople_15 : decode cX11_countPeople 15 = .ok (.aaload, 1) := by decide +kernel
theorem dX11_countPeople_16 : decode cX11_countPeople 16 = .ok (.ifnonnull 7, 3) := by decide +kernel
theorem dX11_countPeople_19 : decode cX11_countPeople 19 = .ok (.iconst 0, 1) := by decide +kernel
theorem dX11_countPeople_20 : decode cX11_countPeople 20 = .ok (.goto 4, 3) := by decide +kernel
theorem dX11_countPeople_23 : decode cX11_countPeople 23 = .ok (.iconst 1, 1) := by decide +kernel
theorem dX11_countPeople_24 : decode cX11_countPeople 24 = .ok (.iadd, 1) := by decide +kernel
theorem dX11_countPeople_25 : decode cX11_countPeople 25 = .ok (.istore_n 1, 1) := by decide +kernel
theorem dX11_countPeople_26 : decode cX11_countPeople 26 = .ok (.iinc 2 1, 3) := by decide +kernel
theorem dX11_countPeople_29 : decode cX11_countPeople 29 = .ok (.goto (-25), 3) := by decide +kernel
theorem dX11_countPeople_32 : decode cX11_countPeople 32 = .ok (.iload_n 1, 1) := by decide +kernel
theorem dX11_countPeople_33 : decode cX11_countPeople 33 = .ok (.ireturn, 1) := by decide +kernel
theorem dX11_paidByAll_0 : decode cX11_paidByAll 0 = .ok (.iconst 0, 1) := by decide +kernel
theorem dX11_paidByAll_1 : decode cX11_paidByAll 1 = .ok (.istore_n 1, 1) := by decide +kernel
theorem dX11_paidByAll_2 : decode cX11_paidByAll 2 = .ok (.iconst 0, 1) := by decide +kernel
theorem dX11_paidByAll_3 : decode cX11_paidByAll 3 = .ok (.istore_n 2, 1) := by decide +kernel
theorem dX11_paidByAll_4 : decode cX11_paidByAll 4 = .ok (.iload_n 2, 1) := by decide +kernel
theorem dX11_paidByAll_5 : decode cX11_paidByAll 5 = .ok (.iconst 4, 1) := by decide +kernel
theorem dX11_paidByAll_6 : decode cX11_paidByAll 6 = .ok (.if_icmp .ge 31, 3) := by decide +kernel
theorem dX11_paidByAll_9 : decode cX11_paidByAll 9 = .ok (.aload_n 0, 1) := by decide +kernel
theorem dX11_paidByAll_10 : decode cX11_paidByAll 10 = .ok (.getfield 34, 3) := by decide +kernel
theorem dX11_paidByAll_13 : decode cX11_paidByAll 13 = .ok (.iload_n 2, 1) := by decide +kernel
theorem dX11_paidByAll_14 : decode cX11_paidByAll 14 = .ok (.aaload, 1) := by decide +kernel
theorem dX11_paidByAll_15 : decode cX11_paidByAll 15 = .ok (.astore_n 3, 1) := by decide +kernel
theorem dX11_paidByAll_16 : decode cX11_paidByAll 16 = .ok (.iload_n 1, 1) := by decide +kernel
theorem dX11_paidByAll_17 : decode cX11_paidByAll 17 = .ok (.aload_n 3, 1) := by decide +kernel
theorem dX11_paidByAll_18 : decode cX11_paidByAll 18 = .ok (.ifnonnull 7, 3) := by decide +kernel
theorem dX11_paidByAll_21 : decode cX11_paidByAll 21 = .ok (.iconst 0, 1) := by decide +kernel
theorem dX11_paidByAll_22 : decode cX11_paidByAll 22 = .ok (.goto 7, 3) := by decide +kernel
theorem dX11_paidByAll_25 : decode cX11_paidByAll 25 = .ok (.aload_n 3, 1) := by decide +kernel
theorem dX11_paidByAll_26 : decode cX11_paidByAll 26 = .ok (.getfield 124, 3) := by decide +kernel
theorem dX11_paidByAll_29 : decode cX11_paidByAll 29 = .ok (.iadd, 1) := by decide +kernel
theorem dX11_paidByAll_30 : decode cX11_paidByAll 30 = .ok (.istore_n 1, 1) := by decide +kernel
theorem dX11_paidByAll_31 : decode cX11_paidByAll 31 = .ok (.iinc 2 1, 3) := by decide +kernel
theorem dX11_paidByAll_34 : decode cX11_paidByAll 34 = .ok (.goto (-30), 3) := by decide +kernel
theorem dX11_paidByAll_37 : decode cX11_paidByAll 37 = .ok (.iload_n 1, 1) := by decide +kernel
theorem dX11_paidByAll_38 : decode cX11_paidByAll 38 = .ok (.ireturn, 1) := by decide +kernel
theorem dJ9_max_f86c9_0 : decode cJ9_max_f86c9 0 = .ok (.lload_n 0, 1) := by decide +kernel
theorem dJ9_max_f86c9_1 : decode cJ9_max_f86c9 1 = .ok (.lload_n 2, 1) := by decide +kernel
theorem dJ9_max_f86c9_2 : decode cJ9_max_f86c9 2 = .ok (.lcmp, 1) := by decide +kernel
theorem dJ9_max_f86c9_3 : decode cJ9_max_f86c9 3 = .ok (.ifCond .lt 7, 3) := by decide +kernel
theorem dJ9_max_f86c9_6 : decode cJ9_max_f86c9 6 = .ok (.lload_n 0, 1) := by decide +kernel
theorem dJ9_max_f86c9_7 : decode cJ9_max_f86c9 7 = .ok (.goto 4, 3) := by decide +kernel
theorem dJ9_max_f86c9_10 : decode cJ9_max_f86c9 10 = .ok (.lload_n 2, 1) := by decide +kernel
theorem dJ9_max_f86c9_11 : decode cJ9_max_f86c9 11 = .ok (.lreturn, 1) := by decide +kernel
theorem dJ9_min_f86c9_0 : decode cJ9_min_f86c9 0 = .ok (.lload_n 0, 1) := by decide +kernel
theorem dJ9_min_f86c9_1 : decode cJ9_min_f86c9 1 = .ok (.lload_n 2, 1) := by decide +kernel
theorem dJ9_min_f86c9_2 : decode cJ9_min_f86c9 2 = .ok (.lcmp, 1) := by decide +kernel
theorem dJ9_min_f86c9_3 : decode cJ9_min_f86c9 3 = .ok (.ifCond .gt 7, 3) := by decide +kernel
theorem dJ9_min_f86c9_6 : decode cJ9_min_f86c9 6 = .ok (.lload_n 0, 1) := by decide +kernel
theorem dJ9_min_f86c9_7 : decode cJ9_min_f86c9 7 = .ok (.goto 4, 3) := by decide +kernel
theorem dJ9_min_f86c9_10 : decode cJ9_min_f86c9 10 = .ok (.lload_n 2, 1) := by decide +kernel
theorem dJ9_min_f86c9_11 : decode cJ9_min_f86c9 11 = .ok (.lreturn, 1) := by decide +kernel
