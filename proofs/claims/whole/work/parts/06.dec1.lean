theorem dX0_init_0 : decode cX0_init 0 = .ok (.aload_n 0, 1) := by decide +kernel
theorem dX0_init_1 : decode cX0_init 1 = .ok (.invokespecial 3, 3) := by decide +kernel
theorem dX0_init_4 : decode cX0_init 4 = .ok (.aload_n 0, 1) := by decide +kernel
theorem dX0_init_5 : decode cX0_init 5 = .ok (.iconst 0, 1) := by decide +kernel
theorem dX0_init_6 : decode cX0_init 6 = .ok (.putfield 9, 3) := by decide +kernel
theorem dX0_init_9 : decode cX0_init 9 = .ok (.aload_n 0, 1) := by decide +kernel
theorem dX0_init_10 : decode cX0_init 10 = .ok (.iconst 0, 1) := by decide +kernel
theorem dX0_init_11 : decode cX0_init 11 = .ok (.iload_n 1, 1) := by decide +kernel
theorem dX0_init_12 : decode cX0_init 12 = .ok (.invokestatic 15, 3) := by decide +kernel
theorem dX0_init_15 : decode cX0_init 15 = .ok (.putfield 21, 3) := by decide +kernel
theorem dX0_init_18 : decode cX0_init 18 = .ok (.aload_n 0, 1) := by decide +kernel
theorem dX0_init_19 : decode cX0_init 19 = .ok (.aload_n 0, 1) := by decide +kernel
theorem dX0_init_20 : decode cX0_init 20 = .ok (.getfield 21, 3) := by decide +kernel
theorem dX0_init_23 : decode cX0_init 23 = .ok (.newarray .int, 2) := by decide +kernel
theorem dX0_init_25 : decode cX0_init 25 = .ok (.putfield 24, 3) := by decide +kernel
theorem dX0_init_28 : decode cX0_init 28 = .ok (.aload_n 0, 1) := by decide +kernel
theorem dX0_init_29 : decode cX0_init 29 = .ok (.aload_n 0, 1) := by decide +kernel
theorem dX0_init_30 : decode cX0_init 30 = .ok (.getfield 21, 3) := by decide +kernel
theorem dX0_init_33 : decode cX0_init 33 = .ok (.newarray .int, 2) := by decide +kernel
theorem dX0_init_35 : decode cX0_init 35 = .ok (.putfield 28, 3) := by decide +kernel
theorem dX0_init_38 : decode cX0_init 38 = .ok (.aload_n 0, 1) := by decide +kernel
theorem dX0_init_39 : decode cX0_init 39 = .ok (.aload_n 0, 1) := by decide +kernel
theorem dX0_init_40 : decode cX0_init 40 = .ok (.getfield 21, 3) := by decide +kernel
theorem dX0_init_43 : decode cX0_init 43 = .ok (.newarray .int, 2) := by decide +kernel
theorem dX0_init_45 : decode cX0_init 45 = .ok (.putfield 31, 3) := by decide +kernel
theorem dX0_init_48 : decode cX0_init 48 = .ok (.return_, 1) := by decide +kernel
theorem dX0_keep_0 : decode cX0_keep 0 = .ok (.aload_n 0, 1) := by decide +kernel
theorem dX0_keep_1 : decode cX0_keep 1 = .ok (.getfield 9, 3) := by decide +kernel
theorem dX0_keep_4 : decode cX0_keep 4 = .ok (.aload_n 0, 1) := by decide +kernel
theorem dX0_keep_5 : decode cX0_keep 5 = .ok (.getfield 21, 3) := by decide +kernel
theorem dX0_keep_8 : decode cX0_keep 8 = .ok (.if_icmp .lt 6, 3) := by decide +kernel
theorem dX0_keep_11 : decode cX0_keep 11 = .ok (.bipush (-4), 2) := by decide +kernel
theorem dX0_keep_13 : decode cX0_keep 13 = .ok (.ireturn, 1) := by decide +kernel
theorem dX0_keep_14 : decode cX0_keep 14 = .ok (.aload_n 0, 1) := by decide +kernel
theorem dX0_keep_15 : decode cX0_keep 15 = .ok (.getfield 24, 3) := by decide +kernel
theorem dX0_keep_18 : decode cX0_keep 18 = .ok (.aload_n 0, 1) := by decide +kernel
theorem dX0_keep_19 : decode cX0_keep 19 = .ok (.getfield 9, 3) := by decide +kernel
theorem dX0_keep_22 : decode cX0_keep 22 = .ok (.iload_n 1, 1) := by decide +kernel
theorem dX0_keep_23 : decode cX0_keep 23 = .ok (.iastore, 1) := by decide +kernel
theorem dX0_keep_24 : decode cX0_keep 24 = .ok (.aload_n 0, 1) := by decide +kernel
theorem dX0_keep_25 : decode cX0_keep 25 = .ok (.getfield 28, 3) := by decide +kernel
theorem dX0_keep_28 : decode cX0_keep 28 = .ok (.aload_n 0, 1) := by decide +kernel
theorem dX0_keep_29 : decode cX0_keep 29 = .ok (.getfield 9, 3) := by decide +kernel
theorem dX0_keep_32 : decode cX0_keep 32 = .ok (.iload_n 2, 1) := by decide +kernel
theorem dX0_keep_33 : decode cX0_keep 33 = .ok (.iastore, 1) := by decide +kernel
theorem dX0_keep_34 : decode cX0_keep 34 = .ok (.aload_n 0, 1) := by decide +kernel
theorem dX0_keep_35 : decode cX0_keep 35 = .ok (.getfield 31, 3) := by decide +kernel
theorem dX0_keep_38 : decode cX0_keep 38 = .ok (.aload_n 0, 1) := by decide +kernel
theorem dX0_keep_39 : decode cX0_keep 39 = .ok (.getfield 9, 3) := by decide +kernel
theorem dX0_keep_42 : decode cX0_keep 42 = .ok (.iload_n 3, 1) := by decide +kernel
theorem dX0_keep_43 : decode cX0_keep 43 = .ok (.iastore, 1) := by decide +kernel
theorem dX0_keep_44 : decode cX0_keep 44 = .ok (.aload_n 0, 1) := by decide +kernel
theorem dX0_keep_45 : decode cX0_keep 45 = .ok (.dup, 1) := by decide +kernel
theorem dX0_keep_46 : decode cX0_keep 46 = .ok (.getfield 9, 3) := by decide +kernel
theorem dX0_keep_49 : decode cX0_keep 49 = .ok (.dup_x1, 1) := by decide +kernel
theorem dX0_keep_50 : decode cX0_keep 50 = .ok (.iconst 1, 1) := by decide +kernel
theorem dX0_keep_51 : decode cX0_keep 51 = .ok (.iadd, 1) := by decide +kernel
theorem dX0_keep_52 : decode cX0_keep 52 = .ok (.putfield 9, 3) := by decide +kernel
theorem dX0_keep_55 : decode cX0_keep 55 = .ok (.ireturn, 1) := by decide +kernel
theorem dX0_takeBack_0 : decode cX0_takeBack 0 = .ok (.iload_n 1, 1) := by decide +kernel
theorem dX0_takeBack_1 : decode cX0_takeBack 1 = .ok (.ifCond .lt 11, 3) := by decide +kernel
theorem dX0_takeBack_4 : decode cX0_takeBack 4 = .ok (.iload_n 1, 1) := by decide +kernel
theorem dX0_takeBack_5 : decode cX0_takeBack 5 = .ok (.aload_n 0, 1) := by decide +kernel
theorem dX0_takeBack_6 : decode cX0_takeBack 6 = .ok (.getfield 9, 3) := by decide +kernel
theorem dX0_takeBack_9 : decode cX0_takeBack 9 = .ok (.if_icmp .le 6, 3) := by decide +kernel
theorem dX0_takeBack_12 : decode cX0_takeBack 12 = .ok (.bipush (-2), 2) := by decide +kernel
theorem dX0_takeBack_14 : decode cX0_takeBack 14 = .ok (.ireturn, 1) := by decide +kernel
theorem dX0_takeBack_15 : decode cX0_takeBack 15 = .ok (.aload_n 0, 1) := by decide +kernel
theorem dX0_takeBack_16 : decode cX0_takeBack 16 = .ok (.dup, 1) := by decide +kernel
theorem dX0_takeBack_17 : decode cX0_takeBack 17 = .ok (.getfield 9, 3) := by decide +kernel
theorem dX0_takeBack_20 : decode cX0_takeBack 20 = .ok (.iload_n 1, 1) := by decide +kernel
theorem dX0_takeBack_21 : decode cX0_takeBack 21 = .ok (.isub, 1) := by decide +kernel
theorem dX0_takeBack_22 : decode cX0_takeBack 22 = .ok (.putfield 9, 3) := by decide +kernel
theorem dX0_takeBack_25 : decode cX0_takeBack 25 = .ok (.aload_n 0, 1) := by decide +kernel
theorem dX0_takeBack_26 : decode cX0_takeBack 26 = .ok (.getfield 9, 3) := by decide +kernel
theorem dX0_takeBack_29 : decode cX0_takeBack 29 = .ok (.ireturn, 1) := by decide +kernel
theorem dX0_sumOf_0 : decode cX0_sumOf 0 = .ok (.iconst 0, 1) := by decide +kernel
theorem dX0_sumOf_1 : decode cX0_sumOf 1 = .ok (.istore_n 3, 1) := by decide +kernel
theorem dX0_sumOf_2 : decode cX0_sumOf 2 = .ok (.iconst 0, 1) := by decide +kernel
theorem dX0_sumOf_3 : decode cX0_sumOf 3 = .ok (.istore 4, 2) := by decide +kernel
theorem dX0_sumOf_5 : decode cX0_sumOf 5 = .ok (.iload 4, 2) := by decide +kernel
theorem dX0_sumOf_7 : decode cX0_sumOf 7 = .ok (.aload_n 0, 1) := by decide +kernel
theorem dX0_sumOf_8 : decode cX0_sumOf 8 = .ok (.getfield 9, 3) := by decide +kernel
theorem dX0_sumOf_11 : decode cX0_sumOf 11 = .ok (.if_icmp .ge 45, 3) := by decide +kernel
theorem dX0_sumOf_14 : decode cX0_sumOf 14 = .ok (.iload_n 3, 1) := by decide +kernel
theorem dX0_sumOf_15 : decode cX0_sumOf 15 = .ok (.aload_n 0, 1) := by decide +kernel
theorem dX0_sumOf_16 : decode cX0_sumOf 16 = .ok (.getfield 24, 3) := by decide +kernel
theorem dX0_sumOf_19 : decode cX0_sumOf 19 = .ok (.iload 4, 2) := by decide +kernel
theorem dX0_sumOf_21 : decode cX0_sumOf 21 = .ok (.iaload, 1) := by decide +kernel
theorem dX0_sumOf_22 : decode cX0_sumOf 22 = .ok (.iload_n 1, 1) := by decide +kernel
theorem dX0_sumOf_23 : decode cX0_sumOf 23 = .ok (.if_icmp .ne 24, 3) := by decide +kernel
theorem dX0_sumOf_26 : decode cX0_sumOf 26 = .ok (.aload_n 0, 1) := by decide +kernel
theorem dX0_sumOf_27 : decode cX0_sumOf 27 = .ok (.getfield 28, 3) := by decide +kernel
theorem dX0_sumOf_30 : decode cX0_sumOf 30 = .ok (.iload 4, 2) := by decide +kernel
theorem dX0_sumOf_32 : decode cX0_sumOf 32 = .ok (.iaload, 1) := by decide +kernel
theorem dX0_sumOf_33 : decode cX0_sumOf 33 = .ok (.iload_n 2, 1) := by decide +kernel
theorem dX0_sumOf_34 : decode cX0_sumOf 34 = .ok (.if_icmp .ne 13, 3) := by decide +kernel
theorem dX0_sumOf_37 : decode cX0_sumOf 37 = .ok (.aload_n 0, 1) := by decide +kernel
theorem dX0_sumOf_38 : decode cX0_sumOf 38 = .ok (.getfield 31, 3) := by decide +kernel
theorem dX0_sumOf_41 : decode cX0_sumOf 41 = .ok (.iload 4, 2) := by decide +kernel
theorem dX0_sumOf_43 : decode cX0_sumOf 43 = .ok (.iaload, 1) := by decide +kernel
theorem dX0_sumOf_44 : decode cX0_sumOf 44 = .ok (.goto 4, 3) := by decide +kernel
theorem dX0_sumOf_47 : decode cX0_sumOf 47 = .ok (.iconst 0, 1) := by decide +kernel
theorem dX0_sumOf_48 : decode cX0_sumOf 48 = .ok (.iadd, 1) := by decide +kernel
theorem dX0_sumOf_49 : decode cX0_sumOf 49 = .ok (.istore_n 3, 1) := by decide +kernel
theorem dX0_sumOf_50 : decode cX0_sumOf 50 = .ok (.iinc 4 1, 3) := by decide +kernel
theorem dX0_sumOf_53 : decode cX0_sumOf 53 = .ok (.goto (-48), 3) := by decide +kernel
theorem dX0_sumOf_56 : decode cX0_sumOf 56 = .ok (.iload_n 3, 1) := by decide +kernel
theorem dX0_sumOf_57 : decode cX0_sumOf 57 = .ok (.ireturn, 1) := by decide +kernel
theorem dX0_areWearOf_0 : decode cX0_areWearOf 0 = .ok (.iconst 0, 1) := by decide +kernel
theorem dX0_areWearOf_1 : decode cX0_areWearOf 1 = .ok (.istore_n 2, 1) := by decide +kernel
theorem dX0_areWearOf_2 : decode cX0_areWearOf 2 = .ok (.iload_n 2, 1) := by decide +kernel
theorem dX0_areWearOf_3 : decode cX0_areWearOf 3 = .ok (.aload_n 0, 1) := by decide +kernel
theorem dX0_areWearOf_4 : decode cX0_areWearOf 4 = .ok (.getfield 9, 3) := by decide +kernel
theorem dX0_areWearOf_7 : decode cX0_areWearOf 7 = .ok (.if_icmp .ge 36, 3) := by decide +kernel
theorem dX0_areWearOf_10 : decode cX0_areWearOf 10 = .ok (.aload_n 1, 1) := by decide +kernel
theorem dX0_areWearOf_11 : decode cX0_areWearOf 11 = .ok (.aload_n 0, 1) := by decide +kernel
theorem dX0_areWearOf_12 : decode cX0_areWearOf 12 = .ok (.getfield 24, 3) := by decide +kernel
theorem dX0_areWearOf_15 : decode cX0_areWearOf 15 = .ok (.iload_n 2, 1) := by decide +kernel
theorem dX0_areWearOf_16 : decode cX0_areWearOf 16 = .ok (.iaload, 1) := by decide +kernel
theorem dX0_areWearOf_17 : decode cX0_areWearOf 17 = .ok (.aload_n 0, 1) := by decide +kernel
theorem dX0_areWearOf_18 : decode cX0_areWearOf 18 = .ok (.getfield 28, 3) := by decide +kernel
theorem dX0_areWearOf_21 : decode cX0_areWearOf 21 = .ok (.iload_n 2, 1) := by decide +kernel
theorem dX0_areWearOf_22 : decode cX0_areWearOf 22 = .ok (.iaload, 1) := by decide +kernel
theorem dX0_areWearOf_23 : decode cX0_areWearOf 23 = .ok (.invokevirtual 34, 3) := by decide +kernel
theorem dX0_areWearOf_26 : decode cX0_areWearOf 26 = .ok (.aload_n 0, 1) := by decide +kernel
theorem dX0_areWearOf_27 : decode cX0_areWearOf 27 = .ok (.getfield 31, 3) := by decide +kernel
theorem dX0_areWearOf_30 : decode cX0_areWearOf 30 = .ok (.iload_n 2, 1) := by decide +kernel
theorem dX0_areWearOf_31 : decode cX0_areWearOf 31 = .ok (.iaload, 1) := by decide +kernel
theorem dX0_areWearOf_32 : decode cX0_areWearOf 32 = .ok (.if_icmp .eq 5, 3) := by decide +kernel
theorem dX0_areWearOf_35 : decode cX0_areWearOf 35 = .ok (.iconst 0, 1) := by decide +kernel
theorem dX0_areWearOf_36 : decode cX0_areWearOf 36 = .ok (.ireturn, 1) := by decide +kernel
theorem dX0_areWearOf_37 : decode cX0_areWearOf 37 = .ok (.iinc 2 1, 3) := by decide +kernel
theorem dX0_areWearOf_40 : decode cX0_areWearOf 40 = .ok (.goto (-38), 3) := by decide +kernel
theorem dX0_areWearOf_43 : decode cX0_areWearOf 43 = .ok (.iconst 1, 1) := by decide +kernel
theorem dX0_areWearOf_44 : decode cX0_areWearOf 44 = .ok (.ireturn, 1) := by decide +kernel
theorem dJ6_bitCount_0f7a4_0 : decode cJ6_bitCount_0f7a4 0 = .ok (.iload_n 0, 1) := by decide +kernel
theorem dJ6_bitCount_0f7a4_1 : decode cJ6_bitCount_0f7a4 1 = .ok (.iload_n 0, 1) := by decide +kernel
theorem dJ6_bitCount_0f7a4_2 : decode cJ6_bitCount_0f7a4 2 = .ok (.iconst 1, 1) := by decide +kernel
theorem dJ6_bitCount_0f7a4_3 : decode cJ6_bitCount_0f7a4 3 = .ok (.iushr, 1) := by decide +kernel
theorem dJ6_bitCount_0f7a4_4 : decode cJ6_bitCount_0f7a4 4 = .ok (.ldc_w 265, 3) := by decide +kernel
theorem dJ6_bitCount_0f7a4_7 : decode cJ6_bitCount_0f7a4 7 = .ok (.iand, 1) := by decide +kernel
theorem dJ6_bitCount_0f7a4_8 : decode cJ6_bitCount_0f7a4 8 = .ok (.isub, 1) := by decide +kernel
theorem dJ6_bitCount_0f7a4_9 : decode cJ6_bitCount_0f7a4 9 = .ok (.istore_n 0, 1) := by decide +kernel
theorem dJ6_bitCount_0f7a4_10 : decode cJ6_bitCount_0f7a4 10 = .ok (.iload_n 0, 1) := by decide +kernel
theorem dJ6_bitCount_0f7a4_11 : decode cJ6_bitCount_0f7a4 11 = .ok (.ldc_w 266, 3) := by decide +kernel
theorem dJ6_bitCount_0f7a4_14 : decode cJ6_bitCount_0f7a4 14 = .ok (.iand, 1) := by decide +kernel
theorem dJ6_bitCount_0f7a4_15 : decode cJ6_bitCount_0f7a4 15 = .ok (.iload_n 0, 1) := by decide +kernel
theorem dJ6_bitCount_0f7a4_16 : decode cJ6_bitCount_0f7a4 16 = .ok (.iconst 2, 1) := by decide +kernel
theorem dJ6_bitCount_0f7a4_17 : decode cJ6_bitCount_0f7a4 17 = .ok (.iushr, 1) := by decide +kernel
theorem dJ6_bitCount_0f7a4_18 : decode cJ6_bitCount_0f7a4 18 = .ok (.ldc_w 266, 3) := by decide +kernel
theorem dJ6_bitCount_0f7a4_21 : decode cJ6_bitCount_0f7a4 21 = .ok (.iand, 1) := by decide +kernel
theorem dJ6_bitCount_0f7a4_22 : decode cJ6_bitCount_0f7a4 22 = .ok (.iadd, 1) := by decide +kernel
theorem dJ6_bitCount_0f7a4_23 : decode cJ6_bitCount_0f7a4 23 = .ok (.istore_n 0, 1) := by decide +kernel
theorem dJ6_bitCount_0f7a4_24 : decode cJ6_bitCount_0f7a4 24 = .ok (.iload_n 0, 1) := by decide +kernel
theorem dJ6_bitCount_0f7a4_25 : decode cJ6_bitCount_0f7a4 25 = .ok (.iload_n 0, 1) := by decide +kernel
theorem dJ6_bitCount_0f7a4_26 : decode cJ6_bitCount_0f7a4 26 = .ok (.iconst 4, 1) := by decide +kernel
theorem dJ6_bitCount_0f7a4_27 : decode cJ6_bitCount_0f7a4 27 = .ok (.iushr, 1) := by decide +kernel
theorem dJ6_bitCount_0f7a4_28 : decode cJ6_bitCount_0f7a4 28 = .ok (.iadd, 1) := by decide +kernel
theorem dJ6_bitCount_0f7a4_29 : decode cJ6_bitCount_0f7a4 29 = .ok (.ldc_w 267, 3) := by decide +kernel
theorem dJ6_bitCount_0f7a4_32 : decode cJ6_bitCount_0f7a4 32 = .ok (.iand, 1) := by decide +kernel
theorem dJ6_bitCount_0f7a4_33 : decode cJ6_bitCount_0f7a4 33 = .ok (.istore_n 0, 1) := by decide +kernel
theorem dJ6_bitCount_0f7a4_34 : decode cJ6_bitCount_0f7a4 34 = .ok (.iload_n 0, 1) := by decide +kernel
theorem dJ6_bitCount_0f7a4_35 : decode cJ6_bitCount_0f7a4 35 = .ok (.iload_n 0, 1) := by decide +kernel
theorem dJ6_bitCount_0f7a4_36 : decode cJ6_bitCount_0f7a4 36 = .ok (.bipush 8, 2) := by decide +kernel
theorem dJ6_bitCount_0f7a4_38 : decode cJ6_bitCount_0f7a4 38 = .ok (.iushr, 1) := by decide +kernel
theorem dJ6_bitCount_0f7a4_39 : decode cJ6_bitCount_0f7a4 39 = .ok (.iadd, 1) := by decide +kernel
theorem dJ6_bitCount_0f7a4_40 : decode cJ6_bitCount_0f7a4 40 = .ok (.istore_n 0, 1) := by decide +kernel
theorem dJ6_bitCount_0f7a4_41 : decode cJ6_bitCount_0f7a4 41 = .ok (.iload_n 0, 1) := by decide +kernel
theorem dJ6_bitCount_0f7a4_42 : decode cJ6_bitCount_0f7a4 42 = .ok (.iload_n 0, 1) := by decide +kernel
theorem dJ6_bitCount_0f7a4_43 : decode cJ6_bitCount_0f7a4 43 = .ok (.bipush 16, 2) := by decide +kernel
theorem dJ6_bitCount_0f7a4_45 : decode cJ6_bitCount_0f7a4 45 = .ok (.iushr, 1) := by decide +kernel
theorem dJ6_bitCount_0f7a4_46 : decode cJ6_bitCount_0f7a4 46 = .ok (.iadd, 1) := by decide +kernel
theorem dJ6_bitCount_0f7a4_47 : decode cJ6_bitCount_0f7a4 47 = .ok (.istore_n 0, 1) := by decide +kernel
theorem dJ6_bitCount_0f7a4_48 : decode cJ6_bitCount_0f7a4 48 = .ok (.iload_n 0, 1) := by decide +kernel
theorem dJ6_bitCount_0f7a4_49 : decode cJ6_bitCount_0f7a4 49 = .ok (.bipush 63, 2) := by decide +kernel
theorem dJ6_bitCount_0f7a4_51 : decode cJ6_bitCount_0f7a4 51 = .ok (.iand, 1) := by decide +kernel
theorem dJ6_bitCount_0f7a4_52 : decode cJ6_bitCount_0f7a4 52 = .ok (.ireturn, 1) := by decide +kernel
theorem dJ9_max_7cf53_0 : decode cJ9_max_7cf53 0 = .ok (.iload_n 0, 1) := by decide +kernel
theorem dJ9_max_7cf53_1 : decode cJ9_max_7cf53 1 = .ok (.iload_n 1, 1) := by decide +kernel
theorem dJ9_max_7cf53_2 : decode cJ9_max_7cf53 2 = .ok (.if_icmp .lt 7, 3) := by decide +kernel
theorem dJ9_max_7cf53_5 : decode cJ9_max_7cf53 5 = .ok (.iload_n 0, 1) := by decide +kernel
theorem dJ9_max_7cf53_6 : decode cJ9_max_7cf53 6 = .ok (.goto 4, 3) := by decide +kernel
theorem dJ9_max_7cf53_9 : decode cJ9_max_7cf53 9 = .ok (.iload_n 1, 1) := by decide +kernel
theorem dJ9_max_7cf53_10 : decode cJ9_max_7cf53 10 = .ok (.ireturn, 1) := by decide +kernel
theorem dJ9_min_7cf53_0 : decode cJ9_min_7cf53 0 = .ok (.iload_n 0, 1) := by decide +kernel
theorem dJ9_min_7cf53_1 : decode cJ9_min_7cf53 1 = .ok (.iload_n 1, 1) := by decide +kernel
theorem dJ9_min_7cf53_2 : decode cJ9_min_7cf53 2 = .ok (.if_icmp .gt 7, 3) := by decide +kernel
theorem dJ9_min_7cf53_5 : decode cJ9_min_7cf53 5 = .ok (.iload_n 0, 1) := by decide +kernel
theorem dJ9_min_7cf53_6 : decode cJ9_min_7cf53 6 = .ok (.goto 4, 3) := by decide +kernel
theorem dJ9_min_7cf53_9 : decode cJ9_min_7cf53 9 = .ok (.iload_n 1, 1) := by decide +kernel
theorem dJ9_min_7cf53_10 : decode cJ9_min_7cf53 10 = .ok (.ireturn, 1) := by decide +kernel
theorem dJ7_fill_53178_0 : decode cJ7_fill_53178 0 = .ok (.iconst 0, 1) := by decide +kernel
theorem dJ7_fill_53178_1 : decode cJ7_fill_53178 1 = .ok (.istore_n 2, 1) := by decide +kernel
theorem dJ7_fill_53178_2 : decode cJ7_fill_53178 2 = .ok (.aload_n 0, 1) := by decide +kernel
theorem dJ7_fill_53178_3 : decode cJ7_fill_53178 3 = .ok (.arraylength, 1) := by decide +kernel
theorem dJ7_fill_53178_4 : decode cJ7_fill_53178 4 = .ok (.istore_n 3, 1) := by decide +kernel
theorem dJ7_fill_53178_5 : decode cJ7_fill_53178 5 = .ok (.iload_n 2, 1) := by decide +kernel
theorem dJ7_fill_53178_6 : decode cJ7_fill_53178 6 = .ok (.iload_n 3, 1) := by decide +kernel
theorem dJ7_fill_53178_7 : decode cJ7_fill_53178 7 = .ok (.if_icmp .ge 13, 3) := by decide +kernel
theorem dJ7_fill_53178_10 : decode cJ7_fill_53178 10 = .ok (.aload_n 0, 1) := by decide +kernel
theorem dJ7_fill_53178_11 : decode cJ7_fill_53178 11 = .ok (.iload_n 2, 1) := by decide +kernel
theorem dJ7_fill_53178_12 : decode cJ7_fill_53178 12 = .ok (.iload_n 1, 1) := by decide +kernel
theorem dJ7_fill_53178_13 : decode cJ7_fill_53178 13 = .ok (.iastore, 1) := by decide +kernel
theorem dJ7_fill_53178_14 : decode cJ7_fill_53178 14 = .ok (.iinc 2 1, 3) := by decide +kernel
theorem dJ7_fill_53178_17 : decode cJ7_fill_53178 17 = .ok (.goto (-12), 3) := by decide +kernel
theorem dJ7_fill_53178_20 : decode cJ7_fill_53178 20 = .ok (.return_, 1) := by decide +kernel
theorem dX1_init_0 : decode cX1_init 0 = .ok (.aload_n 0, 1) := by decide +kernel
theorem dX1_init_1 : decode cX1_init 1 = .ok (.invokespecial 3, 3) := by decide +kernel
theorem dX1_init_4 : decode cX1_init 4 = .ok (.aload_n 0, 1) := by decide +kernel
theorem dX1_init_5 : decode cX1_init 5 = .ok (.bipush 60, 2) := by decide +kernel
theorem dX1_init_7 : decode cX1_init 7 = .ok (.newarray .int, 2) := by decide +kernel
theorem dX1_init_9 : decode cX1_init 9 = .ok (.putfield 9, 3) := by decide +kernel
theorem dX1_init_12 : decode cX1_init 12 = .ok (.aload_n 0, 1) := by decide +kernel
theorem dX1_init_13 : decode cX1_init 13 = .ok (.iconst (-1), 1) := by decide +kernel
theorem dX1_init_14 : decode cX1_init 14 = .ok (.putfield 15, 3) := by decide +kernel
theorem dX1_init_17 : decode cX1_init 17 = .ok (.aload_n 0, 1) := by decide +kernel
theorem dX1_init_18 : decode cX1_init 18 = .ok (.iconst 0, 1) := by decide +kernel
theorem dX1_init_19 : decode cX1_init 19 = .ok (.putfield 19, 3) := by decide +kernel
theorem dX1_init_22 : decode cX1_init 22 = .ok (.return_, 1) := by decide +kernel
theorem dX1_renew_0 : decode cX1_renew 0 = .ok (.aload_n 0, 1) := by decide +kernel
theorem dX1_renew_1 : decode cX1_renew 1 = .ok (.iload_n 1, 1) := by decide +kernel
theorem dX1_renew_2 : decode cX1_renew 2 = .ok (.putfield 15, 3) := by decide +kernel
theorem dX1_renew_5 : decode cX1_renew 5 = .ok (.aload_n 0, 1) := by decide +kernel
theorem dX1_renew_6 : decode cX1_renew 6 = .ok (.iload_n 2, 1) := by decide +kernel
theorem dX1_renew_7 : decode cX1_renew 7 = .ok (.putfield 19, 3) := by decide +kernel
theorem dX1_renew_10 : decode cX1_renew 10 = .ok (.aload_n 0, 1) := by decide +kernel
theorem dX1_renew_11 : decode cX1_renew 11 = .ok (.getfield 9, 3) := by decide +kernel
theorem dX1_renew_14 : decode cX1_renew 14 = .ok (.iconst 0, 1) := by decide +kernel
theorem dX1_renew_15 : decode cX1_renew 15 = .ok (.invokestatic 22, 3) := by decide +kernel
theorem dX1_renew_18 : decode cX1_renew 18 = .ok (.return_, 1) := by decide +kernel
theorem dX1_hasNothing_0 : decode cX1_hasNothing 0 = .ok (.aload_n 0, 1) := by decide +kernel
theorem dX1_hasNothing_1 : decode cX1_hasNothing 1 = .ok (.getfield 15, 3) := by decide +kernel
theorem dX1_hasNothing_4 : decode cX1_hasNothing 4 = .ok (.iconst (-1), 1) := by decide +kernel
theorem dX1_hasNothing_5 : decode cX1_hasNothing 5 = .ok (.if_icmp .ne 7, 3) := by decide +kernel
theorem dX1_hasNothing_8 : decode cX1_hasNothing 8 = .ok (.iconst 1, 1) := by decide +kernel
theorem dX1_hasNothing_9 : decode cX1_hasNothing 9 = .ok (.goto 4, 3) := by decide +kernel
theorem dX1_hasNothing_12 : decode cX1_hasNothing 12 = .ok (.iconst 0, 1) := by decide +kernel
theorem dX1_hasNothing_13 : decode cX1_hasNothing 13 = .ok (.ireturn, 1) := by decide +kernel
theorem dX1_hasCell_0 : decode cX1_hasCell 0 = .ok (.iload_n 1, 1) := by decide +kernel
theorem dX1_hasCell_1 : decode cX1_hasCell 1 = .ok (.ifCond .lt 15, 3) := by decide +kernel
theorem dX1_hasCell_4 : decode cX1_hasCell 4 = .ok (.iload_n 1, 1) := by decide +kernel
theorem dX1_hasCell_5 : decode cX1_hasCell 5 = .ok (.aload_n 0, 1) := by decide +kernel
theorem dX1_hasCell_6 : decode cX1_hasCell 6 = .ok (.getfield 19, 3) := by decide +kernel
theorem dX1_hasCell_9 : decode cX1_hasCell 9 = .ok (.if_icmp .ge 7, 3) := by decide +kernel
theorem dX1_hasCell_12 : decode cX1_hasCell 12 = .ok (.iconst 1, 1) := by decide +kernel
theorem dX1_hasCell_13 : decode cX1_hasCell 13 = .ok (.goto 4, 3) := by decide +kernel
theorem dX1_hasCell_16 : decode cX1_hasCell 16 = .ok (.iconst 0, 1) := by decide +kernel
theorem dX1_hasCell_17 : decode cX1_hasCell 17 = .ok (.ireturn, 1) := by decide +kernel
theorem dX1_hasCells_0 : decode cX1_hasCells 0 = .ok (.iload_n 1, 1) := by decide +kernel
theorem dX1_hasCells_1 : decode cX1_hasCells 1 = .ok (.ifCond .lt 29, 3) := by decide +kernel
theorem dX1_hasCells_4 : decode cX1_hasCells 4 = .ok (.iload_n 1, 1) := by decide +kernel
theorem dX1_hasCells_5 : decode cX1_hasCells 5 = .ok (.aload_n 0, 1) := by decide +kernel
theorem dX1_hasCells_6 : decode cX1_hasCells 6 = .ok (.getfield 19, 3) := by decide +kernel
theorem dX1_hasCells_9 : decode cX1_hasCells 9 = .ok (.if_icmp .gt 21, 3) := by decide +kernel
theorem dX1_hasCells_12 : decode cX1_hasCells 12 = .ok (.iload_n 2, 1) := by decide +kernel
theorem dX1_hasCells_13 : decode cX1_hasCells 13 = .ok (.ifCond .lt 17, 3) := by decide +kernel
theorem dX1_hasCells_16 : decode cX1_hasCells 16 = .ok (.iload_n 2, 1) := by decide +kernel
theorem dX1_hasCells_17 : decode cX1_hasCells 17 = .ok (.aload_n 0, 1) := by decide +kernel
theorem dX1_hasCells_18 : decode cX1_hasCells 18 = .ok (.getfield 19, 3) := by decide +kernel
theorem dX1_hasCells_21 : decode cX1_hasCells 21 = .ok (.iload_n 1, 1) := by decide +kernel
theorem dX1_hasCells_22 : decode cX1_hasCells 22 = .ok (.isub, 1) := by decide +kernel
theorem dX1_hasCells_23 : decode cX1_hasCells 23 = .ok (.if_icmp .gt 7, 3) := by decide +kernel
theorem dX1_hasCells_26 : decode cX1_hasCells 26 = .ok (.iconst 1, 1) := by decide +kernel
theorem dX1_hasCells_27 : decode cX1_hasCells 27 = .ok (.goto 4, 3) := by decide +kernel
theorem dX1_hasCells_30 : decode cX1_hasCells 30 = .ok (.iconst 0, 1) := by decide +kernel
theorem dX1_hasCells_31 : decode cX1_hasCells 31 = .ok (.ireturn, 1) := by decide +kernel
theorem dX1_read_0 : decode cX1_read 0 = .ok (.aload_n 0, 1) := by decide +kernel
theorem dX1_read_1 : decode cX1_read 1 = .ok (.iload_n 1, 1) := by decide +kernel
theorem dX1_read_2 : decode cX1_read 2 = .ok (.invokevirtual 28, 3) := by decide +kernel
theorem dX1_read_5 : decode cX1_read 5 = .ok (.ifCond .eq 12, 3) := by decide +kernel
theorem dX1_read_8 : decode cX1_read 8 = .ok (.aload_n 0, 1) := by decide +kernel
theorem dX1_read_9 : decode cX1_read 9 = .ok (.getfield 9, 3) := by decide +kernel
theorem dX1_read_12 : decode cX1_read 12 = .ok (.iload_n 1, 1) := by decide +kernel
theorem dX1_read_13 : decode cX1_read 13 = .ok (.iaload, 1) := by decide +kernel
theorem dX1_read_14 : decode cX1_read 14 = .ok (.goto 4, 3) := by decide +kernel
theorem dX1_read_17 : decode cX1_read 17 = .ok (.iconst 0, 1) := by decide +kernel
theorem dX1_read_18 : decode cX1_read 18 = .ok (.ireturn, 1) := by decide +kernel
theorem dX1_write_0 : decode cX1_write 0 = .ok (.aload_n 0, 1) := by decide +kernel
theorem dX1_write_1 : decode cX1_write 1 = .ok (.iload_n 1, 1) := by decide +kernel
theorem dX1_write_2 : decode cX1_write 2 = .ok (.invokevirtual 28, 3) := by decide +kernel
theorem dX1_write_5 : decode cX1_write 5 = .ok (.ifCond .eq 14, 3) := by decide +kernel
theorem dX1_write_8 : decode cX1_write 8 = .ok (.aload_n 0, 1) := by decide +kernel
theorem dX1_write_9 : decode cX1_write 9 = .ok (.getfield 9, 3) := by decide +kernel
theorem dX1_write_12 : decode cX1_write 12 = .ok (.iload_n 1, 1) := by decide +kernel
theorem dX1_write_13 : decode cX1_write 13 = .ok (.aload_n 0, 1) := by decide +kernel
theorem dX1_write_14 : decode cX1_write 14 = .ok (.iload_n 2, 1) := by decide +kernel
theorem dX1_write_15 : decode cX1_write 15 = .ok (.invokevirtual 32, 3) := by decide +kernel
theorem dX1_write_18 : decode cX1_write 18 = .ok (.iastore, 1) := by decide +kernel
theorem dX1_write_19 : decode cX1_write 19 = .ok (.return_, 1) := by decide +kernel
theorem dX1_cutToLane_0 : decode cX1_cutToLane 0 = .ok (.aload_n 0, 1) := by decide +kernel
theorem dX1_cutToLane_1 : decode cX1_cutToLane 1 = .ok (.getfield 15, 3) := by decide +kernel
theorem dX1_cutToLane_4 : decode cX1_cutToLane 4 = .ok (.lookupswitch 34 #[(0, 28), (1, 31)], 28) := by decide +kernel
theorem dX1_cutToLane_32 : decode cX1_cutToLane 32 = .ok (.iload_n 1, 1) := by decide +kernel
theorem dX1_cutToLane_33 : decode cX1_cutToLane 33 = .ok (.i2b, 1) := by decide +kernel
theorem dX1_cutToLane_34 : decode cX1_cutToLane 34 = .ok (.ireturn, 1) := by decide +kernel
theorem dX1_cutToLane_35 : decode cX1_cutToLane 35 = .ok (.iload_n 1, 1) := by decide +kernel
theorem dX1_cutToLane_36 : decode cX1_cutToLane 36 = .ok (.i2s, 1) := by decide +kernel
theorem dX1_cutToLane_37 : decode cX1_cutToLane 37 = .ok (.ireturn, 1) := by decide +kernel
theorem dX1_cutToLane_38 : decode cX1_cutToLane 38 = .ok (.iload_n 1, 1) := by decide +kernel
theorem dX1_cutToLane_39 : decode cX1_cutToLane 39 = .ok (.ireturn, 1) := by decide +kernel
theorem dX2_init_0 : decode cX2_init 0 = .ok (.aload_n 0, 1) := by decide +kernel
theorem dX2_init_1 : decode cX2_init 1 = .ok (.invokespecial 3, 3) := by decide +kernel
theorem dX2_init_4 : decode cX2_init 4 = .ok (.aload_n 0, 1) := by decide +kernel
theorem dX2_init_5 : decode cX2_init 5 = .ok (.iconst 4, 1) := by decide +kernel
theorem dX2_init_6 : decode cX2_init 6 = .ok (.newarray .int, 2) := by decide +kernel
theorem dX2_init_8 : decode cX2_init 8 = .ok (.putfield 9, 3) := by decide +kernel
theorem dX2_init_11 : decode cX2_init 11 = .ok (.aload_n 0, 1) := by decide +kernel
theorem dX2_init_12 : decode cX2_init 12 = .ok (.iconst 4, 1) := by decide +kernel
theorem dX2_init_13 : decode cX2_init 13 = .ok (.newarray .int, 2) := by decide +kernel
theorem dX2_init_15 : decode cX2_init 15 = .ok (.putfield 15, 3) := by decide +kernel
theorem dX2_init_18 : decode cX2_init 18 = .ok (.aload_n 0, 1) := by decide +kernel
theorem dX2_init_19 : decode cX2_init 19 = .ok (.bipush 6, 2) := by decide +kernel
theorem dX2_init_21 : decode cX2_init 21 = .ok (.newarray .int, 2) := by decide +kernel
theorem dX2_init_23 : decode cX2_init 23 = .ok (.putfield 18, 3) := by decide +kernel
theorem dX2_init_26 : decode cX2_init 26 = .ok (.aload_n 0, 1) := by decide +kernel
theorem dX2_init_27 : decode cX2_init 27 = .ok (.bipush 6, 2) := by decide +kernel
theorem dX2_init_29 : decode cX2_init 29 = .ok (.newarray .int, 2) := by decide +kernel
theorem dX2_init_31 : decode cX2_init 31 = .ok (.putfield 21, 3) := by decide +kernel
theorem dX2_init_34 : decode cX2_init 34 = .ok (.aload_n 0, 1) := by decide +kernel
theorem dX2_init_35 : decode cX2_init 35 = .ok (.bipush 6, 2) := by decide +kernel
theorem dX2_init_37 : decode cX2_init 37 = .ok (.newarray .int, 2) := by decide +kernel
theorem dX2_init_39 : decode cX2_init 39 = .ok (.putfield 24, 3) := by decide +kernel
theorem dX2_init_42 : decode cX2_init 42 = .ok (.aload_n 0, 1) := by decide +kernel
theorem dX2_init_43 : decode cX2_init 43 = .ok (.bipush 6, 2) := by decide +kernel
theorem dX2_init_45 : decode cX2_init 45 = .ok (.newarray .int, 2) := by decide +kernel
theorem dX2_init_47 : decode cX2_init 47 = .ok (.putfield 27, 3) := by decide +kernel
theorem dX2_init_50 : decode cX2_init 50 = .ok (.aload_n 0, 1) := by decide +kernel
theorem dX2_init_51 : decode cX2_init 51 = .ok (.bipush 6, 2) := by decide +kernel
theorem dX2_init_53 : decode cX2_init 53 = .ok (.newarray .int, 2) := by decide +kernel
theorem dX2_init_55 : decode cX2_init 55 = .ok (.putfield 30, 3) := by decide +kernel
theorem dX2_init_58 : decode cX2_init 58 = .ok (.aload_n 0, 1) := by decide +kernel
theorem dX2_init_59 : decode cX2_init 59 = .ok (.iconst 0, 1) := by decide +kernel
theorem dX2_init_60 : decode cX2_init 60 = .ok (.putfield 33, 3) := by decide +kernel
theorem dX2_init_63 : decode cX2_init 63 = .ok (.aload_n 0, 1) := by decide +kernel
theorem dX2_init_64 : decode cX2_init 64 = .ok (.iconst 0, 1) := by decide +kernel
theorem dX2_init_65 : decode cX2_init 65 = .ok (.putfield 37, 3) := by decide +kernel
theorem dX2_init_68 : decode cX2_init 68 = .ok (.aload_n 0, 1) := by decide +kernel
theorem dX2_init_69 : decode cX2_init 69 = .ok (.iconst 0, 1) := by decide +kernel
theorem dX2_init_70 : decode cX2_init 70 = .ok (.putfield 40, 3) := by decide +kernel
theorem dX2_init_73 : decode cX2_init 73 = .ok (.aload_n 0, 1) := by decide +kernel
theorem dX2_init_74 : decode cX2_init 74 = .ok (.iconst 0, 1) := by decide +kernel
theorem dX2_init_75 : decode cX2_init 75 = .ok (.putfield 43, 3) := by decide +kernel
theorem dX2_init_78 : decode cX2_init 78 = .ok (.aload_n 0, 1) := by decide +kernel
theorem dX2_init_79 : decode cX2_init 79 = .ok (.iconst 0, 1) := by decide +kernel
theorem dX2_init_80 : decode cX2_init 80 = .ok (.putfield 46, 3) := by decide +kernel
theorem dX2_init_83 : decode cX2_init 83 = .ok (.return_, 1) := by decide +kernel
theorem dX2_begin_0 : decode cX2_begin 0 = .ok (.aload_n 0, 1) := by decide +kernel
theorem dX2_begin_1 : decode cX2_begin 1 = .ok (.iconst 0, 1) := by decide +kernel
theorem dX2_begin_2 : decode cX2_begin 2 = .ok (.putfield 33, 3) := by decide +kernel
theorem dX2_begin_5 : decode cX2_begin 5 = .ok (.aload_n 0, 1) := by decide +kernel
theorem dX2_begin_6 : decode cX2_begin 6 = .ok (.iconst 0, 1) := by decide +kernel
theorem dX2_begin_7 : decode cX2_begin 7 = .ok (.putfield 37, 3) := by decide +kernel
theorem dX2_begin_10 : decode cX2_begin 10 = .ok (.aload_n 0, 1) := by decide +kernel
theorem dX2_begin_11 : decode cX2_begin 11 = .ok (.iconst 0, 1) := by decide +kernel
theorem dX2_begin_12 : decode cX2_begin 12 = .ok (.putfield 40, 3) := by decide +kernel
theorem dX2_begin_15 : decode cX2_begin 15 = .ok (.aload_n 0, 1) := by decide +kernel
theorem dX2_begin_16 : decode cX2_begin 16 = .ok (.iconst 0, 1) := by decide +kernel
theorem dX2_begin_17 : decode cX2_begin 17 = .ok (.putfield 43, 3) := by decide +kernel
theorem dX2_begin_20 : decode cX2_begin 20 = .ok (.aload_n 0, 1) := by decide +kernel
theorem dX2_begin_21 : decode cX2_begin 21 = .ok (.iconst 0, 1) := by decide +kernel
theorem dX2_begin_22 : decode cX2_begin 22 = .ok (.putfield 46, 3) := by decide +kernel
theorem dX2_begin_25 : decode cX2_begin 25 = .ok (.return_, 1) := by decide +kernel
theorem dX2_isWhole_0 : decode cX2_isWhole 0 = .ok (.aload_n 0, 1) := by decide +kernel
theorem dX2_isWhole_1 : decode cX2_isWhole 1 = .ok (.getfield 43, 3) := by decide +kernel
theorem dX2_isWhole_4 : decode cX2_isWhole 4 = .ok (.iconst 3, 1) := by decide +kernel
theorem dX2_isWhole_5 : decode cX2_isWhole 5 = .ok (.if_icmp .ne 14, 3) := by decide +kernel
theorem dX2_isWhole_8 : decode cX2_isWhole 8 = .ok (.aload_n 0, 1) := by decide +kernel
theorem dX2_isWhole_9 : decode cX2_isWhole 9 = .ok (.getfield 40, 3) := by decide +kernel
theorem dX2_isWhole_12 : decode cX2_isWhole 12 = .ok (.ifCond .le 7, 3) := by decide +kernel
theorem dX2_isWhole_15 : decode cX2_isWhole 15 = .ok (.iconst 1, 1) := by decide +kernel
theorem dX2_isWhole_16 : decode cX2_isWhole 16 = .ok (.goto 4, 3) := by decide +kernel
theorem dX2_isWhole_19 : decode cX2_isWhole 19 = .ok (.iconst 0, 1) := by decide +kernel
theorem dX2_isWhole_20 : decode cX2_isWhole 20 = .ok (.ireturn, 1) := by decide +kernel
theorem dX2_goesOn_0 : decode cX2_goesOn 0 = .ok (.aload_n 0, 1) := by decide +kernel
theorem dX2_goesOn_1 : decode cX2_goesOn 1 = .ok (.getfield 43, 3) := by decide +kernel
theorem dX2_goesOn_4 : decode cX2_goesOn 4 = .ok (.tableswitch 67 0 2 #[28, 37, 52], 28) := by decide +kernel
theorem dX2_goesOn_32 : decode cX2_goesOn 32 = .ok (.aload_n 0, 1) := by decide +kernel
theorem dX2_goesOn_33 : decode cX2_goesOn 33 = .ok (.iload_n 1, 1) := by decide +kernel
theorem dX2_goesOn_34 : decode cX2_goesOn 34 = .ok (.invokevirtual 49, 3) := by decide +kernel
theorem dX2_goesOn_37 : decode cX2_goesOn 37 = .ok (.istore_n 2, 1) := by decide +kernel
theorem dX2_goesOn_38 : decode cX2_goesOn 38 = .ok (.goto 39, 3) := by decide +kernel
theorem dX2_goesOn_41 : decode cX2_goesOn 41 = .ok (.aload_n 0, 1) := by decide +kernel
theorem dX2_goesOn_42 : decode cX2_goesOn 42 = .ok (.aload_n 0, 1) := by decide +kernel
theorem dX2_goesOn_43 : decode cX2_goesOn 43 = .ok (.getfield 37, 3) := by decide +kernel
theorem dX2_goesOn_46 : decode cX2_goesOn 46 = .ok (.iconst 1, 1) := by decide +kernel
theorem dX2_goesOn_47 : decode cX2_goesOn 47 = .ok (.isub, 1) := by decide +kernel
theorem dX2_goesOn_48 : decode cX2_goesOn 48 = .ok (.iload_n 1, 1) := by decide +kernel
theorem dX2_goesOn_49 : decode cX2_goesOn 49 = .ok (.invokevirtual 53, 3) := by decide +kernel
theorem dX2_goesOn_52 : decode cX2_goesOn 52 = .ok (.istore_n 2, 1) := by decide +kernel
theorem dX2_goesOn_53 : decode cX2_goesOn 53 = .ok (.goto 24, 3) := by decide +kernel
theorem dX2_goesOn_56 : decode cX2_goesOn 56 = .ok (.aload_n 0, 1) := by decide +kernel
theorem dX2_goesOn_57 : decode cX2_goesOn 57 = .ok (.aload_n 0, 1) := by decide +kernel
theorem dX2_goesOn_58 : decode cX2_goesOn 58 = .ok (.getfield 40, 3) := by decide +kernel
theorem dX2_goesOn_61 : decode cX2_goesOn 61 = .ok (.iconst 1, 1) := by decide +kernel
theorem dX2_goesOn_62 : decode cX2_goesOn 62 = .ok (.isub, 1) := by decide +kernel
theorem dX2_goesOn_63 : decode cX2_goesOn 63 = .ok (.iload_n 1, 1) := by decide +kernel
theorem dX2_goesOn_64 : decode cX2_goesOn 64 = .ok (.invokevirtual 57, 3) := by decide +kernel
theorem dX2_goesOn_67 : decode cX2_goesOn 67 = .ok (.istore_n 2, 1) := by decide +kernel
theorem dX2_goesOn_68 : decode cX2_goesOn 68 = .ok (.goto 9, 3) := by decide +kernel
theorem dX2_goesOn_71 : decode cX2_goesOn 71 = .ok (.aload_n 0, 1) := by decide +kernel
theorem dX2_goesOn_72 : decode cX2_goesOn 72 = .ok (.iload_n 1, 1) := by decide +kernel
theorem dX2_goesOn_73 : decode cX2_goesOn 73 = .ok (.invokevirtual 60, 3) := by decide +kernel
theorem dX2_goesOn_76 : decode cX2_goesOn 76 = .ok (.istore_n 2, 1) := by decide +kernel
theorem dX2_goesOn_77 : decode cX2_goesOn 77 = .ok (.aload_n 0, 1) := by decide +kernel
theorem dX2_goesOn_78 : decode cX2_goesOn 78 = .ok (.dup, 1) := by decide +kernel
theorem dX2_goesOn_79 : decode cX2_goesOn 79 = .ok (.getfield 46, 3) := by decide +kernel
theorem dX2_goesOn_82 : decode cX2_goesOn 82 = .ok (.iconst 1, 1) := by decide +kernel
theorem dX2_goesOn_83 : decode cX2_goesOn 83 = .ok (.iadd, 1) := by decide +kernel
theorem dX2_goesOn_84 : decode cX2_goesOn 84 = .ok (.putfield 46, 3) := by decide +kernel
theorem dX2_goesOn_87 : decode cX2_goesOn 87 = .ok (.iload_n 2, 1) := by decide +kernel
theorem dX2_goesOn_88 : decode cX2_goesOn 88 = .ok (.ireturn, 1) := by decide +kernel
theorem dX2_headGoesOn_0 : decode cX2_headGoesOn 0 = .ok (.iload_n 1, 1) := by decide +kernel
theorem dX2_headGoesOn_1 : decode cX2_headGoesOn 1 = .ok (.invokestatic 63, 3) := by decide +kernel
theorem dX2_headGoesOn_4 : decode cX2_headGoesOn 4 = .ok (.istore_n 2, 1) := by decide +kernel
theorem dX2_headGoesOn_5 : decode cX2_headGoesOn 5 = .ok (.aload_n 0, 1) := by decide +kernel
theorem dX2_headGoesOn_6 : decode cX2_headGoesOn 6 = .ok (.getfield 46, 3) := by decide +kernel
theorem dX2_headGoesOn_9 : decode cX2_headGoesOn 9 = .ok (.lookupswitch 54 #[(0, 27), (1, 39)], 27) := by decide +kernel
theorem dX2_headGoesOn_36 : decode cX2_headGoesOn 36 = .ok (.iload_n 1, 1) := by decide +kernel
theorem dX2_headGoesOn_37 : decode cX2_headGoesOn 37 = .ok (.bipush 117, 2) := by decide +kernel
theorem dX2_headGoesOn_39 : decode cX2_headGoesOn 39 = .ok (.if_icmp .ne 7, 3) := by decide +kernel
theorem dX2_headGoesOn_42 : decode cX2_headGoesOn 42 = .ok (.iconst 1, 1) := by decide +kernel
theorem dX2_headGoesOn_43 : decode cX2_headGoesOn 43 = .ok (.goto 4, 3) := by decide +kernel
theorem dX2_headGoesOn_46 : decode cX2_headGoesOn 46 = .ok (.iconst 0, 1) := by decide +kernel
theorem dX2_headGoesOn_47 : decode cX2_headGoesOn 47 = .ok (.ireturn, 1) := by decide +kernel
theorem dX2_headGoesOn_48 : decode cX2_headGoesOn 48 = .ok (.aload_n 0, 1) := by decide +kernel
theorem dX2_headGoesOn_49 : decode cX2_headGoesOn 49 = .ok (.bipush 10, 2) := by decide +kernel
theorem dX2_headGoesOn_51 : decode cX2_headGoesOn 51 = .ok (.iload_n 2, 1) := by decide +kernel
theorem dX2_headGoesOn_52 : decode cX2_headGoesOn 52 = .ok (.imul, 1) := by decide +kernel
theorem dX2_headGoesOn_53 : decode cX2_headGoesOn 53 = .ok (.putfield 33, 3) := by decide +kernel
theorem dX2_headGoesOn_56 : decode cX2_headGoesOn 56 = .ok (.iload_n 2, 1) := by decide +kernel
theorem dX2_headGoesOn_57 : decode cX2_headGoesOn 57 = .ok (.iconst 0, 1) := by decide +kernel
theorem dX2_headGoesOn_58 : decode cX2_headGoesOn 58 = .ok (.iconst 1, 1) := by decide +kernel
theorem dX2_headGoesOn_59 : decode cX2_headGoesOn 59 = .ok (.invokestatic 67, 3) := by decide +kernel
theorem dX2_headGoesOn_62 : decode cX2_headGoesOn 62 = .ok (.ireturn, 1) := by decide +kernel
theorem dX2_headGoesOn_63 : decode cX2_headGoesOn 63 = .ok (.aload_n 0, 1) := by decide +kernel
theorem dX2_headGoesOn_64 : decode cX2_headGoesOn 64 = .ok (.dup, 1) := by decide +kernel
theorem dX2_headGoesOn_65 : decode cX2_headGoesOn 65 = .ok (.getfield 33, 3) := by decide +kernel
theorem dX2_headGoesOn_68 : decode cX2_headGoesOn 68 = .ok (.iload_n 2, 1) := by decide +kernel
theorem dX2_headGoesOn_69 : decode cX2_headGoesOn 69 = .ok (.iadd, 1) := by decide +kernel
theorem dX2_headGoesOn_70 : decode cX2_headGoesOn 70 = .ok (.putfield 33, 3) := by decide +kernel
theorem dX2_headGoesOn_73 : decode cX2_headGoesOn 73 = .ok (.aload_n 0, 1) := by decide +kernel
theorem dX2_headGoesOn_74 : decode cX2_headGoesOn 74 = .ok (.iconst 3, 1) := by decide +kernel
theorem dX2_headGoesOn_75 : decode cX2_headGoesOn 75 = .ok (.putfield 43, 3) := by decide +kernel
theorem dX2_headGoesOn_78 : decode cX2_headGoesOn 78 = .ok (.iload_n 2, 1) := by decide +kernel
theorem dX2_headGoesOn_79 : decode cX2_headGoesOn 79 = .ok (.ifCond .lt 20, 3) := by decide +kernel
theorem dX2_headGoesOn_82 : decode cX2_headGoesOn 82 = .ok (.aload_n 0, 1) := by decide +kernel
theorem dX2_headGoesOn_83 : decode cX2_headGoesOn 83 = .ok (.getfield 33, 3) := by decide +kernel
theorem dX2_headGoesOn_86 : decode cX2_headGoesOn 86 = .ok (.iconst 1, 1) := by decide +kernel
theorem dX2_headGoesOn_87 : decode cX2_headGoesOn 87 = .ok (.bipush 13, 2) := by decide +kernel
theorem dX2_headGoesOn_89 : decode cX2_headGoesOn 89 = .ok (.invokestatic 67, 3) := by decide +kernel
theorem dX2_headGoesOn_92 : decode cX2_headGoesOn 92 = .ok (.ifCond .eq 7, 3) := by decide +kernel
theorem dX2_headGoesOn_95 : decode cX2_headGoesOn 95 = .ok (.iconst 1, 1) := by decide +kernel
theorem dX2_headGoesOn_96 : decode cX2_headGoesOn 96 = .ok (.goto 4, 3) := by decide +kernel
theorem dX2_headGoesOn_99 : decode cX2_headGoesOn 99 = .ok (.iconst 0, 1) := by decide +kernel
theorem dX2_headGoesOn_100 : decode cX2_headGoesOn 100 = .ok (.ireturn, 1) := by decide +kernel
theorem dX2_opens_0 : decode cX2_opens 0 = .ok (.aload_n 0, 1) := by decide +kernel
theorem dX2_opens_1 : decode cX2_opens 1 = .ok (.iconst 0, 1) := by decide +kernel
theorem dX2_opens_2 : decode cX2_opens 2 = .ok (.putfield 46, 3) := by decide +kernel
theorem dX2_opens_5 : decode cX2_opens 5 = .ok (.iload_n 1, 1) := by decide +kernel
theorem dX2_opens_6 : decode cX2_opens 6 = .ok (.bipush 59, 2) := by decide +kernel
theorem dX2_opens_8 : decode cX2_opens 8 = .ok (.if_icmp .ne 35, 3) := by decide +kernel
theorem dX2_opens_11 : decode cX2_opens 11 = .ok (.aload_n 0, 1) := by decide +kernel
theorem dX2_opens_12 : decode cX2_opens 12 = .ok (.getfield 40, 3) := by decide +kernel
theorem dX2_opens_15 : decode cX2_opens 15 = .ok (.ifCond .ne 28, 3) := by decide +kernel
theorem dX2_opens_18 : decode cX2_opens 18 = .ok (.aload_n 0, 1) := by decide +kernel
theorem dX2_opens_19 : decode cX2_opens 19 = .ok (.getfield 37, 3) := by decide +kernel
theorem dX2_opens_22 : decode cX2_opens 22 = .ok (.iconst 4, 1) := by decide +kernel
theorem dX2_opens_23 : decode cX2_opens 23 = .ok (.if_icmp .ge 20, 3) := by decide +kernel
theorem dX2_opens_26 : decode cX2_opens 26 = .ok (.aload_n 0, 1) := by decide +kernel
theorem dX2_opens_27 : decode cX2_opens 27 = .ok (.dup, 1) := by decide +kernel
theorem dX2_opens_28 : decode cX2_opens 28 = .ok (.getfield 37, 3) := by decide +kernel
theorem dX2_opens_31 : decode cX2_opens 31 = .ok (.iconst 1, 1) := by decide +kernel
theorem dX2_opens_32 : decode cX2_opens 32 = .ok (.iadd, 1) := by decide +kernel
theorem dX2_opens_33 : decode cX2_opens 33 = .ok (.putfield 37, 3) := by decide +kernel
theorem dX2_opens_36 : decode cX2_opens 36 = .ok (.aload_n 0, 1) := by decide +kernel
theorem dX2_opens_37 : decode cX2_opens 37 = .ok (.iconst 1, 1) := by decide +kernel
theorem dX2_opens_38 : decode cX2_opens 38 = .ok (.putfield 43, 3) := by decide +kernel
theorem dX2_opens_41 : decode cX2_opens 41 = .ok (.iconst 1, 1) := by decide +kernel
theorem dX2_opens_42 : decode cX2_opens 42 = .ok (.ireturn, 1) := by decide +kernel
theorem dX2_opens_43 : decode cX2_opens 43 = .ok (.iload_n 1, 1) := by decide +kernel
theorem dX2_opens_44 : decode cX2_opens 44 = .ok (.bipush 44, 2) := by decide +kernel
theorem dX2_opens_46 : decode cX2_opens 46 = .ok (.if_icmp .ne 36, 3) := by decide +kernel
theorem dX2_opens_49 : decode cX2_opens 49 = .ok (.aload_n 0, 1) := by decide +kernel
theorem dX2_opens_50 : decode cX2_opens 50 = .ok (.getfield 37, 3) := by decide +kernel
theorem dX2_opens_53 : decode cX2_opens 53 = .ok (.ifCond .le 29, 3) := by decide +kernel
theorem dX2_opens_56 : decode cX2_opens 56 = .ok (.aload_n 0, 1) := by decide +kernel
theorem dX2_opens_57 : decode cX2_opens 57 = .ok (.getfield 40, 3) := by decide +kernel
theorem dX2_opens_60 : decode cX2_opens 60 = .ok (.bipush 6, 2) := by decide +kernel
theorem dX2_opens_62 : decode cX2_opens 62 = .ok (.if_icmp .ge 20, 3) := by decide +kernel
theorem dX2_opens_65 : decode cX2_opens 65 = .ok (.aload_n 0, 1) := by decide +kernel
theorem dX2_opens_66 : decode cX2_opens 66 = .ok (.dup, 1) := by decide +kernel
theorem dX2_opens_67 : decode cX2_opens 67 = .ok (.getfield 40, 3) := by decide +kernel
theorem dX2_opens_70 : decode cX2_opens 70 = .ok (.iconst 1, 1) := by decide +kernel
theorem dX2_opens_71 : decode cX2_opens 71 = .ok (.iadd, 1) := by decide +kernel
theorem dX2_opens_72 : decode cX2_opens 72 = .ok (.putfield 40, 3) := by decide +kernel
theorem dX2_opens_75 : decode cX2_opens 75 = .ok (.aload_n 0, 1) := by decide +kernel
theorem dX2_opens_76 : decode cX2_opens 76 = .ok (.iconst 2, 1) := by decide +kernel
theorem dX2_opens_77 : decode cX2_opens 77 = .ok (.putfield 43, 3) := by decide +kernel
theorem dX2_opens_80 : decode cX2_opens 80 = .ok (.iconst 1, 1) := by decide +kernel
theorem dX2_opens_81 : decode cX2_opens 81 = .ok (.ireturn, 1) := by decide +kernel
theorem dX2_opens_82 : decode cX2_opens 82 = .ok (.iconst 0, 1) := by decide +kernel
theorem dX2_opens_83 : decode cX2_opens 83 = .ok (.ireturn, 1) := by decide +kernel
theorem dX2_houseGoesOn_0 : decode cX2_houseGoesOn 0 = .ok (.iload_n 2, 1) := by decide +kernel
theorem dX2_houseGoesOn_1 : decode cX2_houseGoesOn 1 = .ok (.invokestatic 63, 3) := by decide +kernel
theorem dX2_houseGoesOn_4 : decode cX2_houseGoesOn 4 = .ok (.istore_n 3, 1) := by decide +kernel
theorem dX2_houseGoesOn_5 : decode cX2_houseGoesOn 5 = .ok (.aload_n 0, 1) := by decide +kernel
theorem dX2_houseGoesOn_6 : decode cX2_houseGoesOn 6 = .ok (.getfield 46, 3) := by decide +kernel
theorem dX2_houseGoesOn_9 : decode cX2_houseGoesOn 9 = .ok (.lookupswitch 67 #[(1, 27), (2, 47)], 27) := by decide +kernel
theorem dX2_houseGoesOn_36 : decode cX2_houseGoesOn 36 = .ok (.aload_n 0, 1) := by decide +kernel
theorem dX2_houseGoesOn_37 : decode cX2_houseGoesOn 37 = .ok (.getfield 9, 3) := by decide +kernel
theorem dX2_houseGoesOn_40 : decode cX2_houseGoesOn 40 = .ok (.iload_n 1, 1) := by decide +kernel
theorem dX2_houseGoesOn_41 : decode cX2_houseGoesOn 41 = .ok (.bipush 10, 2) := by decide +kernel
theorem dX2_houseGoesOn_43 : decode cX2_houseGoesOn 43 = .ok (.iload_n 3, 1) := by decide +kernel
theorem dX2_houseGoesOn_44 : decode cX2_houseGoesOn 44 = .ok (.imul, 1) := by decide +kernel
theorem dX2_houseGoesOn_45 : decode cX2_houseGoesOn 45 = .ok (.iastore, 1) := by decide +kernel
theorem dX2_houseGoesOn_46 : decode cX2_houseGoesOn 46 = .ok (.iload_n 3, 1) := by decide +kernel
theorem dX2_houseGoesOn_47 : decode cX2_houseGoesOn 47 = .ok (.ifCond .lt 7, 3) := by decide +kernel
theorem dX2_houseGoesOn_50 : decode cX2_houseGoesOn 50 = .ok (.iconst 1, 1) := by decide +kernel
theorem dX2_houseGoesOn_51 : decode cX2_houseGoesOn 51 = .ok (.goto 4, 3) := by decide +kernel
theorem dX2_houseGoesOn_54 : decode cX2_houseGoesOn 54 = .ok (.iconst 0, 1) := by decide +kernel
theorem dX2_houseGoesOn_55 : decode cX2_houseGoesOn 55 = .ok (.ireturn, 1) := by decide +kernel
theorem dX2_houseGoesOn_56 : decode cX2_houseGoesOn 56 = .ok (.aload_n 0, 1) := by decide +kernel
theorem dX2_houseGoesOn_57 : decode cX2_houseGoesOn 57 = .ok (.getfield 9, 3) := by decide +kernel
theorem dX2_houseGoesOn_60 : decode cX2_houseGoesOn 60 = .ok (.iload_n 1, 1) := by decide +kernel
theorem dX2_houseGoesOn_61 : decode cX2_houseGoesOn 61 = .ok (.dup2, 1) := by decide +kernel
theorem dX2_houseGoesOn_62 : decode cX2_houseGoesOn 62 = .ok (.iaload, 1) := by decide +kernel
theorem dX2_houseGoesOn_63 : decode cX2_houseGoesOn 63 = .ok (.iload_n 3, 1) := by decide +kernel
theorem dX2_houseGoesOn_64 : decode cX2_houseGoesOn 64 = .ok (.iadd, 1) := by decide +kernel
theorem dX2_houseGoesOn_65 : decode cX2_houseGoesOn 65 = .ok (.iastore, 1) := by decide +kernel
theorem dX2_houseGoesOn_66 : decode cX2_houseGoesOn 66 = .ok (.iload_n 3, 1) := by decide +kernel
theorem dX2_houseGoesOn_67 : decode cX2_houseGoesOn 67 = .ok (.ifCond .lt 7, 3) := by decide +kernel
theorem dX2_houseGoesOn_70 : decode cX2_houseGoesOn 70 = .ok (.iconst 1, 1) := by decide +kernel
theorem dX2_houseGoesOn_71 : decode cX2_houseGoesOn 71 = .ok (.goto 4, 3) := by decide +kernel
theorem dX2_houseGoesOn_74 : decode cX2_houseGoesOn 74 = .ok (.iconst 0, 1) := by decide +kernel
theorem dX2_houseGoesOn_75 : decode cX2_houseGoesOn 75 = .ok (.ireturn, 1) := by decide +kernel
theorem dX2_houseGoesOn_76 : decode cX2_houseGoesOn 76 = .ok (.aload_n 0, 1) := by decide +kernel
theorem dX2_houseGoesOn_77 : decode cX2_houseGoesOn 77 = .ok (.getfield 15, 3) := by decide +kernel
theorem dX2_houseGoesOn_80 : decode cX2_houseGoesOn 80 = .ok (.iload_n 1, 1) := by decide +kernel
theorem dX2_houseGoesOn_81 : decode cX2_houseGoesOn 81 = .ok (.iload_n 3, 1) := by decide +kernel
theorem dX2_houseGoesOn_82 : decode cX2_houseGoesOn 82 = .ok (.iastore, 1) := by decide +kernel
theorem dX2_houseGoesOn_83 : decode cX2_houseGoesOn 83 = .ok (.aload_n 0, 1) := by decide +kernel
theorem dX2_houseGoesOn_84 : decode cX2_houseGoesOn 84 = .ok (.iconst 3, 1) := by decide +kernel
theorem dX2_houseGoesOn_85 : decode cX2_houseGoesOn 85 = .ok (.putfield 43, 3) := by decide +kernel
theorem dX2_houseGoesOn_88 : decode cX2_houseGoesOn 88 = .ok (.iload_n 3, 1) := by decide +kernel
theorem dX2_houseGoesOn_89 : decode cX2_houseGoesOn 89 = .ok (.iconst 1, 1) := by decide +kernel
theorem dX2_houseGoesOn_90 : decode cX2_houseGoesOn 90 = .ok (.if_icmp .lt 7, 3) := by decide +kernel
theorem dX2_houseGoesOn_93 : decode cX2_houseGoesOn 93 = .ok (.iconst 1, 1) := by decide +kernel
theorem dX2_houseGoesOn_94 : decode cX2_houseGoesOn 94 = .ok (.goto 4, 3) := by decide +kernel
theorem dX2_houseGoesOn_97 : decode cX2_houseGoesOn 97 = .ok (.iconst 0, 1) := by decide +kernel
theorem dX2_houseGoesOn_98 : decode cX2_houseGoesOn 98 = .ok (.ireturn, 1) := by decide +kernel
theorem dX2_personGoesOn_0 : decode cX2_personGoesOn 0 = .ok (.iload_n 2, 1) := by decide +kernel
theorem dX2_personGoesOn_1 : decode cX2_personGoesOn 1 = .ok (.invokestatic 63, 3) := by decide +kernel
theorem dX2_personGoesOn_4 : decode cX2_personGoesOn 4 = .ok (.istore_n 3, 1) := by decide +kernel
theorem dX2_personGoesOn_5 : decode cX2_personGoesOn 5 = .ok (.aload_n 0, 1) := by decide +kernel
theorem dX2_personGoesOn_6 : decode cX2_personGoesOn 6 = .ok (.getfield 46, 3) := by decide +kernel
theorem dX2_personGoesOn_9 : decode cX2_personGoesOn 9 = .ok (.tableswitch 105 1 4 #[31, 58, 72, 91], 31) := by decide +kernel
theorem dX2_personGoesOn_40 : decode cX2_personGoesOn 40 = .ok (.aload_n 0, 1) := by decide +kernel
theorem dX2_personGoesOn_41 : decode cX2_personGoesOn 41 = .ok (.getfield 18, 3) := by decide +kernel
theorem dX2_personGoesOn_44 : decode cX2_personGoesOn 44 = .ok (.iload_n 1, 1) := by decide +kernel
theorem dX2_personGoesOn_45 : decode cX2_personGoesOn 45 = .ok (.iload_n 2, 1) := by decide +kernel
theorem dX2_personGoesOn_46 : decode cX2_personGoesOn 46 = .ok (.invokestatic 71, 3) := by decide +kernel
theorem dX2_personGoesOn_49 : decode cX2_personGoesOn 49 = .ok (.iastore, 1) := by decide +kernel
theorem dX2_personGoesOn_50 : decode cX2_personGoesOn 50 = .ok (.aload_n 0, 1) := by decide +kernel
theorem dX2_personGoesOn_51 : decode cX2_personGoesOn 51 = .ok (.getfield 18, 3) := by decide +kernel
theorem dX2_personGoesOn_54 : decode cX2_personGoesOn 54 = .ok (.iload_n 1, 1) := by decide +kernel
theorem dX2_personGoesOn_55 : decode cX2_personGoesOn 55 = .ok (.iaload, 1) := by decide +kernel
theorem dX2_personGoesOn_56 : decode cX2_personGoesOn 56 = .ok (.bipush (-9), 2) := by decide +kernel
theorem dX2_personGoesOn_58 : decode cX2_personGoesOn 58 = .ok (.if_icmp .eq 7, 3) := by decide +kernel
theorem dX2_personGoesOn_61 : decode cX2_personGoesOn 61 = .ok (.iconst 1, 1) := by decide +kernel
theorem dX2_personGoesOn_62 : decode cX2_personGoesOn 62 = .ok (.goto 4, 3) := by decide +kernel
theorem dX2_personGoesOn_65 : decode cX2_personGoesOn 65 = .ok (.iconst 0, 1) := by decide +kernel
theorem dX2_personGoesOn_66 : decode cX2_personGoesOn 66 = .ok (.ireturn, 1) := by decide +kernel
theorem dX2_personGoesOn_67 : decode cX2_personGoesOn 67 = .ok (.aload_n 0, 1) := by decide +kernel
theorem dX2_personGoesOn_68 : decode cX2_personGoesOn 68 = .ok (.getfield 21, 3) := by decide +kernel
theorem dX2_personGoesOn_71 : decode cX2_personGoesOn 71 = .ok (.iload_n 1, 1) := by decide +kernel
theorem dX2_personGoesOn_72 : decode cX2_personGoesOn 72 = .ok (.iload_n 3, 1) := by decide +kernel
theorem dX2_personGoesOn_73 : decode cX2_personGoesOn 73 = .ok (.iastore, 1) := by decide +kernel
theorem dX2_personGoesOn_74 : decode cX2_personGoesOn 74 = .ok (.iload_n 3, 1) := by decide +kernel
theorem dX2_personGoesOn_75 : decode cX2_personGoesOn 75 = .ok (.iconst 0, 1) := by decide +kernel
theorem dX2_personGoesOn_76 : decode cX2_personGoesOn 76 = .ok (.iconst 1, 1) := by decide +kernel
theorem dX2_personGoesOn_77 : decode cX2_personGoesOn 77 = .ok (.invokestatic 67, 3) := by decide +kernel
theorem dX2_personGoesOn_80 : decode cX2_personGoesOn 80 = .ok (.ireturn, 1) := by decide +kernel
theorem dX2_personGoesOn_81 : decode cX2_personGoesOn 81 = .ok (.aload_n 0, 1) := by decide +kernel
theorem dX2_personGoesOn_82 : decode cX2_personGoesOn 82 = .ok (.getfield 24, 3) := by decide +kernel
theorem dX2_personGoesOn_85 : decode cX2_personGoesOn 85 = .ok (.iload_n 1, 1) := by decide +kernel
theorem dX2_personGoesOn_86 : decode cX2_personGoesOn 86 = .ok (.iload_n 3, 1) := by decide +kernel
theorem dX2_personGoesOn_87 : decode cX2_personGoesOn 87 = .ok (.iastore, 1) := by decide +kernel
theorem dX2_personGoesOn_88 : decode cX2_personGoesOn 88 = .ok (.iload_n 3, 1) := by decide +kernel
theorem dX2_personGoesOn_89 : decode cX2_personGoesOn 89 = .ok (.iconst 0, 1) := by decide +kernel
theorem dX2_personGoesOn_90 : decode cX2_personGoesOn 90 = .ok (.aload_n 0, 1) := by decide +kernel
theorem dX2_personGoesOn_91 : decode cX2_personGoesOn 91 = .ok (.getfield 37, 3) := by decide +kernel
theorem dX2_personGoesOn_94 : decode cX2_personGoesOn 94 = .ok (.iconst 1, 1) := by decide +kernel
theorem dX2_personGoesOn_95 : decode cX2_personGoesOn 95 = .ok (.isub, 1) := by decide +kernel
theorem dX2_personGoesOn_96 : decode cX2_personGoesOn 96 = .ok (.invokestatic 67, 3) := by decide +kernel
theorem dX2_personGoesOn_99 : decode cX2_personGoesOn 99 = .ok (.ireturn, 1) := by decide +kernel
theorem dX2_personGoesOn_100 : decode cX2_personGoesOn 100 = .ok (.aload_n 0, 1) := by decide +kernel
theorem dX2_personGoesOn_101 : decode cX2_personGoesOn 101 = .ok (.getfield 27, 3) := by decide +kernel
theorem dX2_personGoesOn_104 : decode cX2_personGoesOn 104 = .ok (.iload_n 1, 1) := by decide +kernel
theorem dX2_personGoesOn_105 : decode cX2_personGoesOn 105 = .ok (.iload_n 3, 1) := by decide +kernel
theorem dX2_personGoesOn_106 : decode cX2_personGoesOn 106 = .ok (.iastore, 1) := by decide +kernel
theorem dX2_personGoesOn_107 : decode cX2_personGoesOn 107 = .ok (.iload_n 3, 1) := by decide +kernel
theorem dX2_personGoesOn_108 : decode cX2_personGoesOn 108 = .ok (.iconst 0, 1) := by decide +kernel
theorem dX2_personGoesOn_109 : decode cX2_personGoesOn 109 = .ok (.iconst 5, 1) := by decide +kernel
theorem dX2_personGoesOn_110 : decode cX2_personGoesOn 110 = .ok (.invokestatic 67, 3) := by decide +kernel
theorem dX2_personGoesOn_113 : decode cX2_personGoesOn 113 = .ok (.ireturn, 1) := by decide +kernel
theorem dX2_personGoesOn_114 : decode cX2_personGoesOn 114 = .ok (.aload_n 0, 1) := by decide +kernel
theorem dX2_personGoesOn_115 : decode cX2_personGoesOn 115 = .ok (.getfield 30, 3) := by decide +kernel
theorem dX2_personGoesOn_118 : decode cX2_personGoesOn 118 = .ok (.iload_n 1, 1) := by decide +kernel
theorem dX2_personGoesOn_119 : decode cX2_personGoesOn 119 = .ok (.iload_n 3, 1) := by decide +kernel
theorem dX2_personGoesOn_120 : decode cX2_personGoesOn 120 = .ok (.iastore, 1) := by decide +kernel
theorem dX2_personGoesOn_121 : decode cX2_personGoesOn 121 = .ok (.aload_n 0, 1) := by decide +kernel
theorem dX2_personGoesOn_122 : decode cX2_personGoesOn 122 = .ok (.iconst 3, 1) := by decide +kernel
theorem dX2_personGoesOn_123 : decode cX2_personGoesOn 123 = .ok (.putfield 43, 3) := by decide +kernel
theorem dX2_personGoesOn_126 : decode cX2_personGoesOn 126 = .ok (.iload_n 3, 1) := by decide +kernel
theorem dX2_personGoesOn_127 : decode cX2_personGoesOn 127 = .ok (.ifCond .lt 7, 3) := by decide +kernel
theorem dX2_personGoesOn_130 : decode cX2_personGoesOn 130 = .ok (.iconst 1, 1) := by decide +kernel
theorem dX2_personGoesOn_131 : decode cX2_personGoesOn 131 = .ok (.goto 4, 3) := by decide +kernel
theorem dX2_personGoesOn_134 : decode cX2_personGoesOn 134 = .ok (.iconst 0, 1) := by decide +kernel
theorem dX2_personGoesOn_135 : decode cX2_personGoesOn 135 = .ok (.ireturn, 1) := by decide +kernel
theorem dX2_isIn_0 : decode cX2_isIn 0 = .ok (.iload_n 0, 1) := by decide +kernel
theorem dX2_isIn_1 : decode cX2_isIn 1 = .ok (.iload_n 1, 1) := by decide +kernel
theorem dX2_isIn_2 : decode cX2_isIn 2 = .ok (.if_icmp .lt 12, 3) := by decide +kernel
theorem dX2_isIn_5 : decode cX2_isIn 5 = .ok (.iload_n 0, 1) := by decide +kernel
theorem dX2_isIn_6 : decode cX2_isIn 6 = .ok (.iload_n 2, 1) := by decide +kernel
theorem dX2_isIn_7 : decode cX2_isIn 7 = .ok (.if_icmp .gt 7, 3) := by decide +kernel
theorem dX2_isIn_10 : decode cX2_isIn 10 = .ok (.iconst 1, 1) := by decide +kernel
theorem dX2_isIn_11 : decode cX2_isIn 11 = .ok (.goto 4, 3) := by decide +kernel
theorem dX2_isIn_14 : decode cX2_isIn 14 = .ok (.iconst 0, 1) := by decide +kernel
theorem dX2_isIn_15 : decode cX2_isIn 15 = .ok (.ireturn, 1) := by decide +kernel
theorem dX2_digitOf_0 : decode cX2_digitOf 0 = .ok (.iload_n 0, 1) := by decide +kernel
theorem dX2_digitOf_1 : decode cX2_digitOf 1 = .ok (.bipush 48, 2) := by decide +kernel
theorem dX2_digitOf_3 : decode cX2_digitOf 3 = .ok (.bipush 57, 2) := by decide +kernel
theorem dX2_digitOf_5 : decode cX2_digitOf 5 = .ok (.invokestatic 67, 3) := by decide +kernel
theorem dX2_digitOf_8 : decode cX2_digitOf 8 = .ok (.ifCond .eq 10, 3) := by decide +kernel
theorem dX2_digitOf_11 : decode cX2_digitOf 11 = .ok (.iload_n 0, 1) := by decide +kernel
theorem dX2_digitOf_12 : decode cX2_digitOf 12 = .ok (.bipush 48, 2) := by decide +kernel
theorem dX2_digitOf_14 : decode cX2_digitOf 14 = .ok (.isub, 1) := by decide +kernel
theorem dX2_digitOf_15 : decode cX2_digitOf 15 = .ok (.goto 5, 3) := by decide +kernel
theorem dX2_digitOf_18 : decode cX2_digitOf 18 = .ok (.bipush (-9), 2) := by decide +kernel
theorem dX2_digitOf_20 : decode cX2_digitOf 20 = .ok (.ireturn, 1) := by decide +kernel
theorem dX2_kindOf_0 : decode cX2_kindOf 0 = .ok (.iload_n 0, 1) := by decide +kernel
theorem dX2_kindOf_1 : decode cX2_kindOf 1 = .ok (.tableswitch 41 100 104 #[35, 41, 39, 41, 37], 35) := by decide +kernel
theorem dX2_kindOf_36 : decode cX2_kindOf 36 = .ok (.iconst 0, 1) := by decide +kernel
theorem dX2_kindOf_37 : decode cX2_kindOf 37 = .ok (.ireturn, 1) := by decide +kernel
theorem dX2_kindOf_38 : decode cX2_kindOf 38 = .ok (.iconst 1, 1) := by decide +kernel
theorem dX2_kindOf_39 : decode cX2_kindOf 39 = .ok (.ireturn, 1) := by decide +kernel
theorem dX2_kindOf_40 : decode cX2_kindOf 40 = .ok (.iconst 2, 1) := by decide +kernel
theorem dX2_kindOf_41 : decode cX2_kindOf 41 = .ok (.ireturn, 1) := by decide +kernel
theorem dX2_kindOf_42 : decode cX2_kindOf 42 = .ok (.bipush (-9), 2) := by decide +kernel
theorem dX2_kindOf_44 : decode cX2_kindOf 44 = .ok (.ireturn, 1) := by decide +kernel
theorem dX2_breaksBy_0 : decode cX2_breaksBy 0 = .ok (.iload_n 2, 1) := by decide +kernel
theorem dX2_breaksBy_1 : decode cX2_breaksBy 1 = .ok (.bipush 10, 2) := by decide +kernel
theorem dX2_breaksBy_3 : decode cX2_breaksBy 3 = .ok (.aload_n 0, 1) := by decide +kernel
theorem dX2_breaksBy_4 : decode cX2_breaksBy 4 = .ok (.getfield 15, 3) := by decide +kernel
theorem dX2_breaksBy_7 : decode cX2_breaksBy 7 = .ok (.iload_n 1, 1) := by decide +kernel
theorem dX2_breaksBy_8 : decode cX2_breaksBy 8 = .ok (.iaload, 1) := by decide +kernel
theorem dX2_breaksBy_9 : decode cX2_breaksBy 9 = .ok (.imul, 1) := by decide +kernel
theorem dX2_breaksBy_10 : decode cX2_breaksBy 10 = .ok (.if_icmp .lt 7, 3) := by decide +kernel
theorem dX2_breaksBy_13 : decode cX2_breaksBy 13 = .ok (.iconst 1, 1) := by decide +kernel
theorem dX2_breaksBy_14 : decode cX2_breaksBy 14 = .ok (.goto 4, 3) := by decide +kernel
theorem dX2_breaksBy_17 : decode cX2_breaksBy 17 = .ok (.iconst 0, 1) := by decide +kernel
theorem dX2_breaksBy_18 : decode cX2_breaksBy 18 = .ok (.ireturn, 1) := by decide +kernel
theorem dX2_dwellersOf_0 : decode cX2_dwellersOf 0 = .ok (.iconst 0, 1) := by decide +kernel
theorem dX2_dwellersOf_1 : decode cX2_dwellersOf 1 = .ok (.istore_n 2, 1) := by decide +kernel
theorem dX2_dwellersOf_2 : decode cX2_dwellersOf 2 = .ok (.iconst 0, 1) := by decide +kernel
theorem dX2_dwellersOf_3 : decode cX2_dwellersOf 3 = .ok (.istore_n 3, 1) := by decide +kernel
theorem dX2_dwellersOf_4 : decode cX2_dwellersOf 4 = .ok (.iload_n 3, 1) := by decide +kernel
theorem dX2_dwellersOf_5 : decode cX2_dwellersOf 5 = .ok (.aload_n 0, 1) := by decide +kernel
theorem dX2_dwellersOf_6 : decode cX2_dwellersOf 6 = .ok (.getfield 40, 3) := by decide +kernel
theorem dX2_dwellersOf_9 : decode cX2_dwellersOf 9 = .ok (.if_icmp .ge 29, 3) := by decide +kernel
theorem dX2_dwellersOf_12 : decode cX2_dwellersOf 12 = .ok (.iload_n 2, 1) := by decide +kernel
theorem dX2_dwellersOf_13 : decode cX2_dwellersOf 13 = .ok (.aload_n 0, 1) := by decide +kernel
theorem dX2_dwellersOf_14 : decode cX2_dwellersOf 14 = .ok (.getfield 24, 3) := by decide +kernel
theorem dX2_dwellersOf_17 : decode cX2_dwellersOf 17 = .ok (.iload_n 3, 1) := by decide +kernel
theorem dX2_dwellersOf_18 : decode cX2_dwellersOf 18 = .ok (.iaload, 1) := by decide +kernel
theorem dX2_dwellersOf_19 : decode cX2_dwellersOf 19 = .ok (.iload_n 1, 1) := by decide +kernel
theorem dX2_dwellersOf_20 : decode cX2_dwellersOf 20 = .ok (.if_icmp .ne 9, 3) := by decide +kernel
theorem dX2_dwellersOf_23 : decode cX2_dwellersOf 23 = .ok (.iconst 1, 1) := by decide +kernel
theorem dX2_dwellersOf_24 : decode cX2_dwellersOf 24 = .ok (.iload_n 3, 1) := by decide +kernel
theorem dX2_dwellersOf_25 : decode cX2_dwellersOf 25 = .ok (.ishl, 1) := by decide +kernel
theorem dX2_dwellersOf_26 : decode cX2_dwellersOf 26 = .ok (.goto 4, 3) := by decide +kernel
theorem dX2_dwellersOf_29 : decode cX2_dwellersOf 29 = .ok (.iconst 0, 1) := by decide +kernel
theorem dX2_dwellersOf_30 : decode cX2_dwellersOf 30 = .ok (.ior, 1) := by decide +kernel
theorem dX2_dwellersOf_31 : decode cX2_dwellersOf 31 = .ok (.istore_n 2, 1) := by decide +kernel
theorem dX2_dwellersOf_32 : decode cX2_dwellersOf 32 = .ok (.iinc 3 1, 3) := by decide +kernel
theorem dX2_dwellersOf_35 : decode cX2_dwellersOf 35 = .ok (.goto (-31), 3) := by decide +kernel
theorem dX2_dwellersOf_38 : decode cX2_dwellersOf 38 = .ok (.iload_n 2, 1) := by decide +kernel
theorem dX2_dwellersOf_39 : decode cX2_dwellersOf 39 = .ok (.ireturn, 1) := by decide +kernel
theorem dX2_townIn_0 : decode cX2_townIn 0 = .ok (.iload_n 1, 1) := by decide +kernel
theorem dX2_townIn_1 : decode cX2_townIn 1 = .ok (.iload_n 2, 1) := by decide +kernel
theorem dX2_townIn_2 : decode cX2_townIn 2 = .ok (.if_icmp .ge 7, 3) := by decide +kernel
theorem dX2_townIn_5 : decode cX2_townIn 5 = .ok (.iconst 0, 1) := by decide +kernel
theorem dX2_townIn_6 : decode cX2_townIn 6 = .ok (.goto 4, 3) := by decide +kernel
theorem dX2_townIn_9 : decode cX2_townIn 9 = .ok (.iconst 1, 1) := by decide +kernel
theorem dX2_townIn_10 : decode cX2_townIn 10 = .ok (.istore_n 3, 1) := by decide +kernel
theorem dX2_townIn_11 : decode cX2_townIn 11 = .ok (.iconst 0, 1) := by decide +kernel
theorem dX2_townIn_12 : decode cX2_townIn 12 = .ok (.istore 4, 2) := by decide +kernel
theorem dX2_townIn_14 : decode cX2_townIn 14 = .ok (.iconst 0, 1) := by decide +kernel
theorem dX2_townIn_15 : decode cX2_townIn 15 = .ok (.istore 5, 2) := by decide +kernel
theorem dX2_townIn_17 : decode cX2_townIn 17 = .ok (.iload 5, 2) := by decide +kernel
theorem dX2_townIn_19 : decode cX2_townIn 19 = .ok (.aload_n 0, 1) := by decide +kernel
theorem dX2_townIn_20 : decode cX2_townIn 20 = .ok (.getfield 40, 3) := by decide +kernel
theorem dX2_townIn_23 : decode cX2_townIn 23 = .ok (.if_icmp .ge 33, 3) := by decide +kernel
theorem dX2_townIn_26 : decode cX2_townIn 26 = .ok (.iload 4, 2) := by decide +kernel
theorem dX2_townIn_28 : decode cX2_townIn 28 = .ok (.aload_n 0, 1) := by decide +kernel
theorem dX2_townIn_29 : decode cX2_townIn 29 = .ok (.getfield 21, 3) := by decide +kernel
theorem dX2_townIn_32 : decode cX2_townIn 32 = .ok (.iload 5, 2) := by decide +kernel
theorem dX2_townIn_34 : decode cX2_townIn 34 = .ok (.iaload, 1) := by decide +kernel
theorem dX2_townIn_35 : decode cX2_townIn 35 = .ok (.iload_n 3, 1) := by decide +kernel
theorem dX2_townIn_36 : decode cX2_townIn 36 = .ok (.if_icmp .ne 10, 3) := by decide +kernel
theorem dX2_townIn_39 : decode cX2_townIn 39 = .ok (.iconst 1, 1) := by decide +kernel
theorem dX2_townIn_40 : decode cX2_townIn 40 = .ok (.iload 5, 2) := by decide +kernel
theorem dX2_townIn_42 : decode cX2_townIn 42 = .ok (.ishl, 1) := by decide +kernel
theorem dX2_townIn_43 : decode cX2_townIn 43 = .ok (.goto 4, 3) := by decide +kernel
theorem dX2_townIn_46 : decode cX2_townIn 46 = .ok (.iconst 0, 1) := by decide +kernel
theorem dX2_townIn_47 : decode cX2_townIn 47 = .ok (.ior, 1) := by decide +kernel
theorem dX2_townIn_48 : decode cX2_townIn 48 = .ok (.istore 4, 2) := by decide +kernel
theorem dX2_townIn_50 : decode cX2_townIn 50 = .ok (.iinc 5 1, 3) := by decide +kernel
theorem dX2_townIn_53 : decode cX2_townIn 53 = .ok (.goto (-36), 3) := by decide +kernel
theorem dX2_townIn_56 : decode cX2_townIn 56 = .ok (.iload 4, 2) := by decide +kernel
theorem dX2_townIn_58 : decode cX2_townIn 58 = .ok (.ireturn, 1) := by decide +kernel
theorem dX3_init_0 : decode cX3_init 0 = .ok (.aload_n 0, 1) := by decide +kernel
theorem dX3_init_1 : decode cX3_init 1 = .ok (.invokespecial 3, 3) := by decide +kernel
theorem dX3_init_4 : decode cX3_init 4 = .ok (.aload_n 0, 1) := by decide +kernel
theorem dX3_init_5 : decode cX3_init 5 = .ok (.sipush 560, 3) := by decide +kernel
theorem dX3_init_8 : decode cX3_init 8 = .ok (.newarray .int, 2) := by decide +kernel
theorem dX3_init_10 : decode cX3_init 10 = .ok (.putfield 9, 3) := by decide +kernel
theorem dX3_init_13 : decode cX3_init 13 = .ok (.aload_n 0, 1) := by decide +kernel
theorem dX3_init_14 : decode cX3_init 14 = .ok (.sipush 560, 3) := by decide +kernel
theorem dX3_init_17 : decode cX3_init 17 = .ok (.newarray .int, 2) := by decide +kernel
theorem dX3_init_19 : decode cX3_init 19 = .ok (.putfield 15, 3) := by decide +kernel
theorem dX3_init_22 : decode cX3_init 22 = .ok (.aload_n 0, 1) := by decide +kernel
theorem dX3_init_23 : decode cX3_init 23 = .ok (.sipush 140, 3) := by decide +kernel
theorem dX3_init_26 : decode cX3_init 26 = .ok (.newarray .int, 2) := by decide +kernel
theorem dX3_init_28 : decode cX3_init 28 = .ok (.putfield 18, 3) := by decide +kernel
theorem dX3_init_31 : decode cX3_init 31 = .ok (.aload_n 0, 1) := by decide +kernel
theorem dX3_init_32 : decode cX3_init 32 = .ok (.iconst 4, 1) := by decide +kernel
theorem dX3_init_33 : decode cX3_init 33 = .ok (.newarray .int, 2) := by decide +kernel
theorem dX3_init_35 : decode cX3_init 35 = .ok (.putfield 21, 3) := by decide +kernel
theorem dX3_init_38 : decode cX3_init 38 = .ok (.aload_n 0, 1) := by decide +kernel
theorem dX3_init_39 : decode cX3_init 39 = .ok (.iconst 4, 1) := by decide +kernel
theorem dX3_init_40 : decode cX3_init 40 = .ok (.newarray .int, 2) := by decide +kernel
theorem dX3_init_42 : decode cX3_init 42 = .ok (.putfield 24, 3) := by decide +kernel
theorem dX3_init_45 : decode cX3_init 45 = .ok (.aload_n 0, 1) := by decide +kernel
theorem dX3_init_46 : decode cX3_init 46 = .ok (.bipush 6, 2) := by decide +kernel
theorem dX3_init_48 : decode cX3_init 48 = .ok (.newarray .int, 2) := by decide +kernel
theorem dX3_init_50 : decode cX3_init 50 = .ok (.putfield 27, 3) := by decide +kernel
theorem dX3_init_53 : decode cX3_init 53 = .ok (.aload_n 0, 1) := by decide +kernel
theorem dX3_init_54 : decode cX3_init 54 = .ok (.iconst 0, 1) := by decide +kernel
theorem dX3_init_55 : decode cX3_init 55 = .ok (.putfield 30, 3) := by decide +kernel
theorem dX3_init_58 : decode cX3_init 58 = .ok (.aload_n 0, 1) := by decide +kernel
theorem dX3_init_59 : decode cX3_init 59 = .ok (.iconst 0, 1) := by decide +kernel
theorem dX3_init_60 : decode cX3_init 60 = .ok (.putfield 34, 3) := by decide +kernel
theorem dX3_init_63 : decode cX3_init 63 = .ok (.aload_n 0, 1) := by decide +kernel
theorem dX3_init_64 : decode cX3_init 64 = .ok (.bipush (-9), 2) := by decide +kernel
theorem dX3_init_66 : decode cX3_init 66 = .ok (.putfield 37, 3) := by decide +kernel
theorem dX3_init_69 : decode cX3_init 69 = .ok (.aload_n 0, 1) := by decide +kernel
theorem dX3_init_70 : decode cX3_init 70 = .ok (.iconst 0, 1) := by decide +kernel
theorem dX3_init_71 : decode cX3_init 71 = .ok (.putfield 40, 3) := by decide +kernel
theorem dX3_init_74 : decode cX3_init 74 = .ok (.aload_n 0, 1) := by decide +kernel
theorem dX3_init_75 : decode cX3_init 75 = .ok (.aload_n 1, 1) := by decide +kernel
theorem dX3_init_76 : decode cX3_init 76 = .ok (.putfield 43, 3) := by decide +kernel
theorem dX3_init_79 : decode cX3_init 79 = .ok (.aload_n 0, 1) := by decide +kernel
theorem dX3_init_80 : decode cX3_init 80 = .ok (.aload_n 2, 1) := by decide +kernel
theorem dX3_init_81 : decode cX3_init 81 = .ok (.putfield 47, 3) := by decide +kernel
theorem dX3_init_84 : decode cX3_init 84 = .ok (.return_, 1) := by decide +kernel
theorem dX3_prepare_0 : decode cX3_prepare 0 = .ok (.aload_n 0, 1) := by decide +kernel
theorem dX3_prepare_1 : decode cX3_prepare 1 = .ok (.aload_n 1, 1) := by decide +kernel
theorem dX3_prepare_2 : decode cX3_prepare 2 = .ok (.putfield 43, 3) := by decide +kernel
theorem dX3_prepare_5 : decode cX3_prepare 5 = .ok (.aload_n 0, 1) := by decide +kernel
theorem dX3_prepare_6 : decode cX3_prepare 6 = .ok (.iload_n 2, 1) := by decide +kernel
theorem dX3_prepare_7 : decode cX3_prepare 7 = .ok (.putfield 30, 3) := by decide +kernel
theorem dX3_prepare_10 : decode cX3_prepare 10 = .ok (.aload_n 0, 1) := by decide +kernel
theorem dX3_prepare_11 : decode cX3_prepare 11 = .ok (.aload_n 0, 1) := by decide +kernel
theorem dX3_prepare_12 : decode cX3_prepare 12 = .ok (.getfield 43, 3) := by decide +kernel
theorem dX3_prepare_15 : decode cX3_prepare 15 = .ok (.getfield 51, 3) := by decide +kernel
theorem dX3_prepare_18 : decode cX3_prepare 18 = .ok (.putfield 34, 3) := by decide +kernel
theorem dX3_prepare_21 : decode cX3_prepare 21 = .ok (.aload_n 0, 1) := by decide +kernel
theorem dX3_prepare_22 : decode cX3_prepare 22 = .ok (.bipush (-9), 2) := by decide +kernel
theorem dX3_prepare_24 : decode cX3_prepare 24 = .ok (.putfield 37, 3) := by decide +kernel
theorem dX3_prepare_27 : decode cX3_prepare 27 = .ok (.aload_n 0, 1) := by decide +kernel
theorem dX3_prepare_28 : decode cX3_prepare 28 = .ok (.iconst 0, 1) := by decide +kernel
theorem dX3_prepare_29 : decode cX3_prepare 29 = .ok (.putfield 40, 3) := by decide +kernel
theorem dX3_prepare_32 : decode cX3_prepare 32 = .ok (.iconst 0, 1) := by decide +kernel
theorem dX3_prepare_33 : decode cX3_prepare 33 = .ok (.istore_n 3, 1) := by decide +kernel
theorem dX3_prepare_34 : decode cX3_prepare 34 = .ok (.iload_n 3, 1) := by decide +kernel
theorem dX3_prepare_35 : decode cX3_prepare 35 = .ok (.aload_n 0, 1) := by decide +kernel
theorem dX3_prepare_36 : decode cX3_prepare 36 = .ok (.getfield 43, 3) := by decide +kernel
theorem dX3_prepare_39 : decode cX3_prepare 39 = .ok (.getfield 54, 3) := by decide +kernel
theorem dX3_prepare_42 : decode cX3_prepare 42 = .ok (.if_icmp .ge 36, 3) := by decide +kernel
theorem dX3_prepare_45 : decode cX3_prepare 45 = .ok (.aload_n 0, 1) := by decide +kernel
theorem dX3_prepare_46 : decode cX3_prepare 46 = .ok (.getfield 27, 3) := by decide +kernel
theorem dX3_prepare_49 : decode cX3_prepare 49 = .ok (.iload_n 3, 1) := by decide +kernel
theorem dX3_prepare_50 : decode cX3_prepare 50 = .ok (.aload_n 0, 1) := by decide +kernel
theorem dX3_prepare_51 : decode cX3_prepare 51 = .ok (.getfield 43, 3) := by decide +kernel
theorem dX3_prepare_54 : decode cX3_prepare 54 = .ok (.getfield 57, 3) := by decide +kernel
theorem dX3_prepare_57 : decode cX3_prepare 57 = .ok (.iload_n 3, 1) := by decide +kernel
theorem dX3_prepare_58 : decode cX3_prepare 58 = .ok (.iaload, 1) := by decide +kernel
theorem dX3_prepare_59 : decode cX3_prepare 59 = .ok (.aload_n 0, 1) := by decide +kernel
theorem dX3_prepare_60 : decode cX3_prepare 60 = .ok (.getfield 43, 3) := by decide +kernel
theorem dX3_prepare_63 : decode cX3_prepare 63 = .ok (.getfield 60, 3) := by decide +kernel
theorem dX3_prepare_66 : decode cX3_prepare 66 = .ok (.iload_n 3, 1) := by decide +kernel
theorem dX3_prepare_67 : decode cX3_prepare 67 = .ok (.iaload, 1) := by decide +kernel
theorem dX3_prepare_68 : decode cX3_prepare 68 = .ok (.invokestatic 63, 3) := by decide +kernel
theorem dX3_prepare_71 : decode cX3_prepare 71 = .ok (.iastore, 1) := by decide +kernel
theorem dX3_prepare_72 : decode cX3_prepare 72 = .ok (.iinc 3 1, 3) := by decide +kernel
theorem dX3_prepare_75 : decode cX3_prepare 75 = .ok (.goto (-41), 3) := by decide +kernel
theorem dX3_prepare_78 : decode cX3_prepare 78 = .ok (.return_, 1) := by decide +kernel
theorem dX3_live_0 : decode cX3_live 0 = .ok (.aload_n 0, 1) := by decide +kernel
theorem dX3_live_1 : decode cX3_live 1 = .ok (.getfield 21, 3) := by decide +kernel
theorem dX3_live_4 : decode cX3_live 4 = .ok (.iconst 0, 1) := by decide +kernel
theorem dX3_live_5 : decode cX3_live 5 = .ok (.invokestatic 67, 3) := by decide +kernel
theorem dX3_live_8 : decode cX3_live 8 = .ok (.aload_n 0, 1) := by decide +kernel
theorem dX3_live_9 : decode cX3_live 9 = .ok (.getfield 24, 3) := by decide +kernel
theorem dX3_live_12 : decode cX3_live 12 = .ok (.iconst 0, 1) := by decide +kernel
theorem dX3_live_13 : decode cX3_live 13 = .ok (.invokestatic 67, 3) := by decide +kernel
theorem dX3_live_16 : decode cX3_live 16 = .ok (.aload_n 0, 1) := by decide +kernel
theorem dX3_live_17 : decode cX3_live 17 = .ok (.getfield 43, 3) := by decide +kernel
theorem dX3_live_20 : decode cX3_live 20 = .ok (.iconst 0, 1) := by decide +kernel
theorem dX3_live_21 : decode cX3_live 21 = .ok (.aload_n 0, 1) := by decide +kernel
theorem dX3_live_22 : decode cX3_live 22 = .ok (.getfield 34, 3) := by decide +kernel
theorem dX3_live_25 : decode cX3_live 25 = .ok (.invokevirtual 73, 3) := by decide +kernel
theorem dX3_live_28 : decode cX3_live 28 = .ok (.aload_n 0, 1) := by decide +kernel
theorem dX3_live_29 : decode cX3_live 29 = .ok (.getfield 30, 3) := by decide +kernel
theorem dX3_live_32 : decode cX3_live 32 = .ok (.iconst (-1), 1) := by decide +kernel
theorem dX3_live_33 : decode cX3_live 33 = .ok (.ixor, 1) := by decide +kernel
theorem dX3_live_34 : decode cX3_live 34 = .ok (.iand, 1) := by decide +kernel
theorem dX3_live_35 : decode cX3_live 35 = .ok (.istore_n 3, 1) := by decide +kernel
theorem dX3_live_36 : decode cX3_live 36 = .ok (.aload_n 0, 1) := by decide +kernel
theorem dX3_live_37 : decode cX3_live 37 = .ok (.getfield 43, 3) := by decide +kernel
theorem dX3_live_40 : decode cX3_live 40 = .ok (.aload_n 0, 1) := by decide +kernel
theorem dX3_live_41 : decode cX3_live 41 = .ok (.getfield 34, 3) := by decide +kernel
theorem dX3_live_44 : decode cX3_live 44 = .ok (.aload_n 0, 1) := by decide +kernel
theorem dX3_live_45 : decode cX3_live 45 = .ok (.getfield 34, 3) := by decide +kernel
theorem dX3_live_48 : decode cX3_live 48 = .ok (.invokevirtual 73, 3) := by decide +kernel
theorem dX3_live_51 : decode cX3_live 51 = .ok (.aload_n 0, 1) := by decide +kernel
theorem dX3_live_52 : decode cX3_live 52 = .ok (.getfield 30, 3) := by decide +kernel
theorem dX3_live_55 : decode cX3_live 55 = .ok (.iconst (-1), 1) := by decide +kernel
theorem dX3_live_56 : decode cX3_live 56 = .ok (.ixor, 1) := by decide +kernel
theorem dX3_live_57 : decode cX3_live 57 = .ok (.iand, 1) := by decide +kernel
theorem dX3_live_58 : decode cX3_live 58 = .ok (.istore 4, 2) := by decide +kernel
theorem dX3_live_60 : decode cX3_live 60 = .ok (.iconst 0, 1) := by decide +kernel
theorem dX3_live_61 : decode cX3_live 61 = .ok (.istore 5, 2) := by decide +kernel
theorem dX3_live_63 : decode cX3_live 63 = .ok (.iload 5, 2) := by decide +kernel
theorem dX3_live_65 : decode cX3_live 65 = .ok (.iload_n 1, 1) := by decide +kernel
theorem dX3_live_66 : decode cX3_live 66 = .ok (.bipush 14, 2) := by decide +kernel
theorem dX3_live_68 : decode cX3_live 68 = .ok (.imul, 1) := by decide +kernel
theorem dX3_live_69 : decode cX3_live 69 = .ok (.if_icmp .ge 109, 3) := by decide +kernel
theorem dX3_live_72 : decode cX3_live 72 = .ok (.iload 5, 2) := by decide +kernel
theorem dX3_live_74 : decode cX3_live 74 = .ok (.sipush 140, 3) := by decide +kernel
theorem dX3_live_77 : decode cX3_live 77 = .ok (.if_icmp .ge 101, 3) := by decide +kernel
theorem dX3_live_80 : decode cX3_live 80 = .ok (.iload 5, 2) := by decide +kernel
theorem dX3_live_82 : decode cX3_live 82 = .ok (.bipush 14, 2) := by decide +kernel
theorem dX3_live_84 : decode cX3_live 84 = .ok (.irem, 1) := by decide +kernel
theorem dX3_live_85 : decode cX3_live 85 = .ok (.istore 6, 2) := by decide +kernel
theorem dX3_live_87 : decode cX3_live 87 = .ok (.iload 6, 2) := by decide +kernel
theorem dX3_live_89 : decode cX3_live 89 = .ok (.ifCond .ne 12, 3) := by decide +kernel
theorem dX3_live_92 : decode cX3_live 92 = .ok (.aload_n 0, 1) := by decide +kernel
theorem dX3_live_93 : decode cX3_live 93 = .ok (.iload 5, 2) := by decide +kernel
theorem dX3_live_95 : decode cX3_live 95 = .ok (.bipush 14, 2) := by decide +kernel
theorem dX3_live_97 : decode cX3_live 97 = .ok (.idiv, 1) := by decide +kernel
theorem dX3_live_98 : decode cX3_live 98 = .ok (.invokevirtual 76, 3) := by decide +kernel
theorem dX3_live_101 : decode cX3_live 101 = .ok (.iload 6, 2) := by decide +kernel
theorem dX3_live_103 : decode cX3_live 103 = .ok (.aload_n 0, 1) := by decide +kernel
theorem dX3_live_104 : decode cX3_live 104 = .ok (.getfield 34, 3) := by decide +kernel
theorem dX3_live_107 : decode cX3_live 107 = .ok (.if_icmp .ge 7, 3) := by decide +kernel
theorem dX3_live_110 : decode cX3_live 110 = .ok (.iload_n 3, 1) := by decide +kernel
theorem dX3_live_111 : decode cX3_live 111 = .ok (.goto 5, 3) := by decide +kernel
theorem dX3_live_114 : decode cX3_live 114 = .ok (.iload 4, 2) := by decide +kernel
theorem dX3_live_116 : decode cX3_live 116 = .ok (.istore 7, 2) := by decide +kernel
theorem dX3_live_118 : decode cX3_live 118 = .ok (.aload_n 0, 1) := by decide +kernel
theorem dX3_live_119 : decode cX3_live 119 = .ok (.iload 7, 2) := by decide +kernel
theorem dX3_live_121 : decode cX3_live 121 = .ok (.invokevirtual 80, 3) := by decide +kernel
theorem dX3_live_124 : decode cX3_live 124 = .ok (.istore 8, 2) := by decide +kernel
theorem dX3_live_126 : decode cX3_live 126 = .ok (.iload 6, 2) := by decide +kernel
theorem dX3_live_128 : decode cX3_live 128 = .ok (.aload_n 0, 1) := by decide +kernel
theorem dX3_live_129 : decode cX3_live 129 = .ok (.getfield 34, 3) := by decide +kernel
theorem dX3_live_132 : decode cX3_live 132 = .ok (.iconst 1, 1) := by decide +kernel
theorem dX3_live_133 : decode cX3_live 133 = .ok (.isub, 1) := by decide +kernel
theorem dX3_live_134 : decode cX3_live 134 = .ok (.if_icmp .eq 10, 3) := by decide +kernel
theorem dX3_live_137 : decode cX3_live 137 = .ok (.iload 6, 2) := by decide +kernel
theorem dX3_live_139 : decode cX3_live 139 = .ok (.bipush 13, 2) := by decide +kernel
theorem dX3_live_141 : decode cX3_live 141 = .ok (.if_icmp .ne 14, 3) := by decide +kernel
theorem dX3_live_144 : decode cX3_live 144 = .ok (.aload_n 0, 1) := by decide +kernel
theorem dX3_live_145 : decode cX3_live 145 = .ok (.iload 7, 2) := by decide +kernel
theorem dX3_live_147 : decode cX3_live 147 = .ok (.iload 8, 2) := by decide +kernel
theorem dX3_live_149 : decode cX3_live 149 = .ok (.iconst (-1), 1) := by decide +kernel
theorem dX3_live_150 : decode cX3_live 150 = .ok (.ixor, 1) := by decide +kernel
theorem dX3_live_151 : decode cX3_live 151 = .ok (.iand, 1) := by decide +kernel
theorem dX3_live_152 : decode cX3_live 152 = .ok (.invokevirtual 84, 3) := by decide +kernel
theorem dX3_live_155 : decode cX3_live 155 = .ok (.aload_n 0, 1) := by decide +kernel
theorem dX3_live_156 : decode cX3_live 156 = .ok (.iload 5, 2) := by decide +kernel
theorem dX3_live_158 : decode cX3_live 158 = .ok (.iload 8, 2) := by decide +kernel
theorem dX3_live_160 : decode cX3_live 160 = .ok (.invokevirtual 87, 3) := by decide +kernel
theorem dX3_live_163 : decode cX3_live 163 = .ok (.iload 8, 2) := by decide +kernel
theorem dX3_live_165 : decode cX3_live 165 = .ok (.iload_n 2, 1) := by decide +kernel
theorem dX3_live_166 : decode cX3_live 166 = .ok (.iand, 1) := by decide +kernel
theorem dX3_live_167 : decode cX3_live 167 = .ok (.ifCond .eq 5, 3) := by decide +kernel
theorem dX3_live_170 : decode cX3_live 170 = .ok (.iconst 0, 1) := by decide +kernel
theorem dX3_live_171 : decode cX3_live 171 = .ok (.ireturn, 1) := by decide +kernel
theorem dX3_live_172 : decode cX3_live 172 = .ok (.iinc 5 1, 3) := by decide +kernel
theorem dX3_live_175 : decode cX3_live 175 = .ok (.goto (-112), 3) := by decide +kernel
theorem dX3_live_178 : decode cX3_live 178 = .ok (.iconst 1, 1) := by decide +kernel
theorem dX3_live_179 : decode cX3_live 179 = .ok (.ireturn, 1) := by decide +kernel
theorem dX3_bringWood_0 : decode cX3_bringWood 0 = .ok (.iconst 0, 1) := by decide +kernel
theorem dX3_bringWood_1 : decode cX3_bringWood 1 = .ok (.istore_n 2, 1) := by decide +kernel
theorem dX3_bringWood_2 : decode cX3_bringWood 2 = .ok (.iload_n 2, 1) := by decide +kernel
theorem dX3_bringWood_3 : decode cX3_bringWood 3 = .ok (.aload_n 0, 1) := by decide +kernel
theorem dX3_bringWood_4 : decode cX3_bringWood 4 = .ok (.getfield 43, 3) := by decide +kernel
theorem dX3_bringWood_7 : decode cX3_bringWood 7 = .ok (.getfield 91, 3) := by decide +kernel
theorem dX3_bringWood_10 : decode cX3_bringWood 10 = .ok (.if_icmp .ge 73, 3) := by decide +kernel
theorem dX3_bringWood_13 : decode cX3_bringWood 13 = .ok (.iload_n 2, 1) := by decide +kernel
theorem dX3_bringWood_14 : decode cX3_bringWood 14 = .ok (.aload_n 0, 1) := by decide +kernel
theorem dX3_bringWood_15 : decode cX3_bringWood 15 = .ok (.getfield 37, 3) := by decide +kernel
theorem dX3_bringWood_18 : decode cX3_bringWood 18 = .ok (.if_icmp .ne 14, 3) := by decide +kernel
theorem dX3_bringWood_21 : decode cX3_bringWood 21 = .ok (.iload_n 1, 1) := by decide +kernel
theorem dX3_bringWood_22 : decode cX3_bringWood 22 = .ok (.ifCond .ne 10, 3) := by decide +kernel
theorem dX3_bringWood_25 : decode cX3_bringWood 25 = .ok (.aload_n 0, 1) := by decide +kernel
theorem dX3_bringWood_26 : decode cX3_bringWood 26 = .ok (.getfield 40, 3) := by decide +kernel
theorem dX3_bringWood_29 : decode cX3_bringWood 29 = .ok (.goto 4, 3) := by decide +kernel
theorem dX3_bringWood_32 : decode cX3_bringWood 32 = .ok (.iconst 0, 1) := by decide +kernel
theorem dX3_bringWood_33 : decode cX3_bringWood 33 = .ok (.istore_n 3, 1) := by decide +kernel
theorem dX3_bringWood_34 : decode cX3_bringWood 34 = .ok (.aload_n 0, 1) := by decide +kernel
theorem dX3_bringWood_35 : decode cX3_bringWood 35 = .ok (.getfield 21, 3) := by decide +kernel
theorem dX3_bringWood_38 : decode cX3_bringWood 38 = .ok (.iload_n 2, 1) := by decide +kernel
theorem dX3_bringWood_39 : decode cX3_bringWood 39 = .ok (.iaload, 1) := by decide +kernel
theorem dX3_bringWood_40 : decode cX3_bringWood 40 = .ok (.aload_n 0, 1) := by decide +kernel
theorem dX3_bringWood_41 : decode cX3_bringWood 41 = .ok (.getfield 43, 3) := by decide +kernel
theorem dX3_bringWood_44 : decode cX3_bringWood 44 = .ok (.getfield 94, 3) := by decide +kernel
theorem dX3_bringWood_47 : decode cX3_bringWood 47 = .ok (.iload_n 2, 1) := by decide +kernel
theorem dX3_bringWood_48 : decode cX3_bringWood 48 = .ok (.iaload, 1) := by decide +kernel
theorem dX3_bringWood_49 : decode cX3_bringWood 49 = .ok (.iadd, 1) := by decide +kernel
theorem dX3_bringWood_50 : decode cX3_bringWood 50 = .ok (.aload_n 0, 1) := by decide +kernel
theorem dX3_bringWood_51 : decode cX3_bringWood 51 = .ok (.getfield 47, 3) := by decide +kernel
theorem dX3_bringWood_54 : decode cX3_bringWood 54 = .ok (.iload_n 2, 1) := by decide +kernel
theorem dX3_bringWood_55 : decode cX3_bringWood 55 = .ok (.iload_n 1, 1) := by decide +kernel
theorem dX3_bringWood_56 : decode cX3_bringWood 56 = .ok (.invokevirtual 97, 3) := by decide +kernel
theorem dX3_bringWood_59 : decode cX3_bringWood 59 = .ok (.iadd, 1) := by decide +kernel
theorem dX3_bringWood_60 : decode cX3_bringWood 60 = .ok (.iload_n 3, 1) := by decide +kernel
theorem dX3_bringWood_61 : decode cX3_bringWood 61 = .ok (.iadd, 1) := by decide +kernel
theorem dX3_bringWood_62 : decode cX3_bringWood 62 = .ok (.istore 4, 2) := by decide +kernel
theorem dX3_bringWood_64 : decode cX3_bringWood 64 = .ok (.aload_n 0, 1) := by decide +kernel
theorem dX3_bringWood_65 : decode cX3_bringWood 65 = .ok (.getfield 21, 3) := by decide +kernel
theorem dX3_bringWood_68 : decode cX3_bringWood 68 = .ok (.iload_n 2, 1) := by decide +kernel
theorem dX3_bringWood_69 : decode cX3_bringWood 69 = .ok (.bipush 99, 2) := by decide +kernel
theorem dX3_bringWood_71 : decode cX3_bringWood 71 = .ok (.iload 4, 2) := by decide +kernel
theorem dX3_bringWood_73 : decode cX3_bringWood 73 = .ok (.invokestatic 102, 3) := by decide +kernel
theorem dX3_bringWood_76 : decode cX3_bringWood 76 = .ok (.iastore, 1) := by decide +kernel
theorem dX3_bringWood_77 : decode cX3_bringWood 77 = .ok (.iinc 2 1, 3) := by decide +kernel
theorem dX3_bringWood_80 : decode cX3_bringWood 80 = .ok (.goto (-78), 3) := by decide +kernel
theorem dX3_bringWood_83 : decode cX3_bringWood 83 = .ok (.return_, 1) := by decide +kernel
theorem dX3_takeWood_0 : decode cX3_takeWood 0 = .ok (.iconst 0, 1) := by decide +kernel
theorem dX3_takeWood_1 : decode cX3_takeWood 1 = .ok (.istore_n 2, 1) := by decide +kernel
theorem dX3_takeWood_2 : decode cX3_takeWood 2 = .ok (.iconst 0, 1) := by decide +kernel
theorem dX3_takeWood_3 : decode cX3_takeWood 3 = .ok (.istore_n 3, 1) := by decide +kernel
theorem dX3_takeWood_4 : decode cX3_takeWood 4 = .ok (.iload_n 3, 1) := by decide +kernel
theorem dX3_takeWood_5 : decode cX3_takeWood 5 = .ok (.aload_n 0, 1) := by decide +kernel
theorem dX3_takeWood_6 : decode cX3_takeWood 6 = .ok (.getfield 43, 3) := by decide +kernel
theorem dX3_takeWood_9 : decode cX3_takeWood 9 = .ok (.getfield 54, 3) := by decide +kernel
theorem dX3_takeWood_12 : decode cX3_takeWood 12 = .ok (.if_icmp .ge 111, 3) := by decide +kernel
theorem dX3_takeWood_15 : decode cX3_takeWood 15 = .ok (.iload_n 1, 1) := by decide +kernel
theorem dX3_takeWood_16 : decode cX3_takeWood 16 = .ok (.iload_n 3, 1) := by decide +kernel
theorem dX3_takeWood_17 : decode cX3_takeWood 17 = .ok (.ishr, 1) := by decide +kernel
theorem dX3_takeWood_18 : decode cX3_takeWood 18 = .ok (.iconst 1, 1) := by decide +kernel
theorem dX3_takeWood_19 : decode cX3_takeWood 19 = .ok (.iand, 1) := by decide +kernel
theorem dX3_takeWood_20 : decode cX3_takeWood 20 = .ok (.ifCond .ne 6, 3) := by decide +kernel
theorem dX3_takeWood_23 : decode cX3_takeWood 23 = .ok (.goto 94, 3) := by decide +kernel
theorem dX3_takeWood_26 : decode cX3_takeWood 26 = .ok (.aload_n 0, 1) := by decide +kernel
theorem dX3_takeWood_27 : decode cX3_takeWood 27 = .ok (.getfield 43, 3) := by decide +kernel
theorem dX3_takeWood_30 : decode cX3_takeWood 30 = .ok (.getfield 107, 3) := by decide +kernel
theorem dX3_takeWood_33 : decode cX3_takeWood 33 = .ok (.iload_n 3, 1) := by decide +kernel
theorem dX3_takeWood_34 : decode cX3_takeWood 34 = .ok (.iaload, 1) := by decide +kernel
theorem dX3_takeWood_35 : decode cX3_takeWood 35 = .ok (.istore 4, 2) := by decide +kernel
theorem dX3_takeWood_37 : decode cX3_takeWood 37 = .ok (.aload_n 0, 1) := by decide +kernel
theorem dX3_takeWood_38 : decode cX3_takeWood 38 = .ok (.getfield 43, 3) := by decide +kernel
theorem dX3_takeWood_41 : decode cX3_takeWood 41 = .ok (.iload 4, 2) := by decide +kernel
theorem dX3_takeWood_43 : decode cX3_takeWood 43 = .ok (.aload_n 0, 1) := by decide +kernel
theorem dX3_takeWood_44 : decode cX3_takeWood 44 = .ok (.getfield 24, 3) := by decide +kernel
theorem dX3_takeWood_47 : decode cX3_takeWood 47 = .ok (.iload 4, 2) := by decide +kernel
theorem dX3_takeWood_49 : decode cX3_takeWood 49 = .ok (.iaload, 1) := by decide +kernel
theorem dX3_takeWood_50 : decode cX3_takeWood 50 = .ok (.invokevirtual 110, 3) := by decide +kernel
theorem dX3_takeWood_53 : decode cX3_takeWood 53 = .ok (.ifCond .eq 12, 3) := by decide +kernel
theorem dX3_takeWood_56 : decode cX3_takeWood 56 = .ok (.iload_n 2, 1) := by decide +kernel
theorem dX3_takeWood_57 : decode cX3_takeWood 57 = .ok (.iconst 1, 1) := by decide +kernel
theorem dX3_takeWood_58 : decode cX3_takeWood 58 = .ok (.iload_n 3, 1) := by decide +kernel
theorem dX3_takeWood_59 : decode cX3_takeWood 59 = .ok (.ishl, 1) := by decide +kernel
theorem dX3_takeWood_60 : decode cX3_takeWood 60 = .ok (.ior, 1) := by decide +kernel
theorem dX3_takeWood_61 : decode cX3_takeWood 61 = .ok (.istore_n 2, 1) := by decide +kernel
theorem dX3_takeWood_62 : decode cX3_takeWood 62 = .ok (.goto 55, 3) := by decide +kernel
theorem dX3_takeWood_65 : decode cX3_takeWood 65 = .ok (.aload_n 0, 1) := by decide +kernel
theorem dX3_takeWood_66 : decode cX3_takeWood 66 = .ok (.getfield 21, 3) := by decide +kernel
theorem dX3_takeWood_69 : decode cX3_takeWood 69 = .ok (.iload 4, 2) := by decide +kernel
theorem dX3_takeWood_71 : decode cX3_takeWood 71 = .ok (.iaload, 1) := by decide +kernel
theorem dX3_takeWood_72 : decode cX3_takeWood 72 = .ok (.aload_n 0, 1) := by decide +kernel
theorem dX3_takeWood_73 : decode cX3_takeWood 73 = .ok (.getfield 27, 3) := by decide +kernel
theorem dX3_takeWood_76 : decode cX3_takeWood 76 = .ok (.iload_n 3, 1) := by decide +kernel
theorem dX3_takeWood_77 : decode cX3_takeWood 77 = .ok (.iaload, 1) := by decide +kernel
theorem dX3_takeWood_78 : decode cX3_takeWood 78 = .ok (.if_icmp .lt 22, 3) := by decide +kernel
theorem dX3_takeWood_81 : decode cX3_takeWood 81 = .ok (.aload_n 0, 1) := by decide +kernel
theorem dX3_takeWood_82 : decode cX3_takeWood 82 = .ok (.getfield 21, 3) := by decide +kernel
theorem dX3_takeWood_85 : decode cX3_takeWood 85 = .ok (.iload 4, 2) := by decide +kernel
theorem dX3_takeWood_87 : decode cX3_takeWood 87 = .ok (.dup2, 1) := by decide +kernel
theorem dX3_takeWood_88 : decode cX3_takeWood 88 = .ok (.iaload, 1) := by decide +kernel
theorem dX3_takeWood_89 : decode cX3_takeWood 89 = .ok (.aload_n 0, 1) := by decide +kernel
theorem dX3_takeWood_90 : decode cX3_takeWood 90 = .ok (.getfield 27, 3) := by decide +kernel
theorem dX3_takeWood_93 : decode cX3_takeWood 93 = .ok (.iload_n 3, 1) := by decide +kernel
theorem dX3_takeWood_94 : decode cX3_takeWood 94 = .ok (.iaload, 1) := by decide +kernel
theorem dX3_takeWood_95 : decode cX3_takeWood 95 = .ok (.isub, 1) := by decide +kernel
theorem dX3_takeWood_96 : decode cX3_takeWood 96 = .ok (.iastore, 1) := by decide +kernel
theorem dX3_takeWood_97 : decode cX3_takeWood 97 = .ok (.goto 9, 3) := by decide +kernel
theorem dX3_takeWood_100 : decode cX3_takeWood 100 = .ok (.iload_n 2, 1) := by decide +kernel
theorem dX3_takeWood_101 : decode cX3_takeWood 101 = .ok (.iconst 1, 1) := by decide +kernel
theorem dX3_takeWood_102 : decode cX3_takeWood 102 = .ok (.iload_n 3, 1) := by decide +kernel
theorem dX3_takeWood_103 : decode cX3_takeWood 103 = .ok (.ishl, 1) := by decide +kernel
theorem dX3_takeWood_104 : decode cX3_takeWood 104 = .ok (.ior, 1) := by decide +kernel
theorem dX3_takeWood_105 : decode cX3_takeWood 105 = .ok (.istore_n 2, 1) := by decide +kernel
theorem dX3_takeWood_106 : decode cX3_takeWood 106 = .ok (.aload_n 0, 1) := by decide +kernel
theorem dX3_takeWood_107 : decode cX3_takeWood 107 = .ok (.getfield 24, 3) := by decide +kernel
theorem dX3_takeWood_110 : decode cX3_takeWood 110 = .ok (.iload 4, 2) := by decide +kernel
theorem dX3_takeWood_112 : decode cX3_takeWood 112 = .ok (.dup2, 1) := by decide +kernel
theorem dX3_takeWood_113 : decode cX3_takeWood 113 = .ok (.iaload, 1) := by decide +kernel
theorem dX3_takeWood_114 : decode cX3_takeWood 114 = .ok (.iconst 1, 1) := by decide +kernel
theorem dX3_takeWood_115 : decode cX3_takeWood 115 = .ok (.iadd, 1) := by decide +kernel
theorem dX3_takeWood_116 : decode cX3_takeWood 116 = .ok (.iastore, 1) := by decide +kernel
theorem dX3_takeWood_117 : decode cX3_takeWood 117 = .ok (.iinc 3 1, 3) := by decide +kernel
theorem dX3_takeWood_120 : decode cX3_takeWood 120 = .ok (.goto (-116), 3) := by decide +kernel
theorem dX3_takeWood_123 : decode cX3_takeWood 123 = .ok (.iload_n 2, 1) := by decide +kernel
theorem dX3_takeWood_124 : decode cX3_takeWood 124 = .ok (.ireturn, 1) := by decide +kernel
theorem dX3_mend_0 : decode cX3_mend 0 = .ok (.iconst 0, 1) := by decide +kernel
theorem dX3_mend_1 : decode cX3_mend 1 = .ok (.istore_n 2, 1) := by decide +kernel
theorem dX3_mend_2 : decode cX3_mend 2 = .ok (.iload_n 2, 1) := by decide +kernel
theorem dX3_mend_3 : decode cX3_mend 3 = .ok (.aload_n 0, 1) := by decide +kernel
theorem dX3_mend_4 : decode cX3_mend 4 = .ok (.getfield 43, 3) := by decide +kernel
theorem dX3_mend_7 : decode cX3_mend 7 = .ok (.getfield 54, 3) := by decide +kernel
theorem dX3_mend_10 : decode cX3_mend 10 = .ok (.if_icmp .ge 71, 3) := by decide +kernel
theorem dX3_mend_13 : decode cX3_mend 13 = .ok (.aload_n 0, 1) := by decide +kernel
theorem dX3_mend_14 : decode cX3_mend 14 = .ok (.getfield 43, 3) := by decide +kernel
theorem dX3_mend_17 : decode cX3_mend 17 = .ok (.getfield 107, 3) := by decide +kernel
theorem dX3_mend_20 : decode cX3_mend 20 = .ok (.iload_n 2, 1) := by decide +kernel
theorem dX3_mend_21 : decode cX3_mend 21 = .ok (.iaload, 1) := by decide +kernel
theorem dX3_mend_22 : decode cX3_mend 22 = .ok (.istore_n 3, 1) := by decide +kernel
theorem dX3_mend_23 : decode cX3_mend 23 = .ok (.iload_n 1, 1) := by decide +kernel
theorem dX3_mend_24 : decode cX3_mend 24 = .ok (.iload_n 2, 1) := by decide +kernel
theorem dX3_mend_25 : decode cX3_mend 25 = .ok (.ishr, 1) := by decide +kernel
theorem dX3_mend_26 : decode cX3_mend 26 = .ok (.iconst 1, 1) := by decide +kernel
theorem dX3_mend_27 : decode cX3_mend 27 = .ok (.iand, 1) := by decide +kernel
theorem dX3_mend_28 : decode cX3_mend 28 = .ok (.iconst 1, 1) := by decide +kernel
theorem dX3_mend_29 : decode cX3_mend 29 = .ok (.if_icmp .ne 46, 3) := by decide +kernel
theorem dX3_mend_32 : decode cX3_mend 32 = .ok (.aload_n 0, 1) := by decide +kernel
theorem dX3_mend_33 : decode cX3_mend 33 = .ok (.getfield 43, 3) := by decide +kernel
theorem dX3_mend_36 : decode cX3_mend 36 = .ok (.iload_n 3, 1) := by decide +kernel
theorem dX3_mend_37 : decode cX3_mend 37 = .ok (.aload_n 0, 1) := by decide +kernel
theorem dX3_mend_38 : decode cX3_mend 38 = .ok (.getfield 24, 3) := by decide +kernel
theorem dX3_mend_41 : decode cX3_mend 41 = .ok (.iload_n 3, 1) := by decide +kernel
theorem dX3_mend_42 : decode cX3_mend 42 = .ok (.iaload, 1) := by decide +kernel
theorem dX3_mend_43 : decode cX3_mend 43 = .ok (.invokevirtual 110, 3) := by decide +kernel
theorem dX3_mend_46 : decode cX3_mend 46 = .ok (.ifCond .ne 29, 3) := by decide +kernel
theorem dX3_mend_49 : decode cX3_mend 49 = .ok (.aload_n 0, 1) := by decide +kernel
theorem dX3_mend_50 : decode cX3_mend 50 = .ok (.getfield 24, 3) := by decide +kernel
theorem dX3_mend_53 : decode cX3_mend 53 = .ok (.iload_n 3, 1) := by decide +kernel
theorem dX3_mend_54 : decode cX3_mend 54 = .ok (.iconst 0, 1) := by decide +kernel
theorem dX3_mend_55 : decode cX3_mend 55 = .ok (.aload_n 0, 1) := by decide +kernel
theorem dX3_mend_56 : decode cX3_mend 56 = .ok (.getfield 24, 3) := by decide +kernel
theorem dX3_mend_59 : decode cX3_mend 59 = .ok (.iload_n 3, 1) := by decide +kernel
theorem dX3_mend_60 : decode cX3_mend 60 = .ok (.iaload, 1) := by decide +kernel
theorem dX3_mend_61 : decode cX3_mend 61 = .ok (.aload_n 0, 1) := by decide +kernel
theorem dX3_mend_62 : decode cX3_mend 62 = .ok (.getfield 43, 3) := by decide +kernel
theorem dX3_mend_65 : decode cX3_mend 65 = .ok (.getfield 114, 3) := by decide +kernel
theorem dX3_mend_68 : decode cX3_mend 68 = .ok (.iload_n 2, 1) := by decide +kernel
theorem dX3_mend_69 : decode cX3_mend 69 = .ok (.iaload, 1) := by decide +kernel
theorem dX3_mend_70 : decode cX3_mend 70 = .ok (.isub, 1) := by decide +kernel
theorem dX3_mend_71 : decode cX3_mend 71 = .ok (.invokestatic 117, 3) := by decide +kernel
theorem dX3_mend_74 : decode cX3_mend 74 = .ok (.iastore, 1) := by decide +kernel
theorem dX3_mend_75 : decode cX3_mend 75 = .ok (.iinc 2 1, 3) := by decide +kernel
theorem dX3_mend_78 : decode cX3_mend 78 = .ok (.goto (-76), 3) := by decide +kernel
theorem dX3_mend_81 : decode cX3_mend 81 = .ok (.return_, 1) := by decide +kernel
theorem dX3_note_0 : decode cX3_note 0 = .ok (.aload_n 0, 1) := by decide +kernel
theorem dX3_note_1 : decode cX3_note 1 = .ok (.getfield 18, 3) := by decide +kernel
theorem dX3_note_4 : decode cX3_note 4 = .ok (.iload_n 1, 1) := by decide +kernel
theorem dX3_note_5 : decode cX3_note 5 = .ok (.iload_n 2, 1) := by decide +kernel
theorem dX3_note_6 : decode cX3_note 6 = .ok (.iastore, 1) := by decide +kernel
theorem dX3_note_7 : decode cX3_note 7 = .ok (.iconst 0, 1) := by decide +kernel
theorem dX3_note_8 : decode cX3_note 8 = .ok (.istore_n 3, 1) := by decide +kernel
theorem dX3_note_9 : decode cX3_note 9 = .ok (.iload_n 3, 1) := by decide +kernel
theorem dX3_note_10 : decode cX3_note 10 = .ok (.aload_n 0, 1) := by decide +kernel
theorem dX3_note_11 : decode cX3_note 11 = .ok (.getfield 43, 3) := by decide +kernel
theorem dX3_note_14 : decode cX3_note 14 = .ok (.getfield 91, 3) := by decide +kernel
theorem dX3_note_17 : decode cX3_note 17 = .ok (.if_icmp .ge 45, 3) := by decide +kernel
theorem dX3_note_20 : decode cX3_note 20 = .ok (.aload_n 0, 1) := by decide +kernel
theorem dX3_note_21 : decode cX3_note 21 = .ok (.getfield 9, 3) := by decide +kernel
theorem dX3_note_24 : decode cX3_note 24 = .ok (.iload_n 3, 1) := by decide +kernel
theorem dX3_note_25 : decode cX3_note 25 = .ok (.sipush 140, 3) := by decide +kernel
theorem dX3_note_28 : decode cX3_note 28 = .ok (.imul, 1) := by decide +kernel
theorem dX3_note_29 : decode cX3_note 29 = .ok (.iload_n 1, 1) := by decide +kernel
theorem dX3_note_30 : decode cX3_note 30 = .ok (.iadd, 1) := by decide +kernel
theorem dX3_note_31 : decode cX3_note 31 = .ok (.aload_n 0, 1) := by decide +kernel
theorem dX3_note_32 : decode cX3_note 32 = .ok (.getfield 21, 3) := by decide +kernel
theorem dX3_note_35 : decode cX3_note 35 = .ok (.iload_n 3, 1) := by decide +kernel
theorem dX3_note_36 : decode cX3_note 36 = .ok (.iaload, 1) := by decide +kernel
theorem dX3_note_37 : decode cX3_note 37 = .ok (.iastore, 1) := by decide +kernel
theorem dX3_note_38 : decode cX3_note 38 = .ok (.aload_n 0, 1) := by decide +kernel
theorem dX3_note_39 : decode cX3_note 39 = .ok (.getfield 15, 3) := by decide +kernel
theorem dX3_note_42 : decode cX3_note 42 = .ok (.iload_n 3, 1) := by decide +kernel
theorem dX3_note_43 : decode cX3_note 43 = .ok (.sipush 140, 3) := by decide +kernel
theorem dX3_note_46 : decode cX3_note 46 = .ok (.imul, 1) := by decide +kernel
theorem dX3_note_47 : decode cX3_note 47 = .ok (.iload_n 1, 1) := by decide +kernel
theorem dX3_note_48 : decode cX3_note 48 = .ok (.iadd, 1) := by decide +kernel
theorem dX3_note_49 : decode cX3_note 49 = .ok (.aload_n 0, 1) := by decide +kernel
theorem dX3_note_50 : decode cX3_note 50 = .ok (.getfield 24, 3) := by decide +kernel
theorem dX3_note_53 : decode cX3_note 53 = .ok (.iload_n 3, 1) := by decide +kernel
theorem dX3_note_54 : decode cX3_note 54 = .ok (.iaload, 1) := by decide +kernel
theorem dX3_note_55 : decode cX3_note 55 = .ok (.iastore, 1) := by decide +kernel
theorem dX3_note_56 : decode cX3_note 56 = .ok (.iinc 3 1, 3) := by decide +kernel
theorem dX3_note_59 : decode cX3_note 59 = .ok (.goto (-50), 3) := by decide +kernel
theorem dX3_note_62 : decode cX3_note 62 = .ok (.return_, 1) := by decide +kernel
theorem dX3_woodAt_0 : decode cX3_woodAt 0 = .ok (.aload_n 0, 1) := by decide +kernel
theorem dX3_woodAt_1 : decode cX3_woodAt 1 = .ok (.getfield 9, 3) := by decide +kernel
theorem dX3_woodAt_4 : decode cX3_woodAt 4 = .ok (.iload_n 1, 1) := by decide +kernel
theorem dX3_woodAt_5 : decode cX3_woodAt 5 = .ok (.sipush 140, 3) := by decide +kernel
theorem dX3_woodAt_8 : decode cX3_woodAt 8 = .ok (.imul, 1) := by decide +kernel
theorem dX3_woodAt_9 : decode cX3_woodAt 9 = .ok (.iload_n 2, 1) := by decide +kernel
theorem dX3_woodAt_10 : decode cX3_woodAt 10 = .ok (.iadd, 1) := by decide +kernel
theorem dX3_woodAt_11 : decode cX3_woodAt 11 = .ok (.iaload, 1) := by decide +kernel
theorem dX3_woodAt_12 : decode cX3_woodAt 12 = .ok (.ireturn, 1) := by decide +kernel
theorem dX3_wearAt_0 : decode cX3_wearAt 0 = .ok (.aload_n 0, 1) := by decide +kernel
theorem dX3_wearAt_1 : decode cX3_wearAt 1 = .ok (.getfield 15, 3) := by decide +kernel
theorem dX3_wearAt_4 : decode cX3_wearAt 4 = .ok (.iload_n 1, 1) := by decide +kernel
theorem dX3_wearAt_5 : decode cX3_wearAt 5 = .ok (.sipush 140, 3) := by decide +kernel
theorem dX3_wearAt_8 : decode cX3_wearAt 8 = .ok (.imul, 1) := by decide +kernel
theorem dX3_wearAt_9 : decode cX3_wearAt 9 = .ok (.iload_n 2, 1) := by decide +kernel
theorem dX3_wearAt_10 : decode cX3_wearAt 10 = .ok (.iadd, 1) := by decide +kernel
theorem dX3_wearAt_11 : decode cX3_wearAt 11 = .ok (.iaload, 1) := by decide +kernel
theorem dX3_wearAt_12 : decode cX3_wearAt 12 = .ok (.ireturn, 1) := by decide +kernel
theorem dX3_coldAt_0 : decode cX3_coldAt 0 = .ok (.aload_n 0, 1) := by decide +kernel
theorem dX3_coldAt_1 : decode cX3_coldAt 1 = .ok (.getfield 18, 3) := by decide +kernel
theorem dX3_coldAt_4 : decode cX3_coldAt 4 = .ok (.iload_n 1, 1) := by decide +kernel
theorem dX3_coldAt_5 : decode cX3_coldAt 5 = .ok (.iaload, 1) := by decide +kernel
theorem dX3_coldAt_6 : decode cX3_coldAt 6 = .ok (.ireturn, 1) := by decide +kernel
theorem dX3_wearTogether_0 : decode cX3_wearTogether 0 = .ok (.iconst 0, 1) := by decide +kernel
theorem dX3_wearTogether_1 : decode cX3_wearTogether 1 = .ok (.istore_n 2, 1) := by decide +kernel
theorem dX3_wearTogether_2 : decode cX3_wearTogether 2 = .ok (.iconst 0, 1) := by decide +kernel
theorem dX3_wearTogether_3 : decode cX3_wearTogether 3 = .ok (.istore_n 3, 1) := by decide +kernel
theorem dX3_wearTogether_4 : decode cX3_wearTogether 4 = .ok (.iload_n 3, 1) := by decide +kernel
theorem dX3_wearTogether_5 : decode cX3_wearTogether 5 = .ok (.aload_n 0, 1) := by decide +kernel
theorem dX3_wearTogether_6 : decode cX3_wearTogether 6 = .ok (.getfield 43, 3) := by decide +kernel
theorem dX3_wearTogether_9 : decode cX3_wearTogether 9 = .ok (.getfield 91, 3) := by decide +kernel
theorem dX3_wearTogether_12 : decode cX3_wearTogether 12 = .ok (.if_icmp .ge 18, 3) := by decide +kernel
theorem dX3_wearTogether_15 : decode cX3_wearTogether 15 = .ok (.iload_n 2, 1) := by decide +kernel
theorem dX3_wearTogether_16 : decode cX3_wearTogether 16 = .ok (.aload_n 0, 1) := by decide +kernel
theorem dX3_wearTogether_17 : decode cX3_wearTogether 17 = .ok (.iload_n 3, 1) := by decide +kernel
theorem dX3_wearTogether_18 : decode cX3_wearTogether 18 = .ok (.iload_n 1, 1) := by decide +kernel
theorem dX3_wearTogether_19 : decode cX3_wearTogether 19 = .ok (.invokevirtual 120, 3) := by decide +kernel
theorem dX3_wearTogether_22 : decode cX3_wearTogether 22 = .ok (.iadd, 1) := by decide +kernel
theorem dX3_wearTogether_23 : decode cX3_wearTogether 23 = .ok (.istore_n 2, 1) := by decide +kernel
theorem dX3_wearTogether_24 : decode cX3_wearTogether 24 = .ok (.iinc 3 1, 3) := by decide +kernel
theorem dX3_wearTogether_27 : decode cX3_wearTogether 27 = .ok (.goto (-23), 3) := by decide +kernel
theorem dX3_wearTogether_30 : decode cX3_wearTogether 30 = .ok (.iload_n 2, 1) := by decide +kernel
theorem dX3_wearTogether_31 : decode cX3_wearTogether 31 = .ok (.ireturn, 1) := by decide +kernel
theorem dX3_chillsOf_0 : decode cX3_chillsOf 0 = .ok (.iconst 0, 1) := by decide +kernel
theorem dX3_chillsOf_1 : decode cX3_chillsOf 1 = .ok (.istore_n 3, 1) := by decide +kernel
theorem dX3_chillsOf_2 : decode cX3_chillsOf 2 = .ok (.iconst 0, 1) := by decide +kernel
theorem dX3_chillsOf_3 : decode cX3_chillsOf 3 = .ok (.istore 4, 2) := by decide +kernel
theorem dX3_chillsOf_5 : decode cX3_chillsOf 5 = .ok (.iload 4, 2) := by decide +kernel
theorem dX3_chillsOf_7 : decode cX3_chillsOf 7 = .ok (.iload_n 2, 1) := by decide +kernel
theorem dX3_chillsOf_8 : decode cX3_chillsOf 8 = .ok (.iconst 1, 1) := by decide +kernel
theorem dX3_chillsOf_9 : decode cX3_chillsOf 9 = .ok (.iadd, 1) := by decide +kernel
theorem dX3_chillsOf_10 : decode cX3_chillsOf 10 = .ok (.bipush 14, 2) := by decide +kernel
theorem dX3_chillsOf_12 : decode cX3_chillsOf 12 = .ok (.imul, 1) := by decide +kernel
theorem dX3_chillsOf_13 : decode cX3_chillsOf 13 = .ok (.if_icmp .ge 32, 3) := by decide +kernel
theorem dX3_chillsOf_16 : decode cX3_chillsOf 16 = .ok (.iload 4, 2) := by decide +kernel
theorem dX3_chillsOf_18 : decode cX3_chillsOf 18 = .ok (.sipush 140, 3) := by decide +kernel
theorem dX3_chillsOf_21 : decode cX3_chillsOf 21 = .ok (.if_icmp .ge 24, 3) := by decide +kernel
theorem dX3_chillsOf_24 : decode cX3_chillsOf 24 = .ok (.iload_n 3, 1) := by decide +kernel
theorem dX3_chillsOf_25 : decode cX3_chillsOf 25 = .ok (.aload_n 0, 1) := by decide +kernel
theorem dX3_chillsOf_26 : decode cX3_chillsOf 26 = .ok (.getfield 18, 3) := by decide +kernel
theorem dX3_chillsOf_29 : decode cX3_chillsOf 29 = .ok (.iload 4, 2) := by decide +kernel
theorem dX3_chillsOf_31 : decode cX3_chillsOf 31 = .ok (.iaload, 1) := by decide +kernel
theorem dX3_chillsOf_32 : decode cX3_chillsOf 32 = .ok (.iload_n 1, 1) := by decide +kernel
theorem dX3_chillsOf_33 : decode cX3_chillsOf 33 = .ok (.iand, 1) := by decide +kernel
theorem dX3_chillsOf_34 : decode cX3_chillsOf 34 = .ok (.invokestatic 123, 3) := by decide +kernel
theorem dX3_chillsOf_37 : decode cX3_chillsOf 37 = .ok (.iadd, 1) := by decide +kernel
theorem dX3_chillsOf_38 : decode cX3_chillsOf 38 = .ok (.istore_n 3, 1) := by decide +kernel
theorem dX3_chillsOf_39 : decode cX3_chillsOf 39 = .ok (.iinc 4 1, 3) := by decide +kernel
theorem dX3_chillsOf_42 : decode cX3_chillsOf 42 = .ok (.goto (-37), 3) := by decide +kernel
theorem dX3_chillsOf_45 : decode cX3_chillsOf 45 = .ok (.iload_n 3, 1) := by decide +kernel
theorem dX3_chillsOf_46 : decode cX3_chillsOf 46 = .ok (.ireturn, 1) := by decide +kernel
