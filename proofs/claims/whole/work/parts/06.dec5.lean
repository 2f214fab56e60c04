theorem dX5_blame_0 : decode cX5_blame 0 = .ok (.aload_n 0, 1) := by decide +kernel
theorem dX5_blame_1 : decode cX5_blame 1 = .ok (.iload_n 1, 1) := by decide +kernel
theorem dX5_blame_2 : decode cX5_blame 2 = .ok (.invokevirtual 158, 3) := by decide +kernel
theorem dX5_blame_5 : decode cX5_blame 5 = .ok (.ifCond .ne 5, 3) := by decide +kernel
theorem dX5_blame_8 : decode cX5_blame 8 = .ok (.iconst (-1), 1) := by decide +kernel
theorem dX5_blame_9 : decode cX5_blame 9 = .ok (.ireturn, 1) := by decide +kernel
theorem dX5_blame_10 : decode cX5_blame 10 = .ok (.aload_n 0, 1) := by decide +kernel
theorem dX5_blame_11 : decode cX5_blame 11 = .ok (.invokevirtual 207, 3) := by decide +kernel
theorem dX5_blame_14 : decode cX5_blame 14 = .ok (.aload_n 0, 1) := by decide +kernel
theorem dX5_blame_15 : decode cX5_blame 15 = .ok (.getfield 65, 3) := by decide +kernel
theorem dX5_blame_18 : decode cX5_blame 18 = .ok (.iload_n 1, 1) := by decide +kernel
theorem dX5_blame_19 : decode cX5_blame 19 = .ok (.iaload, 1) := by decide +kernel
theorem dX5_blame_20 : decode cX5_blame 20 = .ok (.isub, 1) := by decide +kernel
theorem dX5_blame_21 : decode cX5_blame 21 = .ok (.istore_n 2, 1) := by decide +kernel
theorem dX5_blame_22 : decode cX5_blame 22 = .ok (.aload_n 0, 1) := by decide +kernel
theorem dX5_blame_23 : decode cX5_blame 23 = .ok (.getfield 40, 3) := by decide +kernel
theorem dX5_blame_26 : decode cX5_blame 26 = .ok (.iload_n 1, 1) := by decide +kernel
theorem dX5_blame_27 : decode cX5_blame 27 = .ok (.baload, 1) := by decide +kernel
theorem dX5_blame_28 : decode cX5_blame 28 = .ok (.istore_n 3, 1) := by decide +kernel
theorem dX5_blame_29 : decode cX5_blame 29 = .ok (.aload_n 0, 1) := by decide +kernel
theorem dX5_blame_30 : decode cX5_blame 30 = .ok (.getfield 40, 3) := by decide +kernel
theorem dX5_blame_33 : decode cX5_blame 33 = .ok (.iload_n 1, 1) := by decide +kernel
theorem dX5_blame_34 : decode cX5_blame 34 = .ok (.iconst 1, 1) := by decide +kernel
theorem dX5_blame_35 : decode cX5_blame 35 = .ok (.bastore, 1) := by decide +kernel
theorem dX5_blame_36 : decode cX5_blame 36 = .ok (.aload_n 0, 1) := by decide +kernel
theorem dX5_blame_37 : decode cX5_blame 37 = .ok (.invokevirtual 207, 3) := by decide +kernel
theorem dX5_blame_40 : decode cX5_blame 40 = .ok (.aload_n 0, 1) := by decide +kernel
theorem dX5_blame_41 : decode cX5_blame 41 = .ok (.getfield 65, 3) := by decide +kernel
theorem dX5_blame_44 : decode cX5_blame 44 = .ok (.iload_n 1, 1) := by decide +kernel
theorem dX5_blame_45 : decode cX5_blame 45 = .ok (.iaload, 1) := by decide +kernel
theorem dX5_blame_46 : decode cX5_blame 46 = .ok (.isub, 1) := by decide +kernel
theorem dX5_blame_47 : decode cX5_blame 47 = .ok (.istore 4, 2) := by decide +kernel
theorem dX5_blame_49 : decode cX5_blame 49 = .ok (.aload_n 0, 1) := by decide +kernel
theorem dX5_blame_50 : decode cX5_blame 50 = .ok (.getfield 40, 3) := by decide +kernel
theorem dX5_blame_53 : decode cX5_blame 53 = .ok (.iload_n 1, 1) := by decide +kernel
theorem dX5_blame_54 : decode cX5_blame 54 = .ok (.iload_n 3, 1) := by decide +kernel
theorem dX5_blame_55 : decode cX5_blame 55 = .ok (.bastore, 1) := by decide +kernel
theorem dX5_blame_56 : decode cX5_blame 56 = .ok (.iload_n 2, 1) := by decide +kernel
theorem dX5_blame_57 : decode cX5_blame 57 = .ok (.iload 4, 2) := by decide +kernel
theorem dX5_blame_59 : decode cX5_blame 59 = .ok (.isub, 1) := by decide +kernel
theorem dX5_blame_60 : decode cX5_blame 60 = .ok (.sipush 1000, 3) := by decide +kernel
theorem dX5_blame_63 : decode cX5_blame 63 = .ok (.iadd, 1) := by decide +kernel
theorem dX5_blame_64 : decode cX5_blame 64 = .ok (.ireturn, 1) := by decide +kernel
theorem dX5_size_0 : decode cX5_size 0 = .ok (.iconst 0, 1) := by decide +kernel
theorem dX5_size_1 : decode cX5_size 1 = .ok (.istore_n 1, 1) := by decide +kernel
theorem dX5_size_2 : decode cX5_size 2 = .ok (.iload_n 0, 1) := by decide +kernel
theorem dX5_size_3 : decode cX5_size 3 = .ok (.istore_n 2, 1) := by decide +kernel
theorem dX5_size_4 : decode cX5_size 4 = .ok (.iload_n 2, 1) := by decide +kernel
theorem dX5_size_5 : decode cX5_size 5 = .ok (.ifCond .le 16, 3) := by decide +kernel
theorem dX5_size_8 : decode cX5_size 8 = .ok (.iload_n 1, 1) := by decide +kernel
theorem dX5_size_9 : decode cX5_size 9 = .ok (.iload_n 2, 1) := by decide +kernel
theorem dX5_size_10 : decode cX5_size 10 = .ok (.iconst 1, 1) := by decide +kernel
theorem dX5_size_11 : decode cX5_size 11 = .ok (.iand, 1) := by decide +kernel
theorem dX5_size_12 : decode cX5_size 12 = .ok (.iadd, 1) := by decide +kernel
theorem dX5_size_13 : decode cX5_size 13 = .ok (.istore_n 1, 1) := by decide +kernel
theorem dX5_size_14 : decode cX5_size 14 = .ok (.iload_n 2, 1) := by decide +kernel
theorem dX5_size_15 : decode cX5_size 15 = .ok (.iconst 1, 1) := by decide +kernel
theorem dX5_size_16 : decode cX5_size 16 = .ok (.ishr, 1) := by decide +kernel
theorem dX5_size_17 : decode cX5_size 17 = .ok (.istore_n 2, 1) := by decide +kernel
theorem dX5_size_18 : decode cX5_size 18 = .ok (.goto (-14), 3) := by decide +kernel
theorem dX5_size_21 : decode cX5_size 21 = .ok (.iload_n 1, 1) := by decide +kernel
theorem dX5_size_22 : decode cX5_size 22 = .ok (.ireturn, 1) := by decide +kernel
theorem dX5_awayNow_0 : decode cX5_awayNow 0 = .ok (.iconst 0, 1) := by decide +kernel
theorem dX5_awayNow_1 : decode cX5_awayNow 1 = .ok (.istore_n 1, 1) := by decide +kernel
theorem dX5_awayNow_2 : decode cX5_awayNow 2 = .ok (.iconst 0, 1) := by decide +kernel
theorem dX5_awayNow_3 : decode cX5_awayNow 3 = .ok (.istore_n 2, 1) := by decide +kernel
theorem dX5_awayNow_4 : decode cX5_awayNow 4 = .ok (.iload_n 2, 1) := by decide +kernel
theorem dX5_awayNow_5 : decode cX5_awayNow 5 = .ok (.aload_n 0, 1) := by decide +kernel
theorem dX5_awayNow_6 : decode cX5_awayNow 6 = .ok (.getfield 96, 3) := by decide +kernel
theorem dX5_awayNow_9 : decode cX5_awayNow 9 = .ok (.if_icmp .ge 28, 3) := by decide +kernel
theorem dX5_awayNow_12 : decode cX5_awayNow 12 = .ok (.iload_n 1, 1) := by decide +kernel
theorem dX5_awayNow_13 : decode cX5_awayNow 13 = .ok (.aload_n 0, 1) := by decide +kernel
theorem dX5_awayNow_14 : decode cX5_awayNow 14 = .ok (.getfield 40, 3) := by decide +kernel
theorem dX5_awayNow_17 : decode cX5_awayNow 17 = .ok (.iload_n 2, 1) := by decide +kernel
theorem dX5_awayNow_18 : decode cX5_awayNow 18 = .ok (.baload, 1) := by decide +kernel
theorem dX5_awayNow_19 : decode cX5_awayNow 19 = .ok (.ifCond .eq 9, 3) := by decide +kernel
theorem dX5_awayNow_22 : decode cX5_awayNow 22 = .ok (.iconst 1, 1) := by decide +kernel
theorem dX5_awayNow_23 : decode cX5_awayNow 23 = .ok (.iload_n 2, 1) := by decide +kernel
theorem dX5_awayNow_24 : decode cX5_awayNow 24 = .ok (.ishl, 1) := by decide +kernel
theorem dX5_awayNow_25 : decode cX5_awayNow 25 = .ok (.goto 4, 3) := by decide +kernel
theorem dX5_awayNow_28 : decode cX5_awayNow 28 = .ok (.iconst 0, 1) := by decide +kernel
theorem dX5_awayNow_29 : decode cX5_awayNow 29 = .ok (.ior, 1) := by decide +kernel
theorem dX5_awayNow_30 : decode cX5_awayNow 30 = .ok (.istore_n 1, 1) := by decide +kernel
theorem dX5_awayNow_31 : decode cX5_awayNow 31 = .ok (.iinc 2 1, 3) := by decide +kernel
theorem dX5_awayNow_34 : decode cX5_awayNow 34 = .ok (.goto (-30), 3) := by decide +kernel
theorem dX5_awayNow_37 : decode cX5_awayNow 37 = .ok (.iload_n 1, 1) := by decide +kernel
theorem dX5_awayNow_38 : decode cX5_awayNow 38 = .ok (.ireturn, 1) := by decide +kernel
theorem dX5_layAway_0 : decode cX5_layAway 0 = .ok (.iconst 0, 1) := by decide +kernel
theorem dX5_layAway_1 : decode cX5_layAway 1 = .ok (.istore_n 2, 1) := by decide +kernel
theorem dX5_layAway_2 : decode cX5_layAway 2 = .ok (.iload_n 2, 1) := by decide +kernel
theorem dX5_layAway_3 : decode cX5_layAway 3 = .ok (.aload_n 0, 1) := by decide +kernel
theorem dX5_layAway_4 : decode cX5_layAway 4 = .ok (.getfield 96, 3) := by decide +kernel
theorem dX5_layAway_7 : decode cX5_layAway 7 = .ok (.if_icmp .ge 29, 3) := by decide +kernel
theorem dX5_layAway_10 : decode cX5_layAway 10 = .ok (.aload_n 0, 1) := by decide +kernel
theorem dX5_layAway_11 : decode cX5_layAway 11 = .ok (.getfield 40, 3) := by decide +kernel
theorem dX5_layAway_14 : decode cX5_layAway 14 = .ok (.iload_n 2, 1) := by decide +kernel
theorem dX5_layAway_15 : decode cX5_layAway 15 = .ok (.iload_n 1, 1) := by decide +kernel
theorem dX5_layAway_16 : decode cX5_layAway 16 = .ok (.iload_n 2, 1) := by decide +kernel
theorem dX5_layAway_17 : decode cX5_layAway 17 = .ok (.ishr, 1) := by decide +kernel
theorem dX5_layAway_18 : decode cX5_layAway 18 = .ok (.iconst 1, 1) := by decide +kernel
theorem dX5_layAway_19 : decode cX5_layAway 19 = .ok (.iand, 1) := by decide +kernel
theorem dX5_layAway_20 : decode cX5_layAway 20 = .ok (.iconst 1, 1) := by decide +kernel
theorem dX5_layAway_21 : decode cX5_layAway 21 = .ok (.if_icmp .ne 7, 3) := by decide +kernel
theorem dX5_layAway_24 : decode cX5_layAway 24 = .ok (.iconst 1, 1) := by decide +kernel
theorem dX5_layAway_25 : decode cX5_layAway 25 = .ok (.goto 4, 3) := by decide +kernel
theorem dX5_layAway_28 : decode cX5_layAway 28 = .ok (.iconst 0, 1) := by decide +kernel
theorem dX5_layAway_29 : decode cX5_layAway 29 = .ok (.bastore, 1) := by decide +kernel
theorem dX5_layAway_30 : decode cX5_layAway 30 = .ok (.iinc 2 1, 3) := by decide +kernel
theorem dX5_layAway_33 : decode cX5_layAway 33 = .ok (.goto (-31), 3) := by decide +kernel
theorem dX5_layAway_36 : decode cX5_layAway 36 = .ok (.return_, 1) := by decide +kernel
theorem dX5_warm_0 : decode cX5_warm 0 = .ok (.aload_n 0, 1) := by decide +kernel
theorem dX5_warm_1 : decode cX5_warm 1 = .ok (.iload_n 1, 1) := by decide +kernel
theorem dX5_warm_2 : decode cX5_warm 2 = .ok (.invokevirtual 158, 3) := by decide +kernel
theorem dX5_warm_5 : decode cX5_warm 5 = .ok (.ifCond .ne 5, 3) := by decide +kernel
theorem dX5_warm_8 : decode cX5_warm 8 = .ok (.iconst (-1), 1) := by decide +kernel
theorem dX5_warm_9 : decode cX5_warm 9 = .ok (.ireturn, 1) := by decide +kernel
theorem dX5_warm_10 : decode cX5_warm 10 = .ok (.aload_n 0, 1) := by decide +kernel
theorem dX5_warm_11 : decode cX5_warm 11 = .ok (.invokevirtual 210, 3) := by decide +kernel
theorem dX5_warm_14 : decode cX5_warm 14 = .ok (.istore_n 2, 1) := by decide +kernel
theorem dX5_warm_15 : decode cX5_warm 15 = .ok (.bipush (-9), 2) := by decide +kernel
theorem dX5_warm_17 : decode cX5_warm 17 = .ok (.istore_n 3, 1) := by decide +kernel
theorem dX5_warm_18 : decode cX5_warm 18 = .ok (.iconst 0, 1) := by decide +kernel
theorem dX5_warm_19 : decode cX5_warm 19 = .ok (.istore 4, 2) := by decide +kernel
theorem dX5_warm_21 : decode cX5_warm 21 = .ok (.iload 4, 2) := by decide +kernel
theorem dX5_warm_23 : decode cX5_warm 23 = .ok (.iconst 1, 1) := by decide +kernel
theorem dX5_warm_24 : decode cX5_warm 24 = .ok (.aload_n 0, 1) := by decide +kernel
theorem dX5_warm_25 : decode cX5_warm 25 = .ok (.getfield 96, 3) := by decide +kernel
theorem dX5_warm_28 : decode cX5_warm 28 = .ok (.ishl, 1) := by decide +kernel
theorem dX5_warm_29 : decode cX5_warm 29 = .ok (.if_icmp .ge 68, 3) := by decide +kernel
theorem dX5_warm_32 : decode cX5_warm 32 = .ok (.iload 4, 2) := by decide +kernel
theorem dX5_warm_34 : decode cX5_warm 34 = .ok (.iload_n 2, 1) := by decide +kernel
theorem dX5_warm_35 : decode cX5_warm 35 = .ok (.iconst 1, 1) := by decide +kernel
theorem dX5_warm_36 : decode cX5_warm 36 = .ok (.iload_n 1, 1) := by decide +kernel
theorem dX5_warm_37 : decode cX5_warm 37 = .ok (.ishl, 1) := by decide +kernel
theorem dX5_warm_38 : decode cX5_warm 38 = .ok (.ior, 1) := by decide +kernel
theorem dX5_warm_39 : decode cX5_warm 39 = .ok (.iand, 1) := by decide +kernel
theorem dX5_warm_40 : decode cX5_warm 40 = .ok (.ifCond .ne 51, 3) := by decide +kernel
theorem dX5_warm_43 : decode cX5_warm 43 = .ok (.iload_n 3, 1) := by decide +kernel
theorem dX5_warm_44 : decode cX5_warm 44 = .ok (.bipush (-9), 2) := by decide +kernel
theorem dX5_warm_46 : decode cX5_warm 46 = .ok (.if_icmp .eq 15, 3) := by decide +kernel
theorem dX5_warm_49 : decode cX5_warm 49 = .ok (.iload 4, 2) := by decide +kernel
theorem dX5_warm_51 : decode cX5_warm 51 = .ok (.invokestatic 213, 3) := by decide +kernel
theorem dX5_warm_54 : decode cX5_warm 54 = .ok (.iload_n 3, 1) := by decide +kernel
theorem dX5_warm_55 : decode cX5_warm 55 = .ok (.invokestatic 213, 3) := by decide +kernel
theorem dX5_warm_58 : decode cX5_warm 58 = .ok (.if_icmp .ge 33, 3) := by decide +kernel
theorem dX5_warm_61 : decode cX5_warm 61 = .ok (.aload_n 0, 1) := by decide +kernel
theorem dX5_warm_62 : decode cX5_warm 62 = .ok (.iload_n 2, 1) := by decide +kernel
theorem dX5_warm_63 : decode cX5_warm 63 = .ok (.iload 4, 2) := by decide +kernel
theorem dX5_warm_65 : decode cX5_warm 65 = .ok (.ior, 1) := by decide +kernel
theorem dX5_warm_66 : decode cX5_warm 66 = .ok (.invokevirtual 216, 3) := by decide +kernel
theorem dX5_warm_69 : decode cX5_warm 69 = .ok (.aload_n 0, 1) := by decide +kernel
theorem dX5_warm_70 : decode cX5_warm 70 = .ok (.bipush 9, 2) := by decide +kernel
theorem dX5_warm_72 : decode cX5_warm 72 = .ok (.invokevirtual 200, 3) := by decide +kernel
theorem dX5_warm_75 : decode cX5_warm 75 = .ok (.aload_n 0, 1) := by decide +kernel
theorem dX5_warm_76 : decode cX5_warm 76 = .ok (.getfield 65, 3) := by decide +kernel
theorem dX5_warm_79 : decode cX5_warm 79 = .ok (.iload_n 1, 1) := by decide +kernel
theorem dX5_warm_80 : decode cX5_warm 80 = .ok (.iaload, 1) := by decide +kernel
theorem dX5_warm_81 : decode cX5_warm 81 = .ok (.ifCond .ne 8, 3) := by decide +kernel
theorem dX5_warm_84 : decode cX5_warm 84 = .ok (.iload 4, 2) := by decide +kernel
theorem dX5_warm_86 : decode cX5_warm 86 = .ok (.goto 4, 3) := by decide +kernel
theorem dX5_warm_89 : decode cX5_warm 89 = .ok (.iload_n 3, 1) := by decide +kernel
theorem dX5_warm_90 : decode cX5_warm 90 = .ok (.istore_n 3, 1) := by decide +kernel
theorem dX5_warm_91 : decode cX5_warm 91 = .ok (.iinc 4 1, 3) := by decide +kernel
theorem dX5_warm_94 : decode cX5_warm 94 = .ok (.goto (-73), 3) := by decide +kernel
theorem dX5_warm_97 : decode cX5_warm 97 = .ok (.aload_n 0, 1) := by decide +kernel
theorem dX5_warm_98 : decode cX5_warm 98 = .ok (.iload_n 2, 1) := by decide +kernel
theorem dX5_warm_99 : decode cX5_warm 99 = .ok (.invokevirtual 216, 3) := by decide +kernel
theorem dX5_warm_102 : decode cX5_warm 102 = .ok (.iload_n 3, 1) := by decide +kernel
theorem dX5_warm_103 : decode cX5_warm 103 = .ok (.ireturn, 1) := by decide +kernel
theorem dX5_isWarmIn_0 : decode cX5_isWarmIn 0 = .ok (.aload_n 0, 1) := by decide +kernel
theorem dX5_isWarmIn_1 : decode cX5_isWarmIn 1 = .ok (.iconst 0, 1) := by decide +kernel
theorem dX5_isWarmIn_2 : decode cX5_isWarmIn 2 = .ok (.invokevirtual 200, 3) := by decide +kernel
theorem dX5_isWarmIn_5 : decode cX5_isWarmIn 5 = .ok (.iconst 0, 1) := by decide +kernel
theorem dX5_isWarmIn_6 : decode cX5_isWarmIn 6 = .ok (.istore_n 2, 1) := by decide +kernel
theorem dX5_isWarmIn_7 : decode cX5_isWarmIn 7 = .ok (.iload_n 2, 1) := by decide +kernel
theorem dX5_isWarmIn_8 : decode cX5_isWarmIn 8 = .ok (.aload_n 0, 1) := by decide +kernel
theorem dX5_isWarmIn_9 : decode cX5_isWarmIn 9 = .ok (.getfield 96, 3) := by decide +kernel
theorem dX5_isWarmIn_12 : decode cX5_isWarmIn 12 = .ok (.if_icmp .ge 30, 3) := by decide +kernel
theorem dX5_isWarmIn_15 : decode cX5_isWarmIn 15 = .ok (.aload_n 0, 1) := by decide +kernel
theorem dX5_isWarmIn_16 : decode cX5_isWarmIn 16 = .ok (.getfield 31, 3) := by decide +kernel
theorem dX5_isWarmIn_19 : decode cX5_isWarmIn 19 = .ok (.iload_n 2, 1) := by decide +kernel
theorem dX5_isWarmIn_20 : decode cX5_isWarmIn 20 = .ok (.iaload, 1) := by decide +kernel
theorem dX5_isWarmIn_21 : decode cX5_isWarmIn 21 = .ok (.iload_n 1, 1) := by decide +kernel
theorem dX5_isWarmIn_22 : decode cX5_isWarmIn 22 = .ok (.if_icmp .ne 14, 3) := by decide +kernel
theorem dX5_isWarmIn_25 : decode cX5_isWarmIn 25 = .ok (.aload_n 0, 1) := by decide +kernel
theorem dX5_isWarmIn_26 : decode cX5_isWarmIn 26 = .ok (.getfield 65, 3) := by decide +kernel
theorem dX5_isWarmIn_29 : decode cX5_isWarmIn 29 = .ok (.iload_n 2, 1) := by decide +kernel
theorem dX5_isWarmIn_30 : decode cX5_isWarmIn 30 = .ok (.iaload, 1) := by decide +kernel
theorem dX5_isWarmIn_31 : decode cX5_isWarmIn 31 = .ok (.ifCond .le 5, 3) := by decide +kernel
theorem dX5_isWarmIn_34 : decode cX5_isWarmIn 34 = .ok (.iconst 0, 1) := by decide +kernel
theorem dX5_isWarmIn_35 : decode cX5_isWarmIn 35 = .ok (.ireturn, 1) := by decide +kernel
theorem dX5_isWarmIn_36 : decode cX5_isWarmIn 36 = .ok (.iinc 2 1, 3) := by decide +kernel
theorem dX5_isWarmIn_39 : decode cX5_isWarmIn 39 = .ok (.goto (-32), 3) := by decide +kernel
theorem dX5_isWarmIn_42 : decode cX5_isWarmIn 42 = .ok (.iconst 1, 1) := by decide +kernel
theorem dX5_isWarmIn_43 : decode cX5_isWarmIn 43 = .ok (.ireturn, 1) := by decide +kernel
theorem dX5_logs_0 : decode cX5_logs 0 = .ok (.aload_n 0, 1) := by decide +kernel
theorem dX5_logs_1 : decode cX5_logs 1 = .ok (.iload_n 1, 1) := by decide +kernel
theorem dX5_logs_2 : decode cX5_logs 2 = .ok (.invokevirtual 155, 3) := by decide +kernel
theorem dX5_logs_5 : decode cX5_logs 5 = .ok (.ifCond .ne 5, 3) := by decide +kernel
theorem dX5_logs_8 : decode cX5_logs 8 = .ok (.iconst (-1), 1) := by decide +kernel
theorem dX5_logs_9 : decode cX5_logs 9 = .ok (.ireturn, 1) := by decide +kernel
theorem dX5_logs_10 : decode cX5_logs 10 = .ok (.aload_n 0, 1) := by decide +kernel
theorem dX5_logs_11 : decode cX5_logs 11 = .ok (.dup, 1) := by decide +kernel
theorem dX5_logs_12 : decode cX5_logs 12 = .ok (.getfield 132, 3) := by decide +kernel
theorem dX5_logs_15 : decode cX5_logs 15 = .ok (.iconst 1, 1) := by decide +kernel
theorem dX5_logs_16 : decode cX5_logs 16 = .ok (.iadd, 1) := by decide +kernel
theorem dX5_logs_17 : decode cX5_logs 17 = .ok (.putfield 132, 3) := by decide +kernel
theorem dX5_logs_20 : decode cX5_logs 20 = .ok (.bipush (-9), 2) := by decide +kernel
theorem dX5_logs_22 : decode cX5_logs 22 = .ok (.istore_n 2, 1) := by decide +kernel
theorem dX5_logs_23 : decode cX5_logs 23 = .ok (.iconst 0, 1) := by decide +kernel
theorem dX5_logs_24 : decode cX5_logs 24 = .ok (.istore_n 3, 1) := by decide +kernel
theorem dX5_logs_25 : decode cX5_logs 25 = .ok (.iload_n 3, 1) := by decide +kernel
theorem dX5_logs_26 : decode cX5_logs 26 = .ok (.bipush 99, 2) := by decide +kernel
theorem dX5_logs_28 : decode cX5_logs 28 = .ok (.if_icmp .gt 43, 3) := by decide +kernel
theorem dX5_logs_31 : decode cX5_logs 31 = .ok (.iload_n 2, 1) := by decide +kernel
theorem dX5_logs_32 : decode cX5_logs 32 = .ok (.bipush (-9), 2) := by decide +kernel
theorem dX5_logs_34 : decode cX5_logs 34 = .ok (.if_icmp .ne 37, 3) := by decide +kernel
theorem dX5_logs_37 : decode cX5_logs 37 = .ok (.aload_n 0, 1) := by decide +kernel
theorem dX5_logs_38 : decode cX5_logs 38 = .ok (.aload_n 0, 1) := by decide +kernel
theorem dX5_logs_39 : decode cX5_logs 39 = .ok (.getfield 132, 3) := by decide +kernel
theorem dX5_logs_42 : decode cX5_logs 42 = .ok (.iconst 1, 1) := by decide +kernel
theorem dX5_logs_43 : decode cX5_logs 43 = .ok (.isub, 1) := by decide +kernel
theorem dX5_logs_44 : decode cX5_logs 44 = .ok (.iload_n 1, 1) := by decide +kernel
theorem dX5_logs_45 : decode cX5_logs 45 = .ok (.iconst 0, 1) := by decide +kernel
theorem dX5_logs_46 : decode cX5_logs 46 = .ok (.iload_n 3, 1) := by decide +kernel
theorem dX5_logs_47 : decode cX5_logs 47 = .ok (.invokevirtual 167, 3) := by decide +kernel
theorem dX5_logs_50 : decode cX5_logs 50 = .ok (.aload_n 0, 1) := by decide +kernel
theorem dX5_logs_51 : decode cX5_logs 51 = .ok (.iload_n 1, 1) := by decide +kernel
theorem dX5_logs_52 : decode cX5_logs 52 = .ok (.invokevirtual 219, 3) := by decide +kernel
theorem dX5_logs_55 : decode cX5_logs 55 = .ok (.ifCond .eq 7, 3) := by decide +kernel
theorem dX5_logs_58 : decode cX5_logs 58 = .ok (.iload_n 3, 1) := by decide +kernel
theorem dX5_logs_59 : decode cX5_logs 59 = .ok (.goto 5, 3) := by decide +kernel
theorem dX5_logs_62 : decode cX5_logs 62 = .ok (.bipush (-9), 2) := by decide +kernel
theorem dX5_logs_64 : decode cX5_logs 64 = .ok (.istore_n 2, 1) := by decide +kernel
theorem dX5_logs_65 : decode cX5_logs 65 = .ok (.iinc 3 1, 3) := by decide +kernel
theorem dX5_logs_68 : decode cX5_logs 68 = .ok (.goto (-43), 3) := by decide +kernel
theorem dX5_logs_71 : decode cX5_logs 71 = .ok (.aload_n 0, 1) := by decide +kernel
theorem dX5_logs_72 : decode cX5_logs 72 = .ok (.dup, 1) := by decide +kernel
theorem dX5_logs_73 : decode cX5_logs 73 = .ok (.getfield 132, 3) := by decide +kernel
theorem dX5_logs_76 : decode cX5_logs 76 = .ok (.iconst 1, 1) := by decide +kernel
theorem dX5_logs_77 : decode cX5_logs 77 = .ok (.isub, 1) := by decide +kernel
theorem dX5_logs_78 : decode cX5_logs 78 = .ok (.putfield 132, 3) := by decide +kernel
theorem dX5_logs_81 : decode cX5_logs 81 = .ok (.iload_n 2, 1) := by decide +kernel
theorem dX5_logs_82 : decode cX5_logs 82 = .ok (.ireturn, 1) := by decide +kernel
theorem dX5_allWear_0 : decode cX5_allWear 0 = .ok (.aload_n 0, 1) := by decide +kernel
theorem dX5_allWear_1 : decode cX5_allWear 1 = .ok (.iload_n 1, 1) := by decide +kernel
theorem dX5_allWear_2 : decode cX5_allWear 2 = .ok (.invokevirtual 200, 3) := by decide +kernel
theorem dX5_allWear_5 : decode cX5_allWear 5 = .ok (.iconst 0, 1) := by decide +kernel
theorem dX5_allWear_6 : decode cX5_allWear 6 = .ok (.istore_n 2, 1) := by decide +kernel
theorem dX5_allWear_7 : decode cX5_allWear 7 = .ok (.iconst 0, 1) := by decide +kernel
theorem dX5_allWear_8 : decode cX5_allWear 8 = .ok (.istore_n 3, 1) := by decide +kernel
theorem dX5_allWear_9 : decode cX5_allWear 9 = .ok (.iload_n 3, 1) := by decide +kernel
theorem dX5_allWear_10 : decode cX5_allWear 10 = .ok (.aload_n 0, 1) := by decide +kernel
theorem dX5_allWear_11 : decode cX5_allWear 11 = .ok (.getfield 93, 3) := by decide +kernel
theorem dX5_allWear_14 : decode cX5_allWear 14 = .ok (.if_icmp .ge 18, 3) := by decide +kernel
theorem dX5_allWear_17 : decode cX5_allWear 17 = .ok (.iload_n 2, 1) := by decide +kernel
theorem dX5_allWear_18 : decode cX5_allWear 18 = .ok (.aload_n 0, 1) := by decide +kernel
theorem dX5_allWear_19 : decode cX5_allWear 19 = .ok (.getfield 62, 3) := by decide +kernel
theorem dX5_allWear_22 : decode cX5_allWear 22 = .ok (.iload_n 3, 1) := by decide +kernel
theorem dX5_allWear_23 : decode cX5_allWear 23 = .ok (.iaload, 1) := by decide +kernel
theorem dX5_allWear_24 : decode cX5_allWear 24 = .ok (.iadd, 1) := by decide +kernel
theorem dX5_allWear_25 : decode cX5_allWear 25 = .ok (.istore_n 2, 1) := by decide +kernel
theorem dX5_allWear_26 : decode cX5_allWear 26 = .ok (.iinc 3 1, 3) := by decide +kernel
theorem dX5_allWear_29 : decode cX5_allWear 29 = .ok (.goto (-20), 3) := by decide +kernel
theorem dX5_allWear_32 : decode cX5_allWear 32 = .ok (.iload_n 2, 1) := by decide +kernel
theorem dX5_allWear_33 : decode cX5_allWear 33 = .ok (.ireturn, 1) := by decide +kernel
theorem dX5_lessWear_0 : decode cX5_lessWear 0 = .ok (.aload_n 0, 1) := by decide +kernel
theorem dX5_lessWear_1 : decode cX5_lessWear 1 = .ok (.iload_n 2, 1) := by decide +kernel
theorem dX5_lessWear_2 : decode cX5_lessWear 2 = .ok (.invokevirtual 222, 3) := by decide +kernel
theorem dX5_lessWear_5 : decode cX5_lessWear 5 = .ok (.istore_n 3, 1) := by decide +kernel
theorem dX5_lessWear_6 : decode cX5_lessWear 6 = .ok (.aload_n 0, 1) := by decide +kernel
theorem dX5_lessWear_7 : decode cX5_lessWear 7 = .ok (.getfield 40, 3) := by decide +kernel
theorem dX5_lessWear_10 : decode cX5_lessWear 10 = .ok (.iload_n 1, 1) := by decide +kernel
theorem dX5_lessWear_11 : decode cX5_lessWear 11 = .ok (.baload, 1) := by decide +kernel
theorem dX5_lessWear_12 : decode cX5_lessWear 12 = .ok (.istore 4, 2) := by decide +kernel
theorem dX5_lessWear_14 : decode cX5_lessWear 14 = .ok (.aload_n 0, 1) := by decide +kernel
theorem dX5_lessWear_15 : decode cX5_lessWear 15 = .ok (.getfield 40, 3) := by decide +kernel
theorem dX5_lessWear_18 : decode cX5_lessWear 18 = .ok (.iload_n 1, 1) := by decide +kernel
theorem dX5_lessWear_19 : decode cX5_lessWear 19 = .ok (.iconst 1, 1) := by decide +kernel
theorem dX5_lessWear_20 : decode cX5_lessWear 20 = .ok (.bastore, 1) := by decide +kernel
theorem dX5_lessWear_21 : decode cX5_lessWear 21 = .ok (.aload_n 0, 1) := by decide +kernel
theorem dX5_lessWear_22 : decode cX5_lessWear 22 = .ok (.iload_n 2, 1) := by decide +kernel
theorem dX5_lessWear_23 : decode cX5_lessWear 23 = .ok (.invokevirtual 222, 3) := by decide +kernel
theorem dX5_lessWear_26 : decode cX5_lessWear 26 = .ok (.istore 5, 2) := by decide +kernel
theorem dX5_lessWear_28 : decode cX5_lessWear 28 = .ok (.aload_n 0, 1) := by decide +kernel
theorem dX5_lessWear_29 : decode cX5_lessWear 29 = .ok (.getfield 40, 3) := by decide +kernel
theorem dX5_lessWear_32 : decode cX5_lessWear 32 = .ok (.iload_n 1, 1) := by decide +kernel
theorem dX5_lessWear_33 : decode cX5_lessWear 33 = .ok (.iload 4, 2) := by decide +kernel
theorem dX5_lessWear_35 : decode cX5_lessWear 35 = .ok (.bastore, 1) := by decide +kernel
theorem dX5_lessWear_36 : decode cX5_lessWear 36 = .ok (.iload_n 3, 1) := by decide +kernel
theorem dX5_lessWear_37 : decode cX5_lessWear 37 = .ok (.iload 5, 2) := by decide +kernel
theorem dX5_lessWear_39 : decode cX5_lessWear 39 = .ok (.if_icmp .le 10, 3) := by decide +kernel
theorem dX5_lessWear_42 : decode cX5_lessWear 42 = .ok (.iload_n 3, 1) := by decide +kernel
theorem dX5_lessWear_43 : decode cX5_lessWear 43 = .ok (.iload 5, 2) := by decide +kernel
theorem dX5_lessWear_45 : decode cX5_lessWear 45 = .ok (.isub, 1) := by decide +kernel
theorem dX5_lessWear_46 : decode cX5_lessWear 46 = .ok (.goto 4, 3) := by decide +kernel
theorem dX5_lessWear_49 : decode cX5_lessWear 49 = .ok (.iconst 0, 1) := by decide +kernel
theorem dX5_lessWear_50 : decode cX5_lessWear 50 = .ok (.ireturn, 1) := by decide +kernel
theorem dX5_inLeastTerms_0 : decode cX5_inLeastTerms 0 = .ok (.lload_n 0, 1) := by decide +kernel
theorem dX5_inLeastTerms_1 : decode cX5_inLeastTerms 1 = .ok (.lstore 5, 2) := by decide +kernel
theorem dX5_inLeastTerms_3 : decode cX5_inLeastTerms 3 = .ok (.lload_n 2, 1) := by decide +kernel
theorem dX5_inLeastTerms_4 : decode cX5_inLeastTerms 4 = .ok (.lstore 7, 2) := by decide +kernel
theorem dX5_inLeastTerms_6 : decode cX5_inLeastTerms 6 = .ok (.lload 7, 2) := by decide +kernel
theorem dX5_inLeastTerms_8 : decode cX5_inLeastTerms 8 = .ok (.lconst 0, 1) := by decide +kernel
theorem dX5_inLeastTerms_9 : decode cX5_inLeastTerms 9 = .ok (.lcmp, 1) := by decide +kernel
theorem dX5_inLeastTerms_10 : decode cX5_inLeastTerms 10 = .ok (.ifCond .eq 21, 3) := by decide +kernel
theorem dX5_inLeastTerms_13 : decode cX5_inLeastTerms 13 = .ok (.lload 5, 2) := by decide +kernel
theorem dX5_inLeastTerms_15 : decode cX5_inLeastTerms 15 = .ok (.lload 7, 2) := by decide +kernel
theorem dX5_inLeastTerms_17 : decode cX5_inLeastTerms 17 = .ok (.lrem, 1) := by decide +kernel
theorem dX5_inLeastTerms_18 : decode cX5_inLeastTerms 18 = .ok (.lstore 9, 2) := by decide +kernel
theorem dX5_inLeastTerms_20 : decode cX5_inLeastTerms 20 = .ok (.lload 7, 2) := by decide +kernel
theorem dX5_inLeastTerms_22 : decode cX5_inLeastTerms 22 = .ok (.lstore 5, 2) := by decide +kernel
theorem dX5_inLeastTerms_24 : decode cX5_inLeastTerms 24 = .ok (.lload 9, 2) := by decide +kernel
theorem dX5_inLeastTerms_26 : decode cX5_inLeastTerms 26 = .ok (.lstore 7, 2) := by decide +kernel
theorem dX5_inLeastTerms_28 : decode cX5_inLeastTerms 28 = .ok (.goto (-22), 3) := by decide +kernel
theorem dX5_inLeastTerms_31 : decode cX5_inLeastTerms 31 = .ok (.iload 4, 2) := by decide +kernel
theorem dX5_inLeastTerms_33 : decode cX5_inLeastTerms 33 = .ok (.ifCond .ne 10, 3) := by decide +kernel
theorem dX5_inLeastTerms_36 : decode cX5_inLeastTerms 36 = .ok (.lload_n 0, 1) := by decide +kernel
theorem dX5_inLeastTerms_37 : decode cX5_inLeastTerms 37 = .ok (.lload 5, 2) := by decide +kernel
theorem dX5_inLeastTerms_39 : decode cX5_inLeastTerms 39 = .ok (.ldiv, 1) := by decide +kernel
theorem dX5_inLeastTerms_40 : decode cX5_inLeastTerms 40 = .ok (.goto 7, 3) := by decide +kernel
theorem dX5_inLeastTerms_43 : decode cX5_inLeastTerms 43 = .ok (.lload_n 2, 1) := by decide +kernel
theorem dX5_inLeastTerms_44 : decode cX5_inLeastTerms 44 = .ok (.lload 5, 2) := by decide +kernel
theorem dX5_inLeastTerms_46 : decode cX5_inLeastTerms 46 = .ok (.ldiv, 1) := by decide +kernel
theorem dX5_inLeastTerms_47 : decode cX5_inLeastTerms 47 = .ok (.lreturn, 1) := by decide +kernel
theorem dX5_pays_0 : decode cX5_pays 0 = .ok (.aload_n 0, 1) := by decide +kernel
theorem dX5_pays_1 : decode cX5_pays 1 = .ok (.iload_n 1, 1) := by decide +kernel
theorem dX5_pays_2 : decode cX5_pays 2 = .ok (.invokevirtual 158, 3) := by decide +kernel
theorem dX5_pays_5 : decode cX5_pays 5 = .ok (.ifCond .eq 19, 3) := by decide +kernel
theorem dX5_pays_8 : decode cX5_pays 8 = .ok (.iload_n 2, 1) := by decide +kernel
theorem dX5_pays_9 : decode cX5_pays 9 = .ok (.invokestatic 164, 3) := by decide +kernel
theorem dX5_pays_12 : decode cX5_pays 12 = .ok (.ifCond .eq 12, 3) := by decide +kernel
theorem dX5_pays_15 : decode cX5_pays 15 = .ok (.iload_n 3, 1) := by decide +kernel
theorem dX5_pays_16 : decode cX5_pays 16 = .ok (.iconst 0, 1) := by decide +kernel
theorem dX5_pays_17 : decode cX5_pays 17 = .ok (.iconst 1, 1) := by decide +kernel
theorem dX5_pays_18 : decode cX5_pays 18 = .ok (.invokestatic 89, 3) := by decide +kernel
theorem dX5_pays_21 : decode cX5_pays 21 = .ok (.ifCond .ne 7, 3) := by decide +kernel
theorem dX5_pays_24 : decode cX5_pays 24 = .ok (.ldc2_w 87, 3) := by decide +kernel
theorem dX5_pays_27 : decode cX5_pays 27 = .ok (.lreturn, 1) := by decide +kernel
theorem dX5_pays_28 : decode cX5_pays 28 = .ok (.lconst 0, 1) := by decide +kernel
theorem dX5_pays_29 : decode cX5_pays 29 = .ok (.lstore 4, 2) := by decide +kernel
theorem dX5_pays_31 : decode cX5_pays 31 = .ok (.iconst 0, 1) := by decide +kernel
theorem dX5_pays_32 : decode cX5_pays 32 = .ok (.istore 6, 2) := by decide +kernel
theorem dX5_pays_34 : decode cX5_pays 34 = .ok (.iload 6, 2) := by decide +kernel
theorem dX5_pays_36 : decode cX5_pays 36 = .ok (.aload_n 0, 1) := by decide +kernel
theorem dX5_pays_37 : decode cX5_pays 37 = .ok (.getfield 96, 3) := by decide +kernel
theorem dX5_pays_40 : decode cX5_pays 40 = .ok (.if_icmp .ge 22, 3) := by decide +kernel
theorem dX5_pays_43 : decode cX5_pays 43 = .ok (.lload 4, 2) := by decide +kernel
theorem dX5_pays_45 : decode cX5_pays 45 = .ok (.aload_n 0, 1) := by decide +kernel
theorem dX5_pays_46 : decode cX5_pays 46 = .ok (.iload 6, 2) := by decide +kernel
theorem dX5_pays_48 : decode cX5_pays 48 = .ok (.iload_n 2, 1) := by decide +kernel
theorem dX5_pays_49 : decode cX5_pays 49 = .ok (.invokevirtual 225, 3) := by decide +kernel
theorem dX5_pays_52 : decode cX5_pays 52 = .ok (.i2l, 1) := by decide +kernel
theorem dX5_pays_53 : decode cX5_pays 53 = .ok (.ladd, 1) := by decide +kernel
theorem dX5_pays_54 : decode cX5_pays 54 = .ok (.lstore 4, 2) := by decide +kernel
theorem dX5_pays_56 : decode cX5_pays 56 = .ok (.iinc 6 1, 3) := by decide +kernel
theorem dX5_pays_59 : decode cX5_pays 59 = .ok (.goto (-25), 3) := by decide +kernel
theorem dX5_pays_62 : decode cX5_pays 62 = .ok (.lload 4, 2) := by decide +kernel
theorem dX5_pays_64 : decode cX5_pays 64 = .ok (.lconst 0, 1) := by decide +kernel
theorem dX5_pays_65 : decode cX5_pays 65 = .ok (.lcmp, 1) := by decide +kernel
theorem dX5_pays_66 : decode cX5_pays 66 = .ok (.ifCond .ne 8, 3) := by decide +kernel
theorem dX5_pays_69 : decode cX5_pays 69 = .ok (.iload_n 3, 1) := by decide +kernel
theorem dX5_pays_70 : decode cX5_pays 70 = .ok (.i2l, 1) := by decide +kernel
theorem dX5_pays_71 : decode cX5_pays 71 = .ok (.goto 16, 3) := by decide +kernel
theorem dX5_pays_74 : decode cX5_pays 74 = .ok (.aload_n 0, 1) := by decide +kernel
theorem dX5_pays_75 : decode cX5_pays 75 = .ok (.iload_n 1, 1) := by decide +kernel
theorem dX5_pays_76 : decode cX5_pays 76 = .ok (.iload_n 2, 1) := by decide +kernel
theorem dX5_pays_77 : decode cX5_pays 77 = .ok (.invokevirtual 225, 3) := by decide +kernel
theorem dX5_pays_80 : decode cX5_pays 80 = .ok (.i2l, 1) := by decide +kernel
theorem dX5_pays_81 : decode cX5_pays 81 = .ok (.lload 4, 2) := by decide +kernel
theorem dX5_pays_83 : decode cX5_pays 83 = .ok (.iload_n 3, 1) := by decide +kernel
theorem dX5_pays_84 : decode cX5_pays 84 = .ok (.invokestatic 229, 3) := by decide +kernel
theorem dX5_pays_87 : decode cX5_pays 87 = .ok (.lreturn, 1) := by decide +kernel
theorem dX5_timeOf_0 : decode cX5_timeOf 0 = .ok (.iload_n 1, 1) := by decide +kernel
theorem dX5_timeOf_1 : decode cX5_timeOf 1 = .ok (.ifCond .ne 10, 3) := by decide +kernel
theorem dX5_timeOf_4 : decode cX5_timeOf 4 = .ok (.aload_n 0, 1) := by decide +kernel
theorem dX5_timeOf_5 : decode cX5_timeOf 5 = .ok (.getfield 123, 3) := by decide +kernel
theorem dX5_timeOf_8 : decode cX5_timeOf 8 = .ok (.goto 10, 3) := by decide +kernel
theorem dX5_timeOf_11 : decode cX5_timeOf 11 = .ok (.bipush 14, 2) := by decide +kernel
theorem dX5_timeOf_13 : decode cX5_timeOf 13 = .ok (.aload_n 0, 1) := by decide +kernel
theorem dX5_timeOf_14 : decode cX5_timeOf 14 = .ok (.getfield 123, 3) := by decide +kernel
theorem dX5_timeOf_17 : decode cX5_timeOf 17 = .ok (.isub, 1) := by decide +kernel
theorem dX5_timeOf_18 : decode cX5_timeOf 18 = .ok (.ireturn, 1) := by decide +kernel
theorem dX5_halvesOf_0 : decode cX5_halvesOf 0 = .ok (.iload_n 1, 1) := by decide +kernel
theorem dX5_halvesOf_1 : decode cX5_halvesOf 1 = .ok (.ifCond .ne 7, 3) := by decide +kernel
theorem dX5_halvesOf_4 : decode cX5_halvesOf 4 = .ok (.iconst 0, 1) := by decide +kernel
theorem dX5_halvesOf_5 : decode cX5_halvesOf 5 = .ok (.goto 7, 3) := by decide +kernel
theorem dX5_halvesOf_8 : decode cX5_halvesOf 8 = .ok (.aload_n 0, 1) := by decide +kernel
theorem dX5_halvesOf_9 : decode cX5_halvesOf 9 = .ok (.getfield 123, 3) := by decide +kernel
theorem dX5_halvesOf_12 : decode cX5_halvesOf 12 = .ok (.istore_n 3, 1) := by decide +kernel
theorem dX5_halvesOf_13 : decode cX5_halvesOf 13 = .ok (.aload_n 0, 1) := by decide +kernel
theorem dX5_halvesOf_14 : decode cX5_halvesOf 14 = .ok (.iconst 1, 1) := by decide +kernel
theorem dX5_halvesOf_15 : decode cX5_halvesOf 15 = .ok (.iload_n 1, 1) := by decide +kernel
theorem dX5_halvesOf_16 : decode cX5_halvesOf 16 = .ok (.isub, 1) := by decide +kernel
theorem dX5_halvesOf_17 : decode cX5_halvesOf 17 = .ok (.invokevirtual 233, 3) := by decide +kernel
theorem dX5_halvesOf_20 : decode cX5_halvesOf 20 = .ok (.istore 4, 2) := by decide +kernel
theorem dX5_halvesOf_22 : decode cX5_halvesOf 22 = .ok (.aload_n 0, 1) := by decide +kernel
theorem dX5_halvesOf_23 : decode cX5_halvesOf 23 = .ok (.iload_n 1, 1) := by decide +kernel
theorem dX5_halvesOf_24 : decode cX5_halvesOf 24 = .ok (.invokevirtual 233, 3) := by decide +kernel
theorem dX5_halvesOf_27 : decode cX5_halvesOf 27 = .ok (.iload_n 2, 1) := by decide +kernel
theorem dX5_halvesOf_28 : decode cX5_halvesOf 28 = .ok (.iload 4, 2) := by decide +kernel
theorem dX5_halvesOf_30 : decode cX5_halvesOf 30 = .ok (.if_icmp .le 8, 3) := by decide +kernel
theorem dX5_halvesOf_33 : decode cX5_halvesOf 33 = .ok (.iload 4, 2) := by decide +kernel
theorem dX5_halvesOf_35 : decode cX5_halvesOf 35 = .ok (.goto 4, 3) := by decide +kernel
theorem dX5_halvesOf_38 : decode cX5_halvesOf 38 = .ok (.iload_n 2, 1) := by decide +kernel
theorem dX5_halvesOf_39 : decode cX5_halvesOf 39 = .ok (.iadd, 1) := by decide +kernel
theorem dX5_halvesOf_40 : decode cX5_halvesOf 40 = .ok (.istore 5, 2) := by decide +kernel
theorem dX5_halvesOf_42 : decode cX5_halvesOf 42 = .ok (.iconst 0, 1) := by decide +kernel
theorem dX5_halvesOf_43 : decode cX5_halvesOf 43 = .ok (.istore 6, 2) := by decide +kernel
theorem dX5_halvesOf_45 : decode cX5_halvesOf 45 = .ok (.iconst 0, 1) := by decide +kernel
theorem dX5_halvesOf_46 : decode cX5_halvesOf 46 = .ok (.istore 7, 2) := by decide +kernel
theorem dX5_halvesOf_48 : decode cX5_halvesOf 48 = .ok (.iload 7, 2) := by decide +kernel
theorem dX5_halvesOf_50 : decode cX5_halvesOf 50 = .ok (.iload 5, 2) := by decide +kernel
theorem dX5_halvesOf_52 : decode cX5_halvesOf 52 = .ok (.if_icmp .ge 23, 3) := by decide +kernel
theorem dX5_halvesOf_55 : decode cX5_halvesOf 55 = .ok (.iload 6, 2) := by decide +kernel
theorem dX5_halvesOf_57 : decode cX5_halvesOf 57 = .ok (.iconst 1, 1) := by decide +kernel
theorem dX5_halvesOf_58 : decode cX5_halvesOf 58 = .ok (.iload_n 3, 1) := by decide +kernel
theorem dX5_halvesOf_59 : decode cX5_halvesOf 59 = .ok (.iload 7, 2) := by decide +kernel
theorem dX5_halvesOf_61 : decode cX5_halvesOf 61 = .ok (.iadd, 1) := by decide +kernel
theorem dX5_halvesOf_62 : decode cX5_halvesOf 62 = .ok (.bipush 14, 2) := by decide +kernel
theorem dX5_halvesOf_64 : decode cX5_halvesOf 64 = .ok (.irem, 1) := by decide +kernel
theorem dX5_halvesOf_65 : decode cX5_halvesOf 65 = .ok (.ishl, 1) := by decide +kernel
theorem dX5_halvesOf_66 : decode cX5_halvesOf 66 = .ok (.ior, 1) := by decide +kernel
theorem dX5_halvesOf_67 : decode cX5_halvesOf 67 = .ok (.istore 6, 2) := by decide +kernel
theorem dX5_halvesOf_69 : decode cX5_halvesOf 69 = .ok (.iinc 7 1, 3) := by decide +kernel
theorem dX5_halvesOf_72 : decode cX5_halvesOf 72 = .ok (.goto (-24), 3) := by decide +kernel
theorem dX5_halvesOf_75 : decode cX5_halvesOf 75 = .ok (.iload 6, 2) := by decide +kernel
theorem dX5_halvesOf_77 : decode cX5_halvesOf 77 = .ok (.ireturn, 1) := by decide +kernel
theorem dX5_together_0 : decode cX5_together 0 = .ok (.aload_n 0, 1) := by decide +kernel
theorem dX5_together_1 : decode cX5_together 1 = .ok (.iload_n 1, 1) := by decide +kernel
theorem dX5_together_2 : decode cX5_together 2 = .ok (.invokevirtual 158, 3) := by decide +kernel
theorem dX5_together_5 : decode cX5_together 5 = .ok (.ifCond .eq 16, 3) := by decide +kernel
theorem dX5_together_8 : decode cX5_together 8 = .ok (.aload_n 0, 1) := by decide +kernel
theorem dX5_together_9 : decode cX5_together 9 = .ok (.iload_n 2, 1) := by decide +kernel
theorem dX5_together_10 : decode cX5_together 10 = .ok (.invokevirtual 158, 3) := by decide +kernel
theorem dX5_together_13 : decode cX5_together 13 = .ok (.ifCond .eq 8, 3) := by decide +kernel
theorem dX5_together_16 : decode cX5_together 16 = .ok (.iload_n 1, 1) := by decide +kernel
theorem dX5_together_17 : decode cX5_together 17 = .ok (.iload_n 2, 1) := by decide +kernel
theorem dX5_together_18 : decode cX5_together 18 = .ok (.if_icmp .ne 5, 3) := by decide +kernel
theorem dX5_together_21 : decode cX5_together 21 = .ok (.iconst (-1), 1) := by decide +kernel
theorem dX5_together_22 : decode cX5_together 22 = .ok (.ireturn, 1) := by decide +kernel
theorem dX5_together_23 : decode cX5_together 23 = .ok (.iload_n 3, 1) := by decide +kernel
theorem dX5_together_24 : decode cX5_together 24 = .ok (.iconst 0, 1) := by decide +kernel
theorem dX5_together_25 : decode cX5_together 25 = .ok (.bipush 13, 2) := by decide +kernel
theorem dX5_together_27 : decode cX5_together 27 = .ok (.invokestatic 89, 3) := by decide +kernel
theorem dX5_together_30 : decode cX5_together 30 = .ok (.ifCond .ne 6, 3) := by decide +kernel
theorem dX5_together_33 : decode cX5_together 33 = .ok (.bipush (-2), 2) := by decide +kernel
theorem dX5_together_35 : decode cX5_together 35 = .ok (.ireturn, 1) := by decide +kernel
theorem dX5_together_36 : decode cX5_together 36 = .ok (.aload_n 0, 1) := by decide +kernel
theorem dX5_together_37 : decode cX5_together 37 = .ok (.getfield 31, 3) := by decide +kernel
theorem dX5_together_40 : decode cX5_together 40 = .ok (.iload_n 1, 1) := by decide +kernel
theorem dX5_together_41 : decode cX5_together 41 = .ok (.iaload, 1) := by decide +kernel
theorem dX5_together_42 : decode cX5_together 42 = .ok (.aload_n 0, 1) := by decide +kernel
theorem dX5_together_43 : decode cX5_together 43 = .ok (.getfield 31, 3) := by decide +kernel
theorem dX5_together_46 : decode cX5_together 46 = .ok (.iload_n 2, 1) := by decide +kernel
theorem dX5_together_47 : decode cX5_together 47 = .ok (.iaload, 1) := by decide +kernel
theorem dX5_together_48 : decode cX5_together 48 = .ok (.if_icmp .ne 32, 3) := by decide +kernel
theorem dX5_together_51 : decode cX5_together 51 = .ok (.aload_n 0, 1) := by decide +kernel
theorem dX5_together_52 : decode cX5_together 52 = .ok (.aload_n 0, 1) := by decide +kernel
theorem dX5_together_53 : decode cX5_together 53 = .ok (.getfield 28, 3) := by decide +kernel
theorem dX5_together_56 : decode cX5_together 56 = .ok (.iload_n 1, 1) := by decide +kernel
theorem dX5_together_57 : decode cX5_together 57 = .ok (.iaload, 1) := by decide +kernel
theorem dX5_together_58 : decode cX5_together 58 = .ok (.iload_n 3, 1) := by decide +kernel
theorem dX5_together_59 : decode cX5_together 59 = .ok (.invokevirtual 236, 3) := by decide +kernel
theorem dX5_together_62 : decode cX5_together 62 = .ok (.aload_n 0, 1) := by decide +kernel
theorem dX5_together_63 : decode cX5_together 63 = .ok (.aload_n 0, 1) := by decide +kernel
theorem dX5_together_64 : decode cX5_together 64 = .ok (.getfield 28, 3) := by decide +kernel
theorem dX5_together_67 : decode cX5_together 67 = .ok (.iload_n 2, 1) := by decide +kernel
theorem dX5_together_68 : decode cX5_together 68 = .ok (.iaload, 1) := by decide +kernel
theorem dX5_together_69 : decode cX5_together 69 = .ok (.iconst 0, 1) := by decide +kernel
theorem dX5_together_70 : decode cX5_together 70 = .ok (.invokevirtual 236, 3) := by decide +kernel
theorem dX5_together_73 : decode cX5_together 73 = .ok (.iand, 1) := by decide +kernel
theorem dX5_together_74 : decode cX5_together 74 = .ok (.invokestatic 213, 3) := by decide +kernel
theorem dX5_together_77 : decode cX5_together 77 = .ok (.goto 4, 3) := by decide +kernel
theorem dX5_together_80 : decode cX5_together 80 = .ok (.iconst 0, 1) := by decide +kernel
theorem dX5_together_81 : decode cX5_together 81 = .ok (.ireturn, 1) := by decide +kernel
theorem dX5_third_0 : decode cX5_third 0 = .ok (.aload_n 0, 1) := by decide +kernel
theorem dX5_third_1 : decode cX5_third 1 = .ok (.iload_n 1, 1) := by decide +kernel
theorem dX5_third_2 : decode cX5_third 2 = .ok (.invokevirtual 155, 3) := by decide +kernel
theorem dX5_third_5 : decode cX5_third 5 = .ok (.ifCond .ne 5, 3) := by decide +kernel
theorem dX5_third_8 : decode cX5_third 8 = .ok (.iconst (-1), 1) := by decide +kernel
theorem dX5_third_9 : decode cX5_third 9 = .ok (.ireturn, 1) := by decide +kernel
theorem dX5_third_10 : decode cX5_third 10 = .ok (.iconst 0, 1) := by decide +kernel
theorem dX5_third_11 : decode cX5_third 11 = .ok (.istore_n 2, 1) := by decide +kernel
theorem dX5_third_12 : decode cX5_third 12 = .ok (.iconst 0, 1) := by decide +kernel
theorem dX5_third_13 : decode cX5_third 13 = .ok (.istore_n 3, 1) := by decide +kernel
theorem dX5_third_14 : decode cX5_third 14 = .ok (.iload_n 3, 1) := by decide +kernel
theorem dX5_third_15 : decode cX5_third 15 = .ok (.aload_n 0, 1) := by decide +kernel
theorem dX5_third_16 : decode cX5_third 16 = .ok (.getfield 96, 3) := by decide +kernel
theorem dX5_third_19 : decode cX5_third 19 = .ok (.if_icmp .ge 46, 3) := by decide +kernel
theorem dX5_third_22 : decode cX5_third 22 = .ok (.iload_n 2, 1) := by decide +kernel
theorem dX5_third_23 : decode cX5_third 23 = .ok (.aload_n 0, 1) := by decide +kernel
theorem dX5_third_24 : decode cX5_third 24 = .ok (.getfield 31, 3) := by decide +kernel
theorem dX5_third_27 : decode cX5_third 27 = .ok (.iload_n 3, 1) := by decide +kernel
theorem dX5_third_28 : decode cX5_third 28 = .ok (.iaload, 1) := by decide +kernel
theorem dX5_third_29 : decode cX5_third 29 = .ok (.iload_n 1, 1) := by decide +kernel
theorem dX5_third_30 : decode cX5_third 30 = .ok (.if_icmp .ne 26, 3) := by decide +kernel
theorem dX5_third_33 : decode cX5_third 33 = .ok (.aload_n 0, 1) := by decide +kernel
theorem dX5_third_34 : decode cX5_third 34 = .ok (.getfield 40, 3) := by decide +kernel
theorem dX5_third_37 : decode cX5_third 37 = .ok (.iload_n 3, 1) := by decide +kernel
theorem dX5_third_38 : decode cX5_third 38 = .ok (.baload, 1) := by decide +kernel
theorem dX5_third_39 : decode cX5_third 39 = .ok (.ifCond .ne 17, 3) := by decide +kernel
theorem dX5_third_42 : decode cX5_third 42 = .ok (.aload_n 0, 1) := by decide +kernel
theorem dX5_third_43 : decode cX5_third 43 = .ok (.aload_n 0, 1) := by decide +kernel
theorem dX5_third_44 : decode cX5_third 44 = .ok (.getfield 28, 3) := by decide +kernel
theorem dX5_third_47 : decode cX5_third 47 = .ok (.iload_n 3, 1) := by decide +kernel
theorem dX5_third_48 : decode cX5_third 48 = .ok (.iaload, 1) := by decide +kernel
theorem dX5_third_49 : decode cX5_third 49 = .ok (.iconst 0, 1) := by decide +kernel
theorem dX5_third_50 : decode cX5_third 50 = .ok (.invokevirtual 236, 3) := by decide +kernel
theorem dX5_third_53 : decode cX5_third 53 = .ok (.goto 4, 3) := by decide +kernel
theorem dX5_third_56 : decode cX5_third 56 = .ok (.iconst 0, 1) := by decide +kernel
theorem dX5_third_57 : decode cX5_third 57 = .ok (.ior, 1) := by decide +kernel
theorem dX5_third_58 : decode cX5_third 58 = .ok (.istore_n 2, 1) := by decide +kernel
theorem dX5_third_59 : decode cX5_third 59 = .ok (.iinc 3 1, 3) := by decide +kernel
theorem dX5_third_62 : decode cX5_third 62 = .ok (.goto (-48), 3) := by decide +kernel
theorem dX5_third_65 : decode cX5_third 65 = .ok (.sipush 16383, 3) := by decide +kernel
theorem dX5_third_68 : decode cX5_third 68 = .ok (.iload_n 2, 1) := by decide +kernel
theorem dX5_third_69 : decode cX5_third 69 = .ok (.iconst (-1), 1) := by decide +kernel
theorem dX5_third_70 : decode cX5_third 70 = .ok (.ixor, 1) := by decide +kernel
theorem dX5_third_71 : decode cX5_third 71 = .ok (.iand, 1) := by decide +kernel
theorem dX5_third_72 : decode cX5_third 72 = .ok (.ireturn, 1) := by decide +kernel
theorem dX5_row_0 : decode cX5_row 0 = .ok (.aload_n 0, 1) := by decide +kernel
theorem dX5_row_1 : decode cX5_row 1 = .ok (.iconst 0, 1) := by decide +kernel
theorem dX5_row_2 : decode cX5_row 2 = .ok (.putfield 83, 3) := by decide +kernel
theorem dX5_row_5 : decode cX5_row 5 = .ok (.iload_n 1, 1) := by decide +kernel
theorem dX5_row_6 : decode cX5_row 6 = .ok (.invokestatic 102, 3) := by decide +kernel
theorem dX5_row_9 : decode cX5_row 9 = .ok (.ifCond .ne 5, 3) := by decide +kernel
theorem dX5_row_12 : decode cX5_row 12 = .ok (.iconst (-1), 1) := by decide +kernel
theorem dX5_row_13 : decode cX5_row 13 = .ok (.ireturn, 1) := by decide +kernel
theorem dX5_row_14 : decode cX5_row 14 = .ok (.iload_n 2, 1) := by decide +kernel
theorem dX5_row_15 : decode cX5_row 15 = .ok (.invokestatic 106, 3) := by decide +kernel
theorem dX5_row_18 : decode cX5_row 18 = .ok (.ifCond .ne 6, 3) := by decide +kernel
theorem dX5_row_21 : decode cX5_row 21 = .ok (.bipush (-2), 2) := by decide +kernel
theorem dX5_row_23 : decode cX5_row 23 = .ok (.ireturn, 1) := by decide +kernel
theorem dX5_row_24 : decode cX5_row 24 = .ok (.aload_n 0, 1) := by decide +kernel
theorem dX5_row_25 : decode cX5_row 25 = .ok (.iload_n 1, 1) := by decide +kernel
theorem dX5_row_26 : decode cX5_row 26 = .ok (.iload_n 2, 1) := by decide +kernel
theorem dX5_row_27 : decode cX5_row 27 = .ok (.iload_n 3, 1) := by decide +kernel
theorem dX5_row_28 : decode cX5_row 28 = .ok (.iload 4, 2) := by decide +kernel
theorem dX5_row_30 : decode cX5_row 30 = .ok (.invokevirtual 109, 3) := by decide +kernel
theorem dX5_row_33 : decode cX5_row 33 = .ok (.istore 5, 2) := by decide +kernel
theorem dX5_row_35 : decode cX5_row 35 = .ok (.iload 5, 2) := by decide +kernel
theorem dX5_row_37 : decode cX5_row 37 = .ok (.ifCond .eq 10, 3) := by decide +kernel
theorem dX5_row_40 : decode cX5_row 40 = .ok (.aload_n 0, 1) := by decide +kernel
theorem dX5_row_41 : decode cX5_row 41 = .ok (.iload 5, 2) := by decide +kernel
theorem dX5_row_43 : decode cX5_row 43 = .ok (.invokevirtual 113, 3) := by decide +kernel
theorem dX5_row_46 : decode cX5_row 46 = .ok (.ireturn, 1) := by decide +kernel
theorem dX5_row_47 : decode cX5_row 47 = .ok (.aload_n 0, 1) := by decide +kernel
theorem dX5_row_48 : decode cX5_row 48 = .ok (.getfield 96, 3) := by decide +kernel
theorem dX5_row_51 : decode cX5_row 51 = .ok (.ifCond .ne 6, 3) := by decide +kernel
theorem dX5_row_54 : decode cX5_row 54 = .ok (.bipush (-3), 2) := by decide +kernel
theorem dX5_row_56 : decode cX5_row 56 = .ok (.ireturn, 1) := by decide +kernel
theorem dX5_row_57 : decode cX5_row 57 = .ok (.iload 4, 2) := by decide +kernel
theorem dX5_row_59 : decode cX5_row 59 = .ok (.bipush 14, 2) := by decide +kernel
theorem dX5_row_61 : decode cX5_row 61 = .ok (.if_icmp .le 6, 3) := by decide +kernel
theorem dX5_row_64 : decode cX5_row 64 = .ok (.bipush (-2), 2) := by decide +kernel
theorem dX5_row_66 : decode cX5_row 66 = .ok (.ireturn, 1) := by decide +kernel
theorem dX5_row_67 : decode cX5_row 67 = .ok (.bipush 60, 2) := by decide +kernel
theorem dX5_row_69 : decode cX5_row 69 = .ok (.iload_n 1, 1) := by decide +kernel
theorem dX5_row_70 : decode cX5_row 70 = .ok (.imul, 1) := by decide +kernel
theorem dX5_row_71 : decode cX5_row 71 = .ok (.iload_n 3, 1) := by decide +kernel
theorem dX5_row_72 : decode cX5_row 72 = .ok (.iadd, 1) := by decide +kernel
theorem dX5_row_73 : decode cX5_row 73 = .ok (.istore 6, 2) := by decide +kernel
theorem dX5_row_75 : decode cX5_row 75 = .ok (.iconst 0, 1) := by decide +kernel
theorem dX5_row_76 : decode cX5_row 76 = .ok (.istore 7, 2) := by decide +kernel
theorem dX5_row_78 : decode cX5_row 78 = .ok (.iload 7, 2) := by decide +kernel
theorem dX5_row_80 : decode cX5_row 80 = .ok (.iload 4, 2) := by decide +kernel
theorem dX5_row_82 : decode cX5_row 82 = .ok (.if_icmp .ge 28, 3) := by decide +kernel
theorem dX5_row_85 : decode cX5_row 85 = .ok (.aload_n 0, 1) := by decide +kernel
theorem dX5_row_86 : decode cX5_row 86 = .ok (.aload_n 0, 1) := by decide +kernel
theorem dX5_row_87 : decode cX5_row 87 = .ok (.getfield 16, 3) := by decide +kernel
theorem dX5_row_90 : decode cX5_row 90 = .ok (.iload 6, 2) := by decide +kernel
theorem dX5_row_92 : decode cX5_row 92 = .ok (.iload 7, 2) := by decide +kernel
theorem dX5_row_94 : decode cX5_row 94 = .ok (.iadd, 1) := by decide +kernel
theorem dX5_row_95 : decode cX5_row 95 = .ok (.iaload, 1) := by decide +kernel
theorem dX5_row_96 : decode cX5_row 96 = .ok (.invokevirtual 158, 3) := by decide +kernel
theorem dX5_row_99 : decode cX5_row 99 = .ok (.ifCond .ne 5, 3) := by decide +kernel
theorem dX5_row_102 : decode cX5_row 102 = .ok (.iconst (-1), 1) := by decide +kernel
theorem dX5_row_103 : decode cX5_row 103 = .ok (.ireturn, 1) := by decide +kernel
theorem dX5_row_104 : decode cX5_row 104 = .ok (.iinc 7 1, 3) := by decide +kernel
theorem dX5_row_107 : decode cX5_row 107 = .ok (.goto (-29), 3) := by decide +kernel
theorem dX5_row_110 : decode cX5_row 110 = .ok (.iconst 0, 1) := by decide +kernel
theorem dX5_row_111 : decode cX5_row 111 = .ok (.istore 7, 2) := by decide +kernel
theorem dX5_row_113 : decode cX5_row 113 = .ok (.iload 7, 2) := by decide +kernel
theorem dX5_row_115 : decode cX5_row 115 = .ok (.iload 4, 2) := by decide +kernel
theorem dX5_row_117 : decode cX5_row 117 = .ok (.if_icmp .ge 51, 3) := by decide +kernel
theorem dX5_row_120 : decode cX5_row 120 = .ok (.aload_n 0, 1) := by decide +kernel
theorem dX5_row_121 : decode cX5_row 121 = .ok (.getfield 28, 3) := by decide +kernel
theorem dX5_row_124 : decode cX5_row 124 = .ok (.aload_n 0, 1) := by decide +kernel
theorem dX5_row_125 : decode cX5_row 125 = .ok (.getfield 16, 3) := by decide +kernel
theorem dX5_row_128 : decode cX5_row 128 = .ok (.iload 6, 2) := by decide +kernel
theorem dX5_row_130 : decode cX5_row 130 = .ok (.iload 7, 2) := by decide +kernel
theorem dX5_row_132 : decode cX5_row 132 = .ok (.iadd, 1) := by decide +kernel
theorem dX5_row_133 : decode cX5_row 133 = .ok (.iaload, 1) := by decide +kernel
theorem dX5_row_134 : decode cX5_row 134 = .ok (.iaload, 1) := by decide +kernel
theorem dX5_row_135 : decode cX5_row 135 = .ok (.aload_n 0, 1) := by decide +kernel
theorem dX5_row_136 : decode cX5_row 136 = .ok (.iload 7, 2) := by decide +kernel
theorem dX5_row_138 : decode cX5_row 138 = .ok (.invokevirtual 177, 3) := by decide +kernel
theorem dX5_row_141 : decode cX5_row 141 = .ok (.if_icmp .ne 27, 3) := by decide +kernel
theorem dX5_row_144 : decode cX5_row 144 = .ok (.aload_n 0, 1) := by decide +kernel
theorem dX5_row_145 : decode cX5_row 145 = .ok (.getfield 40, 3) := by decide +kernel
theorem dX5_row_148 : decode cX5_row 148 = .ok (.aload_n 0, 1) := by decide +kernel
theorem dX5_row_149 : decode cX5_row 149 = .ok (.getfield 16, 3) := by decide +kernel
theorem dX5_row_152 : decode cX5_row 152 = .ok (.iload 6, 2) := by decide +kernel
theorem dX5_row_154 : decode cX5_row 154 = .ok (.iload 7, 2) := by decide +kernel
theorem dX5_row_156 : decode cX5_row 156 = .ok (.iadd, 1) := by decide +kernel
theorem dX5_row_157 : decode cX5_row 157 = .ok (.iaload, 1) := by decide +kernel
theorem dX5_row_158 : decode cX5_row 158 = .ok (.baload, 1) := by decide +kernel
theorem dX5_row_159 : decode cX5_row 159 = .ok (.ifCond .ne 9, 3) := by decide +kernel
theorem dX5_row_162 : decode cX5_row 162 = .ok (.iinc 7 1, 3) := by decide +kernel
theorem dX5_row_165 : decode cX5_row 165 = .ok (.goto (-52), 3) := by decide +kernel
theorem dX5_row_168 : decode cX5_row 168 = .ok (.iload 7, 2) := by decide +kernel
theorem dX5_row_170 : decode cX5_row 170 = .ok (.ireturn, 1) := by decide +kernel
theorem dX5_reading_0 : decode cX5_reading 0 = .ok (.aload_n 0, 1) := by decide +kernel
theorem dX5_reading_1 : decode cX5_reading 1 = .ok (.iload_n 1, 1) := by decide +kernel
theorem dX5_reading_2 : decode cX5_reading 2 = .ok (.invokevirtual 155, 3) := by decide +kernel
theorem dX5_reading_5 : decode cX5_reading 5 = .ok (.ifCond .ne 5, 3) := by decide +kernel
theorem dX5_reading_8 : decode cX5_reading 8 = .ok (.iconst (-1), 1) := by decide +kernel
theorem dX5_reading_9 : decode cX5_reading 9 = .ok (.ireturn, 1) := by decide +kernel
theorem dX5_reading_10 : decode cX5_reading 10 = .ok (.iload_n 2, 1) := by decide +kernel
theorem dX5_reading_11 : decode cX5_reading 11 = .ok (.invokestatic 164, 3) := by decide +kernel
theorem dX5_reading_14 : decode cX5_reading 14 = .ok (.ifCond .eq 21, 3) := by decide +kernel
theorem dX5_reading_17 : decode cX5_reading 17 = .ok (.iload_n 3, 1) := by decide +kernel
theorem dX5_reading_18 : decode cX5_reading 18 = .ok (.invokestatic 197, 3) := by decide +kernel
theorem dX5_reading_21 : decode cX5_reading 21 = .ok (.ifCond .eq 14, 3) := by decide +kernel
theorem dX5_reading_24 : decode cX5_reading 24 = .ok (.iload 4, 2) := by decide +kernel
theorem dX5_reading_26 : decode cX5_reading 26 = .ok (.iconst 0, 1) := by decide +kernel
theorem dX5_reading_27 : decode cX5_reading 27 = .ok (.bipush 99, 2) := by decide +kernel
theorem dX5_reading_29 : decode cX5_reading 29 = .ok (.invokestatic 89, 3) := by decide +kernel
theorem dX5_reading_32 : decode cX5_reading 32 = .ok (.ifCond .ne 6, 3) := by decide +kernel
theorem dX5_reading_35 : decode cX5_reading 35 = .ok (.bipush (-2), 2) := by decide +kernel
theorem dX5_reading_37 : decode cX5_reading 37 = .ok (.ireturn, 1) := by decide +kernel
theorem dX5_reading_38 : decode cX5_reading 38 = .ok (.aload_n 0, 1) := by decide +kernel
theorem dX5_reading_39 : decode cX5_reading 39 = .ok (.getfield 135, 3) := by decide +kernel
theorem dX5_reading_42 : decode cX5_reading 42 = .ok (.bipush 8, 2) := by decide +kernel
theorem dX5_reading_44 : decode cX5_reading 44 = .ok (.if_icmp .ne 6, 3) := by decide +kernel
theorem dX5_reading_47 : decode cX5_reading 47 = .ok (.bipush (-4), 2) := by decide +kernel
theorem dX5_reading_49 : decode cX5_reading 49 = .ok (.ireturn, 1) := by decide +kernel
theorem dX5_reading_50 : decode cX5_reading 50 = .ok (.aload_n 0, 1) := by decide +kernel
theorem dX5_reading_51 : decode cX5_reading 51 = .ok (.getfield 71, 3) := by decide +kernel
theorem dX5_reading_54 : decode cX5_reading 54 = .ok (.aload_n 0, 1) := by decide +kernel
theorem dX5_reading_55 : decode cX5_reading 55 = .ok (.getfield 135, 3) := by decide +kernel
theorem dX5_reading_58 : decode cX5_reading 58 = .ok (.iload_n 1, 1) := by decide +kernel
theorem dX5_reading_59 : decode cX5_reading 59 = .ok (.iastore, 1) := by decide +kernel
theorem dX5_reading_60 : decode cX5_reading 60 = .ok (.aload_n 0, 1) := by decide +kernel
theorem dX5_reading_61 : decode cX5_reading 61 = .ok (.getfield 74, 3) := by decide +kernel
theorem dX5_reading_64 : decode cX5_reading 64 = .ok (.aload_n 0, 1) := by decide +kernel
theorem dX5_reading_65 : decode cX5_reading 65 = .ok (.getfield 135, 3) := by decide +kernel
theorem dX5_reading_68 : decode cX5_reading 68 = .ok (.iload_n 2, 1) := by decide +kernel
theorem dX5_reading_69 : decode cX5_reading 69 = .ok (.iastore, 1) := by decide +kernel
theorem dX5_reading_70 : decode cX5_reading 70 = .ok (.aload_n 0, 1) := by decide +kernel
theorem dX5_reading_71 : decode cX5_reading 71 = .ok (.getfield 77, 3) := by decide +kernel
theorem dX5_reading_74 : decode cX5_reading 74 = .ok (.aload_n 0, 1) := by decide +kernel
theorem dX5_reading_75 : decode cX5_reading 75 = .ok (.getfield 135, 3) := by decide +kernel
theorem dX5_reading_78 : decode cX5_reading 78 = .ok (.iload_n 3, 1) := by decide +kernel
theorem dX5_reading_79 : decode cX5_reading 79 = .ok (.iastore, 1) := by decide +kernel
theorem dX5_reading_80 : decode cX5_reading 80 = .ok (.aload_n 0, 1) := by decide +kernel
theorem dX5_reading_81 : decode cX5_reading 81 = .ok (.getfield 80, 3) := by decide +kernel
theorem dX5_reading_84 : decode cX5_reading 84 = .ok (.aload_n 0, 1) := by decide +kernel
theorem dX5_reading_85 : decode cX5_reading 85 = .ok (.getfield 135, 3) := by decide +kernel
theorem dX5_reading_88 : decode cX5_reading 88 = .ok (.iload 4, 2) := by decide +kernel
theorem dX5_reading_90 : decode cX5_reading 90 = .ok (.iastore, 1) := by decide +kernel
theorem dX5_reading_91 : decode cX5_reading 91 = .ok (.aload_n 0, 1) := by decide +kernel
theorem dX5_reading_92 : decode cX5_reading 92 = .ok (.dup, 1) := by decide +kernel
theorem dX5_reading_93 : decode cX5_reading 93 = .ok (.getfield 135, 3) := by decide +kernel
theorem dX5_reading_96 : decode cX5_reading 96 = .ok (.iconst 1, 1) := by decide +kernel
theorem dX5_reading_97 : decode cX5_reading 97 = .ok (.iadd, 1) := by decide +kernel
theorem dX5_reading_98 : decode cX5_reading 98 = .ok (.putfield 135, 3) := by decide +kernel
theorem dX5_reading_101 : decode cX5_reading 101 = .ok (.aload_n 0, 1) := by decide +kernel
theorem dX5_reading_102 : decode cX5_reading 102 = .ok (.getfield 135, 3) := by decide +kernel
theorem dX5_reading_105 : decode cX5_reading 105 = .ok (.iconst 1, 1) := by decide +kernel
theorem dX5_reading_106 : decode cX5_reading 106 = .ok (.isub, 1) := by decide +kernel
theorem dX5_reading_107 : decode cX5_reading 107 = .ok (.ireturn, 1) := by decide +kernel
theorem dX5_back_0 : decode cX5_back 0 = .ok (.iload_n 1, 1) := by decide +kernel
theorem dX5_back_1 : decode cX5_back 1 = .ok (.iconst 0, 1) := by decide +kernel
theorem dX5_back_2 : decode cX5_back 2 = .ok (.aload_n 0, 1) := by decide +kernel
theorem dX5_back_3 : decode cX5_back 3 = .ok (.getfield 135, 3) := by decide +kernel
theorem dX5_back_6 : decode cX5_back 6 = .ok (.invokestatic 89, 3) := by decide +kernel
theorem dX5_back_9 : decode cX5_back 9 = .ok (.ifCond .ne 6, 3) := by decide +kernel
theorem dX5_back_12 : decode cX5_back 12 = .ok (.bipush (-2), 2) := by decide +kernel
theorem dX5_back_14 : decode cX5_back 14 = .ok (.ireturn, 1) := by decide +kernel
theorem dX5_back_15 : decode cX5_back 15 = .ok (.aload_n 0, 1) := by decide +kernel
theorem dX5_back_16 : decode cX5_back 16 = .ok (.dup, 1) := by decide +kernel
theorem dX5_back_17 : decode cX5_back 17 = .ok (.getfield 135, 3) := by decide +kernel
theorem dX5_back_20 : decode cX5_back 20 = .ok (.iload_n 1, 1) := by decide +kernel
theorem dX5_back_21 : decode cX5_back 21 = .ok (.isub, 1) := by decide +kernel
theorem dX5_back_22 : decode cX5_back 22 = .ok (.putfield 135, 3) := by decide +kernel
theorem dX5_back_25 : decode cX5_back 25 = .ok (.aload_n 0, 1) := by decide +kernel
theorem dX5_back_26 : decode cX5_back 26 = .ok (.getfield 135, 3) := by decide +kernel
theorem dX5_back_29 : decode cX5_back 29 = .ok (.ireturn, 1) := by decide +kernel
theorem dX5_areSo_0 : decode cX5_areSo 0 = .ok (.iconst 0, 1) := by decide +kernel
theorem dX5_areSo_1 : decode cX5_areSo 1 = .ok (.istore_n 1, 1) := by decide +kernel
theorem dX5_areSo_2 : decode cX5_areSo 2 = .ok (.iload_n 1, 1) := by decide +kernel
theorem dX5_areSo_3 : decode cX5_areSo 3 = .ok (.aload_n 0, 1) := by decide +kernel
theorem dX5_areSo_4 : decode cX5_areSo 4 = .ok (.getfield 135, 3) := by decide +kernel
theorem dX5_areSo_7 : decode cX5_areSo 7 = .ok (.if_icmp .ge 47, 3) := by decide +kernel
theorem dX5_areSo_10 : decode cX5_areSo 10 = .ok (.aload_n 0, 1) := by decide +kernel
theorem dX5_areSo_11 : decode cX5_areSo 11 = .ok (.aload_n 0, 1) := by decide +kernel
theorem dX5_areSo_12 : decode cX5_areSo 12 = .ok (.getfield 74, 3) := by decide +kernel
theorem dX5_areSo_15 : decode cX5_areSo 15 = .ok (.iload_n 1, 1) := by decide +kernel
theorem dX5_areSo_16 : decode cX5_areSo 16 = .ok (.iaload, 1) := by decide +kernel
theorem dX5_areSo_17 : decode cX5_areSo 17 = .ok (.aload_n 0, 1) := by decide +kernel
theorem dX5_areSo_18 : decode cX5_areSo 18 = .ok (.getfield 77, 3) := by decide +kernel
theorem dX5_areSo_21 : decode cX5_areSo 21 = .ok (.iload_n 1, 1) := by decide +kernel
theorem dX5_areSo_22 : decode cX5_areSo 22 = .ok (.iaload, 1) := by decide +kernel
theorem dX5_areSo_23 : decode cX5_areSo 23 = .ok (.invokevirtual 194, 3) := by decide +kernel
theorem dX5_areSo_26 : decode cX5_areSo 26 = .ok (.aload_n 0, 1) := by decide +kernel
theorem dX5_areSo_27 : decode cX5_areSo 27 = .ok (.getfield 62, 3) := by decide +kernel
theorem dX5_areSo_30 : decode cX5_areSo 30 = .ok (.aload_n 0, 1) := by decide +kernel
theorem dX5_areSo_31 : decode cX5_areSo 31 = .ok (.getfield 71, 3) := by decide +kernel
theorem dX5_areSo_34 : decode cX5_areSo 34 = .ok (.iload_n 1, 1) := by decide +kernel
theorem dX5_areSo_35 : decode cX5_areSo 35 = .ok (.iaload, 1) := by decide +kernel
theorem dX5_areSo_36 : decode cX5_areSo 36 = .ok (.iaload, 1) := by decide +kernel
theorem dX5_areSo_37 : decode cX5_areSo 37 = .ok (.aload_n 0, 1) := by decide +kernel
theorem dX5_areSo_38 : decode cX5_areSo 38 = .ok (.getfield 80, 3) := by decide +kernel
theorem dX5_areSo_41 : decode cX5_areSo 41 = .ok (.iload_n 1, 1) := by decide +kernel
theorem dX5_areSo_42 : decode cX5_areSo 42 = .ok (.iaload, 1) := by decide +kernel
theorem dX5_areSo_43 : decode cX5_areSo 43 = .ok (.if_icmp .eq 5, 3) := by decide +kernel
theorem dX5_areSo_46 : decode cX5_areSo 46 = .ok (.iconst 0, 1) := by decide +kernel
theorem dX5_areSo_47 : decode cX5_areSo 47 = .ok (.ireturn, 1) := by decide +kernel
theorem dX5_areSo_48 : decode cX5_areSo 48 = .ok (.iinc 1 1, 3) := by decide +kernel
theorem dX5_areSo_51 : decode cX5_areSo 51 = .ok (.goto (-49), 3) := by decide +kernel
theorem dX5_areSo_54 : decode cX5_areSo 54 = .ok (.iconst 1, 1) := by decide +kernel
theorem dX5_areSo_55 : decode cX5_areSo 55 = .ok (.ireturn, 1) := by decide +kernel
theorem dX5_gone_0 : decode cX5_gone 0 = .ok (.aload_n 0, 1) := by decide +kernel
theorem dX5_gone_1 : decode cX5_gone 1 = .ok (.getfield 96, 3) := by decide +kernel
theorem dX5_gone_4 : decode cX5_gone 4 = .ok (.ifCond .ne 6, 3) := by decide +kernel
theorem dX5_gone_7 : decode cX5_gone 7 = .ok (.bipush (-3), 2) := by decide +kernel
theorem dX5_gone_9 : decode cX5_gone 9 = .ok (.ireturn, 1) := by decide +kernel
theorem dX5_gone_10 : decode cX5_gone 10 = .ok (.iconst 0, 1) := by decide +kernel
theorem dX5_gone_11 : decode cX5_gone 11 = .ok (.istore_n 1, 1) := by decide +kernel
theorem dX5_gone_12 : decode cX5_gone 12 = .ok (.iconst 0, 1) := by decide +kernel
theorem dX5_gone_13 : decode cX5_gone 13 = .ok (.istore_n 2, 1) := by decide +kernel
theorem dX5_gone_14 : decode cX5_gone 14 = .ok (.iload_n 2, 1) := by decide +kernel
theorem dX5_gone_15 : decode cX5_gone 15 = .ok (.aload_n 0, 1) := by decide +kernel
theorem dX5_gone_16 : decode cX5_gone 16 = .ok (.getfield 96, 3) := by decide +kernel
theorem dX5_gone_19 : decode cX5_gone 19 = .ok (.if_icmp .ge 47, 3) := by decide +kernel
theorem dX5_gone_22 : decode cX5_gone 22 = .ok (.aload_n 0, 1) := by decide +kernel
theorem dX5_gone_23 : decode cX5_gone 23 = .ok (.getfield 40, 3) := by decide +kernel
theorem dX5_gone_26 : decode cX5_gone 26 = .ok (.iload_n 2, 1) := by decide +kernel
theorem dX5_gone_27 : decode cX5_gone 27 = .ok (.baload, 1) := by decide +kernel
theorem dX5_gone_28 : decode cX5_gone 28 = .ok (.istore_n 3, 1) := by decide +kernel
theorem dX5_gone_29 : decode cX5_gone 29 = .ok (.aload_n 0, 1) := by decide +kernel
theorem dX5_gone_30 : decode cX5_gone 30 = .ok (.getfield 40, 3) := by decide +kernel
theorem dX5_gone_33 : decode cX5_gone 33 = .ok (.iload_n 2, 1) := by decide +kernel
theorem dX5_gone_34 : decode cX5_gone 34 = .ok (.iconst 1, 1) := by decide +kernel
theorem dX5_gone_35 : decode cX5_gone 35 = .ok (.bastore, 1) := by decide +kernel
theorem dX5_gone_36 : decode cX5_gone 36 = .ok (.iload_n 1, 1) := by decide +kernel
theorem dX5_gone_37 : decode cX5_gone 37 = .ok (.aload_n 0, 1) := by decide +kernel
theorem dX5_gone_38 : decode cX5_gone 38 = .ok (.invokevirtual 239, 3) := by decide +kernel
theorem dX5_gone_41 : decode cX5_gone 41 = .ok (.ifCond .eq 9, 3) := by decide +kernel
theorem dX5_gone_44 : decode cX5_gone 44 = .ok (.iconst 1, 1) := by decide +kernel
theorem dX5_gone_45 : decode cX5_gone 45 = .ok (.iload_n 2, 1) := by decide +kernel
theorem dX5_gone_46 : decode cX5_gone 46 = .ok (.ishl, 1) := by decide +kernel
theorem dX5_gone_47 : decode cX5_gone 47 = .ok (.goto 4, 3) := by decide +kernel
theorem dX5_gone_50 : decode cX5_gone 50 = .ok (.iconst 0, 1) := by decide +kernel
theorem dX5_gone_51 : decode cX5_gone 51 = .ok (.ior, 1) := by decide +kernel
theorem dX5_gone_52 : decode cX5_gone 52 = .ok (.istore_n 1, 1) := by decide +kernel
theorem dX5_gone_53 : decode cX5_gone 53 = .ok (.aload_n 0, 1) := by decide +kernel
theorem dX5_gone_54 : decode cX5_gone 54 = .ok (.getfield 40, 3) := by decide +kernel
theorem dX5_gone_57 : decode cX5_gone 57 = .ok (.iload_n 2, 1) := by decide +kernel
theorem dX5_gone_58 : decode cX5_gone 58 = .ok (.iload_n 3, 1) := by decide +kernel
theorem dX5_gone_59 : decode cX5_gone 59 = .ok (.bastore, 1) := by decide +kernel
theorem dX5_gone_60 : decode cX5_gone 60 = .ok (.iinc 2 1, 3) := by decide +kernel
theorem dX5_gone_63 : decode cX5_gone 63 = .ok (.goto (-49), 3) := by decide +kernel
theorem dX5_gone_66 : decode cX5_gone 66 = .ok (.iload_n 1, 1) := by decide +kernel
theorem dX5_gone_67 : decode cX5_gone 67 = .ok (.ireturn, 1) := by decide +kernel
theorem dX5_seams_0 : decode cX5_seams 0 = .ok (.aload_n 0, 1) := by decide +kernel
theorem dX5_seams_1 : decode cX5_seams 1 = .ok (.getfield 96, 3) := by decide +kernel
theorem dX5_seams_4 : decode cX5_seams 4 = .ok (.ifCond .ne 6, 3) := by decide +kernel
theorem dX5_seams_7 : decode cX5_seams 7 = .ok (.bipush (-3), 2) := by decide +kernel
theorem dX5_seams_9 : decode cX5_seams 9 = .ok (.ireturn, 1) := by decide +kernel
theorem dX5_seams_10 : decode cX5_seams 10 = .ok (.aload_n 0, 1) := by decide +kernel
theorem dX5_seams_11 : decode cX5_seams 11 = .ok (.getfield 123, 3) := by decide +kernel
theorem dX5_seams_14 : decode cX5_seams 14 = .ok (.istore_n 1, 1) := by decide +kernel
theorem dX5_seams_15 : decode cX5_seams 15 = .ok (.iconst 0, 1) := by decide +kernel
theorem dX5_seams_16 : decode cX5_seams 16 = .ok (.istore_n 2, 1) := by decide +kernel
theorem dX5_seams_17 : decode cX5_seams 17 = .ok (.iconst 1, 1) := by decide +kernel
theorem dX5_seams_18 : decode cX5_seams 18 = .ok (.istore_n 3, 1) := by decide +kernel
theorem dX5_seams_19 : decode cX5_seams 19 = .ok (.iload_n 3, 1) := by decide +kernel
theorem dX5_seams_20 : decode cX5_seams 20 = .ok (.bipush 13, 2) := by decide +kernel
theorem dX5_seams_22 : decode cX5_seams 22 = .ok (.if_icmp .gt 31, 3) := by decide +kernel
theorem dX5_seams_25 : decode cX5_seams 25 = .ok (.aload_n 0, 1) := by decide +kernel
theorem dX5_seams_26 : decode cX5_seams 26 = .ok (.iload_n 3, 1) := by decide +kernel
theorem dX5_seams_27 : decode cX5_seams 27 = .ok (.putfield 123, 3) := by decide +kernel
theorem dX5_seams_30 : decode cX5_seams 30 = .ok (.iload_n 2, 1) := by decide +kernel
theorem dX5_seams_31 : decode cX5_seams 31 = .ok (.aload_n 0, 1) := by decide +kernel
theorem dX5_seams_32 : decode cX5_seams 32 = .ok (.invokevirtual 239, 3) := by decide +kernel
theorem dX5_seams_35 : decode cX5_seams 35 = .ok (.ifCond .eq 9, 3) := by decide +kernel
theorem dX5_seams_38 : decode cX5_seams 38 = .ok (.iconst 1, 1) := by decide +kernel
theorem dX5_seams_39 : decode cX5_seams 39 = .ok (.iload_n 3, 1) := by decide +kernel
theorem dX5_seams_40 : decode cX5_seams 40 = .ok (.ishl, 1) := by decide +kernel
theorem dX5_seams_41 : decode cX5_seams 41 = .ok (.goto 4, 3) := by decide +kernel
theorem dX5_seams_44 : decode cX5_seams 44 = .ok (.iconst 0, 1) := by decide +kernel
theorem dX5_seams_45 : decode cX5_seams 45 = .ok (.ior, 1) := by decide +kernel
theorem dX5_seams_46 : decode cX5_seams 46 = .ok (.istore_n 2, 1) := by decide +kernel
theorem dX5_seams_47 : decode cX5_seams 47 = .ok (.iinc 3 1, 3) := by decide +kernel
theorem dX5_seams_50 : decode cX5_seams 50 = .ok (.goto (-31), 3) := by decide +kernel
theorem dX5_seams_53 : decode cX5_seams 53 = .ok (.aload_n 0, 1) := by decide +kernel
theorem dX5_seams_54 : decode cX5_seams 54 = .ok (.iload_n 1, 1) := by decide +kernel
theorem dX5_seams_55 : decode cX5_seams 55 = .ok (.putfield 123, 3) := by decide +kernel
theorem dX5_seams_58 : decode cX5_seams 58 = .ok (.iload_n 2, 1) := by decide +kernel
theorem dX5_seams_59 : decode cX5_seams 59 = .ok (.ireturn, 1) := by decide +kernel
theorem dX5_kinds_0 : decode cX5_kinds 0 = .ok (.aload_n 0, 1) := by decide +kernel
theorem dX5_kinds_1 : decode cX5_kinds 1 = .ok (.iload_n 1, 1) := by decide +kernel
theorem dX5_kinds_2 : decode cX5_kinds 2 = .ok (.invokevirtual 158, 3) := by decide +kernel
theorem dX5_kinds_5 : decode cX5_kinds 5 = .ok (.ifCond .ne 5, 3) := by decide +kernel
theorem dX5_kinds_8 : decode cX5_kinds 8 = .ok (.iconst (-1), 1) := by decide +kernel
theorem dX5_kinds_9 : decode cX5_kinds 9 = .ok (.ireturn, 1) := by decide +kernel
theorem dX5_kinds_10 : decode cX5_kinds 10 = .ok (.aload_n 0, 1) := by decide +kernel
theorem dX5_kinds_11 : decode cX5_kinds 11 = .ok (.getfield 25, 3) := by decide +kernel
theorem dX5_kinds_14 : decode cX5_kinds 14 = .ok (.iload_n 1, 1) := by decide +kernel
theorem dX5_kinds_15 : decode cX5_kinds 15 = .ok (.iaload, 1) := by decide +kernel
theorem dX5_kinds_16 : decode cX5_kinds 16 = .ok (.istore_n 2, 1) := by decide +kernel
theorem dX5_kinds_17 : decode cX5_kinds 17 = .ok (.iconst 0, 1) := by decide +kernel
theorem dX5_kinds_18 : decode cX5_kinds 18 = .ok (.istore_n 3, 1) := by decide +kernel
theorem dX5_kinds_19 : decode cX5_kinds 19 = .ok (.iconst 0, 1) := by decide +kernel
theorem dX5_kinds_20 : decode cX5_kinds 20 = .ok (.istore 4, 2) := by decide +kernel
theorem dX5_kinds_22 : decode cX5_kinds 22 = .ok (.iload 4, 2) := by decide +kernel
theorem dX5_kinds_24 : decode cX5_kinds 24 = .ok (.iconst 3, 1) := by decide +kernel
theorem dX5_kinds_25 : decode cX5_kinds 25 = .ok (.if_icmp .ge 35, 3) := by decide +kernel
theorem dX5_kinds_28 : decode cX5_kinds 28 = .ok (.aload_n 0, 1) := by decide +kernel
theorem dX5_kinds_29 : decode cX5_kinds 29 = .ok (.getfield 25, 3) := by decide +kernel
theorem dX5_kinds_32 : decode cX5_kinds 32 = .ok (.iload_n 1, 1) := by decide +kernel
theorem dX5_kinds_33 : decode cX5_kinds 33 = .ok (.iload 4, 2) := by decide +kernel
theorem dX5_kinds_35 : decode cX5_kinds 35 = .ok (.iastore, 1) := by decide +kernel
theorem dX5_kinds_36 : decode cX5_kinds 36 = .ok (.iload_n 3, 1) := by decide +kernel
theorem dX5_kinds_37 : decode cX5_kinds 37 = .ok (.aload_n 0, 1) := by decide +kernel
theorem dX5_kinds_38 : decode cX5_kinds 38 = .ok (.invokevirtual 239, 3) := by decide +kernel
theorem dX5_kinds_41 : decode cX5_kinds 41 = .ok (.ifCond .eq 10, 3) := by decide +kernel
theorem dX5_kinds_44 : decode cX5_kinds 44 = .ok (.iconst 1, 1) := by decide +kernel
theorem dX5_kinds_45 : decode cX5_kinds 45 = .ok (.iload 4, 2) := by decide +kernel
theorem dX5_kinds_47 : decode cX5_kinds 47 = .ok (.ishl, 1) := by decide +kernel
theorem dX5_kinds_48 : decode cX5_kinds 48 = .ok (.goto 4, 3) := by decide +kernel
theorem dX5_kinds_51 : decode cX5_kinds 51 = .ok (.iconst 0, 1) := by decide +kernel
theorem dX5_kinds_52 : decode cX5_kinds 52 = .ok (.ior, 1) := by decide +kernel
theorem dX5_kinds_53 : decode cX5_kinds 53 = .ok (.istore_n 3, 1) := by decide +kernel
theorem dX5_kinds_54 : decode cX5_kinds 54 = .ok (.iinc 4 1, 3) := by decide +kernel
theorem dX5_kinds_57 : decode cX5_kinds 57 = .ok (.goto (-35), 3) := by decide +kernel
theorem dX5_kinds_60 : decode cX5_kinds 60 = .ok (.aload_n 0, 1) := by decide +kernel
theorem dX5_kinds_61 : decode cX5_kinds 61 = .ok (.getfield 25, 3) := by decide +kernel
theorem dX5_kinds_64 : decode cX5_kinds 64 = .ok (.iload_n 1, 1) := by decide +kernel
theorem dX5_kinds_65 : decode cX5_kinds 65 = .ok (.iload_n 2, 1) := by decide +kernel
theorem dX5_kinds_66 : decode cX5_kinds 66 = .ok (.iastore, 1) := by decide +kernel
theorem dX5_kinds_67 : decode cX5_kinds 67 = .ok (.iload_n 3, 1) := by decide +kernel
theorem dX5_kinds_68 : decode cX5_kinds 68 = .ok (.ireturn, 1) := by decide +kernel
theorem dX5_odds_0 : decode cX5_odds 0 = .ok (.iload_n 1, 1) := by decide +kernel
theorem dX5_odds_1 : decode cX5_odds 1 = .ok (.invokestatic 164, 3) := by decide +kernel
theorem dX5_odds_4 : decode cX5_odds 4 = .ok (.ifCond .eq 19, 3) := by decide +kernel
theorem dX5_odds_7 : decode cX5_odds 7 = .ok (.iload_n 2, 1) := by decide +kernel
theorem dX5_odds_8 : decode cX5_odds 8 = .ok (.iconst 0, 1) := by decide +kernel
theorem dX5_odds_9 : decode cX5_odds 9 = .ok (.iconst 1, 1) := by decide +kernel
theorem dX5_odds_10 : decode cX5_odds 10 = .ok (.invokestatic 89, 3) := by decide +kernel
theorem dX5_odds_13 : decode cX5_odds 13 = .ok (.ifCond .eq 10, 3) := by decide +kernel
theorem dX5_odds_16 : decode cX5_odds 16 = .ok (.aload_n 0, 1) := by decide +kernel
theorem dX5_odds_17 : decode cX5_odds 17 = .ok (.getfield 96, 3) := by decide +kernel
theorem dX5_odds_20 : decode cX5_odds 20 = .ok (.ifCond .ne 7, 3) := by decide +kernel
theorem dX5_odds_23 : decode cX5_odds 23 = .ok (.ldc2_w 87, 3) := by decide +kernel
theorem dX5_odds_26 : decode cX5_odds 26 = .ok (.lreturn, 1) := by decide +kernel
theorem dX5_odds_27 : decode cX5_odds 27 = .ok (.aload_n 0, 1) := by decide +kernel
theorem dX5_odds_28 : decode cX5_odds 28 = .ok (.invokevirtual 210, 3) := by decide +kernel
theorem dX5_odds_31 : decode cX5_odds 31 = .ok (.istore_n 3, 1) := by decide +kernel
theorem dX5_odds_32 : decode cX5_odds 32 = .ok (.iconst 0, 1) := by decide +kernel
theorem dX5_odds_33 : decode cX5_odds 33 = .ok (.istore 4, 2) := by decide +kernel
theorem dX5_odds_35 : decode cX5_odds 35 = .ok (.iconst 0, 1) := by decide +kernel
theorem dX5_odds_36 : decode cX5_odds 36 = .ok (.istore 5, 2) := by decide +kernel
theorem dX5_odds_38 : decode cX5_odds 38 = .ok (.iload 5, 2) := by decide +kernel
theorem dX5_odds_40 : decode cX5_odds 40 = .ok (.iconst 1, 1) := by decide +kernel
theorem dX5_odds_41 : decode cX5_odds 41 = .ok (.aload_n 0, 1) := by decide +kernel
theorem dX5_odds_42 : decode cX5_odds 42 = .ok (.getfield 96, 3) := by decide +kernel
theorem dX5_odds_45 : decode cX5_odds 45 = .ok (.ishl, 1) := by decide +kernel
theorem dX5_odds_46 : decode cX5_odds 46 = .ok (.if_icmp .ge 37, 3) := by decide +kernel
theorem dX5_odds_49 : decode cX5_odds 49 = .ok (.aload_n 0, 1) := by decide +kernel
theorem dX5_odds_50 : decode cX5_odds 50 = .ok (.iload 5, 2) := by decide +kernel
theorem dX5_odds_52 : decode cX5_odds 52 = .ok (.invokevirtual 216, 3) := by decide +kernel
theorem dX5_odds_55 : decode cX5_odds 55 = .ok (.aload_n 0, 1) := by decide +kernel
theorem dX5_odds_56 : decode cX5_odds 56 = .ok (.iload_n 1, 1) := by decide +kernel
theorem dX5_odds_57 : decode cX5_odds 57 = .ok (.invokevirtual 200, 3) := by decide +kernel
theorem dX5_odds_60 : decode cX5_odds 60 = .ok (.iload 4, 2) := by decide +kernel
theorem dX5_odds_62 : decode cX5_odds 62 = .ok (.aload_n 0, 1) := by decide +kernel
theorem dX5_odds_63 : decode cX5_odds 63 = .ok (.invokevirtual 203, 3) := by decide +kernel
theorem dX5_odds_66 : decode cX5_odds 66 = .ok (.ifCond .ne 7, 3) := by decide +kernel
theorem dX5_odds_69 : decode cX5_odds 69 = .ok (.iconst 1, 1) := by decide +kernel
theorem dX5_odds_70 : decode cX5_odds 70 = .ok (.goto 4, 3) := by decide +kernel
theorem dX5_odds_73 : decode cX5_odds 73 = .ok (.iconst 0, 1) := by decide +kernel
theorem dX5_odds_74 : decode cX5_odds 74 = .ok (.iadd, 1) := by decide +kernel
theorem dX5_odds_75 : decode cX5_odds 75 = .ok (.istore 4, 2) := by decide +kernel
theorem dX5_odds_77 : decode cX5_odds 77 = .ok (.iinc 5 1, 3) := by decide +kernel
theorem dX5_odds_80 : decode cX5_odds 80 = .ok (.goto (-42), 3) := by decide +kernel
theorem dX5_odds_83 : decode cX5_odds 83 = .ok (.aload_n 0, 1) := by decide +kernel
theorem dX5_odds_84 : decode cX5_odds 84 = .ok (.iload_n 3, 1) := by decide +kernel
theorem dX5_odds_85 : decode cX5_odds 85 = .ok (.invokevirtual 216, 3) := by decide +kernel
theorem dX5_odds_88 : decode cX5_odds 88 = .ok (.iload 4, 2) := by decide +kernel
theorem dX5_odds_90 : decode cX5_odds 90 = .ok (.i2l, 1) := by decide +kernel
theorem dX5_odds_91 : decode cX5_odds 91 = .ok (.lconst 1, 1) := by decide +kernel
theorem dX5_odds_92 : decode cX5_odds 92 = .ok (.aload_n 0, 1) := by decide +kernel
theorem dX5_odds_93 : decode cX5_odds 93 = .ok (.getfield 96, 3) := by decide +kernel
theorem dX5_odds_96 : decode cX5_odds 96 = .ok (.lshl, 1) := by decide +kernel
theorem dX5_odds_97 : decode cX5_odds 97 = .ok (.iload_n 2, 1) := by decide +kernel
theorem dX5_odds_98 : decode cX5_odds 98 = .ok (.invokestatic 229, 3) := by decide +kernel
theorem dX5_odds_101 : decode cX5_odds 101 = .ok (.lreturn, 1) := by decide +kernel
theorem dX5_sheet_0 : decode cX5_sheet 0 = .ok (.aload_n 0, 1) := by decide +kernel
theorem dX5_sheet_1 : decode cX5_sheet 1 = .ok (.iconst 0, 1) := by decide +kernel
theorem dX5_sheet_2 : decode cX5_sheet 2 = .ok (.putfield 83, 3) := by decide +kernel
theorem dX5_sheet_5 : decode cX5_sheet 5 = .ok (.iload_n 1, 1) := by decide +kernel
theorem dX5_sheet_6 : decode cX5_sheet 6 = .ok (.invokestatic 102, 3) := by decide +kernel
theorem dX5_sheet_9 : decode cX5_sheet 9 = .ok (.ifCond .ne 5, 3) := by decide +kernel
theorem dX5_sheet_12 : decode cX5_sheet 12 = .ok (.iconst (-1), 1) := by decide +kernel
theorem dX5_sheet_13 : decode cX5_sheet 13 = .ok (.ireturn, 1) := by decide +kernel
theorem dX5_sheet_14 : decode cX5_sheet 14 = .ok (.iload_n 2, 1) := by decide +kernel
theorem dX5_sheet_15 : decode cX5_sheet 15 = .ok (.invokestatic 106, 3) := by decide +kernel
theorem dX5_sheet_18 : decode cX5_sheet 18 = .ok (.ifCond .eq 9, 3) := by decide +kernel
theorem dX5_sheet_21 : decode cX5_sheet 21 = .ok (.iload_n 3, 1) := by decide +kernel
theorem dX5_sheet_22 : decode cX5_sheet 22 = .ok (.bipush 60, 2) := by decide +kernel
theorem dX5_sheet_24 : decode cX5_sheet 24 = .ok (.if_icmp .le 6, 3) := by decide +kernel
theorem dX5_sheet_27 : decode cX5_sheet 27 = .ok (.bipush (-2), 2) := by decide +kernel
theorem dX5_sheet_29 : decode cX5_sheet 29 = .ok (.ireturn, 1) := by decide +kernel
theorem dX5_sheet_30 : decode cX5_sheet 30 = .ok (.iload_n 3, 1) := by decide +kernel
theorem dX5_sheet_31 : decode cX5_sheet 31 = .ok (.ifCond .ge 9, 3) := by decide +kernel
theorem dX5_sheet_34 : decode cX5_sheet 34 = .ok (.aload_n 0, 1) := by decide +kernel
theorem dX5_sheet_35 : decode cX5_sheet 35 = .ok (.iconst 4, 1) := by decide +kernel
theorem dX5_sheet_36 : decode cX5_sheet 36 = .ok (.invokevirtual 113, 3) := by decide +kernel
theorem dX5_sheet_39 : decode cX5_sheet 39 = .ok (.ireturn, 1) := by decide +kernel
theorem dX5_sheet_40 : decode cX5_sheet 40 = .ok (.aload_n 0, 1) := by decide +kernel
theorem dX5_sheet_41 : decode cX5_sheet 41 = .ok (.getfield 9, 3) := by decide +kernel
theorem dX5_sheet_44 : decode cX5_sheet 44 = .ok (.iload_n 1, 1) := by decide +kernel
theorem dX5_sheet_45 : decode cX5_sheet 45 = .ok (.iload_n 2, 1) := by decide +kernel
theorem dX5_sheet_46 : decode cX5_sheet 46 = .ok (.iastore, 1) := by decide +kernel
theorem dX5_sheet_47 : decode cX5_sheet 47 = .ok (.aload_n 0, 1) := by decide +kernel
theorem dX5_sheet_48 : decode cX5_sheet 48 = .ok (.getfield 13, 3) := by decide +kernel
theorem dX5_sheet_51 : decode cX5_sheet 51 = .ok (.iload_n 1, 1) := by decide +kernel
theorem dX5_sheet_52 : decode cX5_sheet 52 = .ok (.iload_n 3, 1) := by decide +kernel
theorem dX5_sheet_53 : decode cX5_sheet 53 = .ok (.iastore, 1) := by decide +kernel
theorem dX5_sheet_54 : decode cX5_sheet 54 = .ok (.iconst 0, 1) := by decide +kernel
theorem dX5_sheet_55 : decode cX5_sheet 55 = .ok (.istore 4, 2) := by decide +kernel
theorem dX5_sheet_57 : decode cX5_sheet 57 = .ok (.iload 4, 2) := by decide +kernel
theorem dX5_sheet_59 : decode cX5_sheet 59 = .ok (.bipush 60, 2) := by decide +kernel
theorem dX5_sheet_61 : decode cX5_sheet 61 = .ok (.if_icmp .ge 22, 3) := by decide +kernel
theorem dX5_sheet_64 : decode cX5_sheet 64 = .ok (.aload_n 0, 1) := by decide +kernel
theorem dX5_sheet_65 : decode cX5_sheet 65 = .ok (.getfield 16, 3) := by decide +kernel
theorem dX5_sheet_68 : decode cX5_sheet 68 = .ok (.bipush 60, 2) := by decide +kernel
theorem dX5_sheet_70 : decode cX5_sheet 70 = .ok (.iload_n 1, 1) := by decide +kernel
theorem dX5_sheet_71 : decode cX5_sheet 71 = .ok (.imul, 1) := by decide +kernel
theorem dX5_sheet_72 : decode cX5_sheet 72 = .ok (.iload 4, 2) := by decide +kernel
theorem dX5_sheet_74 : decode cX5_sheet 74 = .ok (.iadd, 1) := by decide +kernel
theorem dX5_sheet_75 : decode cX5_sheet 75 = .ok (.iconst 0, 1) := by decide +kernel
theorem dX5_sheet_76 : decode cX5_sheet 76 = .ok (.iastore, 1) := by decide +kernel
theorem dX5_sheet_77 : decode cX5_sheet 77 = .ok (.iinc 4 1, 3) := by decide +kernel
theorem dX5_sheet_80 : decode cX5_sheet 80 = .ok (.goto (-23), 3) := by decide +kernel
theorem dX5_sheet_83 : decode cX5_sheet 83 = .ok (.iconst 1, 1) := by decide +kernel
theorem dX5_sheet_84 : decode cX5_sheet 84 = .ok (.ireturn, 1) := by decide +kernel
theorem dX5_lose_0 : decode cX5_lose 0 = .ok (.iload_n 1, 1) := by decide +kernel
theorem dX5_lose_1 : decode cX5_lose 1 = .ok (.invokestatic 102, 3) := by decide +kernel
theorem dX5_lose_4 : decode cX5_lose 4 = .ok (.ifCond .ne 5, 3) := by decide +kernel
theorem dX5_lose_7 : decode cX5_lose 7 = .ok (.iconst (-1), 1) := by decide +kernel
theorem dX5_lose_8 : decode cX5_lose 8 = .ok (.ireturn, 1) := by decide +kernel
theorem dX5_lose_9 : decode cX5_lose 9 = .ok (.aload_n 0, 1) := by decide +kernel
theorem dX5_lose_10 : decode cX5_lose 10 = .ok (.getfield 9, 3) := by decide +kernel
theorem dX5_lose_13 : decode cX5_lose 13 = .ok (.iload_n 1, 1) := by decide +kernel
theorem dX5_lose_14 : decode cX5_lose 14 = .ok (.iaload, 1) := by decide +kernel
theorem dX5_lose_15 : decode cX5_lose 15 = .ok (.bipush (-9), 2) := by decide +kernel
theorem dX5_lose_17 : decode cX5_lose 17 = .ok (.if_icmp .ne 7, 3) := by decide +kernel
theorem dX5_lose_20 : decode cX5_lose 20 = .ok (.iconst 0, 1) := by decide +kernel
theorem dX5_lose_21 : decode cX5_lose 21 = .ok (.goto 4, 3) := by decide +kernel
theorem dX5_lose_24 : decode cX5_lose 24 = .ok (.iconst 1, 1) := by decide +kernel
theorem dX5_lose_25 : decode cX5_lose 25 = .ok (.istore_n 2, 1) := by decide +kernel
theorem dX5_lose_26 : decode cX5_lose 26 = .ok (.aload_n 0, 1) := by decide +kernel
theorem dX5_lose_27 : decode cX5_lose 27 = .ok (.getfield 9, 3) := by decide +kernel
theorem dX5_lose_30 : decode cX5_lose 30 = .ok (.iload_n 1, 1) := by decide +kernel
theorem dX5_lose_31 : decode cX5_lose 31 = .ok (.bipush (-9), 2) := by decide +kernel
theorem dX5_lose_33 : decode cX5_lose 33 = .ok (.iastore, 1) := by decide +kernel
theorem dX5_lose_34 : decode cX5_lose 34 = .ok (.iload_n 2, 1) := by decide +kernel
theorem dX5_lose_35 : decode cX5_lose 35 = .ok (.ireturn, 1) := by decide +kernel
theorem dX5_put_0 : decode cX5_put 0 = .ok (.aload_n 0, 1) := by decide +kernel
theorem dX5_put_1 : decode cX5_put 1 = .ok (.iconst 0, 1) := by decide +kernel
theorem dX5_put_2 : decode cX5_put 2 = .ok (.putfield 83, 3) := by decide +kernel
theorem dX5_put_5 : decode cX5_put 5 = .ok (.iload_n 1, 1) := by decide +kernel
theorem dX5_put_6 : decode cX5_put 6 = .ok (.invokestatic 102, 3) := by decide +kernel
theorem dX5_put_9 : decode cX5_put 9 = .ok (.ifCond .ne 5, 3) := by decide +kernel
theorem dX5_put_12 : decode cX5_put 12 = .ok (.iconst (-1), 1) := by decide +kernel
theorem dX5_put_13 : decode cX5_put 13 = .ok (.ireturn, 1) := by decide +kernel
theorem dX5_put_14 : decode cX5_put 14 = .ok (.aload_n 0, 1) := by decide +kernel
theorem dX5_put_15 : decode cX5_put 15 = .ok (.getfield 9, 3) := by decide +kernel
theorem dX5_put_18 : decode cX5_put 18 = .ok (.iload_n 1, 1) := by decide +kernel
theorem dX5_put_19 : decode cX5_put 19 = .ok (.iaload, 1) := by decide +kernel
theorem dX5_put_20 : decode cX5_put 20 = .ok (.bipush (-9), 2) := by decide +kernel
theorem dX5_put_22 : decode cX5_put 22 = .ok (.if_icmp .ne 9, 3) := by decide +kernel
theorem dX5_put_25 : decode cX5_put 25 = .ok (.aload_n 0, 1) := by decide +kernel
theorem dX5_put_26 : decode cX5_put 26 = .ok (.iconst 1, 1) := by decide +kernel
theorem dX5_put_27 : decode cX5_put 27 = .ok (.invokevirtual 113, 3) := by decide +kernel
theorem dX5_put_30 : decode cX5_put 30 = .ok (.ireturn, 1) := by decide +kernel
theorem dX5_put_31 : decode cX5_put 31 = .ok (.iload_n 2, 1) := by decide +kernel
theorem dX5_put_32 : decode cX5_put 32 = .ok (.iconst 0, 1) := by decide +kernel
theorem dX5_put_33 : decode cX5_put 33 = .ok (.aload_n 0, 1) := by decide +kernel
theorem dX5_put_34 : decode cX5_put 34 = .ok (.getfield 13, 3) := by decide +kernel
theorem dX5_put_37 : decode cX5_put 37 = .ok (.iload_n 1, 1) := by decide +kernel
theorem dX5_put_38 : decode cX5_put 38 = .ok (.iaload, 1) := by decide +kernel
theorem dX5_put_39 : decode cX5_put 39 = .ok (.iconst 1, 1) := by decide +kernel
theorem dX5_put_40 : decode cX5_put 40 = .ok (.isub, 1) := by decide +kernel
theorem dX5_put_41 : decode cX5_put 41 = .ok (.invokestatic 89, 3) := by decide +kernel
theorem dX5_put_44 : decode cX5_put 44 = .ok (.ifCond .ne 9, 3) := by decide +kernel
theorem dX5_put_47 : decode cX5_put 47 = .ok (.aload_n 0, 1) := by decide +kernel
theorem dX5_put_48 : decode cX5_put 48 = .ok (.iconst 3, 1) := by decide +kernel
theorem dX5_put_49 : decode cX5_put 49 = .ok (.invokevirtual 113, 3) := by decide +kernel
theorem dX5_put_52 : decode cX5_put 52 = .ok (.ireturn, 1) := by decide +kernel
theorem dX5_put_53 : decode cX5_put 53 = .ok (.aload_n 0, 1) := by decide +kernel
theorem dX5_put_54 : decode cX5_put 54 = .ok (.getfield 16, 3) := by decide +kernel
theorem dX5_put_57 : decode cX5_put 57 = .ok (.bipush 60, 2) := by decide +kernel
theorem dX5_put_59 : decode cX5_put 59 = .ok (.iload_n 1, 1) := by decide +kernel
theorem dX5_put_60 : decode cX5_put 60 = .ok (.imul, 1) := by decide +kernel
theorem dX5_put_61 : decode cX5_put 61 = .ok (.iload_n 2, 1) := by decide +kernel
theorem dX5_put_62 : decode cX5_put 62 = .ok (.iadd, 1) := by decide +kernel
theorem dX5_put_63 : decode cX5_put 63 = .ok (.aload_n 0, 1) := by decide +kernel
theorem dX5_put_64 : decode cX5_put 64 = .ok (.getfield 9, 3) := by decide +kernel
theorem dX5_put_67 : decode cX5_put 67 = .ok (.iload_n 1, 1) := by decide +kernel
theorem dX5_put_68 : decode cX5_put 68 = .ok (.iaload, 1) := by decide +kernel
theorem dX5_put_69 : decode cX5_put 69 = .ok (.ifCond .ne 8, 3) := by decide +kernel
theorem dX5_put_72 : decode cX5_put 72 = .ok (.iload_n 3, 1) := by decide +kernel
theorem dX5_put_73 : decode cX5_put 73 = .ok (.i2b, 1) := by decide +kernel
theorem dX5_put_74 : decode cX5_put 74 = .ok (.goto 19, 3) := by decide +kernel
theorem dX5_put_77 : decode cX5_put 77 = .ok (.aload_n 0, 1) := by decide +kernel
theorem dX5_put_78 : decode cX5_put 78 = .ok (.getfield 9, 3) := by decide +kernel
theorem dX5_put_81 : decode cX5_put 81 = .ok (.iload_n 1, 1) := by decide +kernel
theorem dX5_put_82 : decode cX5_put 82 = .ok (.iaload, 1) := by decide +kernel
theorem dX5_put_83 : decode cX5_put 83 = .ok (.iconst 1, 1) := by decide +kernel
theorem dX5_put_84 : decode cX5_put 84 = .ok (.if_icmp .ne 8, 3) := by decide +kernel
theorem dX5_put_87 : decode cX5_put 87 = .ok (.iload_n 3, 1) := by decide +kernel
theorem dX5_put_88 : decode cX5_put 88 = .ok (.i2s, 1) := by decide +kernel
theorem dX5_put_89 : decode cX5_put 89 = .ok (.goto 4, 3) := by decide +kernel
theorem dX5_put_92 : decode cX5_put 92 = .ok (.iload_n 3, 1) := by decide +kernel
theorem dX5_put_93 : decode cX5_put 93 = .ok (.iastore, 1) := by decide +kernel
theorem dX5_put_94 : decode cX5_put 94 = .ok (.iconst 1, 1) := by decide +kernel
theorem dX5_put_95 : decode cX5_put 95 = .ok (.ireturn, 1) := by decide +kernel
theorem dX5_cell_0 : decode cX5_cell 0 = .ok (.aload_n 0, 1) := by decide +kernel
theorem dX5_cell_1 : decode cX5_cell 1 = .ok (.iconst 0, 1) := by decide +kernel
theorem dX5_cell_2 : decode cX5_cell 2 = .ok (.putfield 83, 3) := by decide +kernel
theorem dX5_cell_5 : decode cX5_cell 5 = .ok (.iload_n 1, 1) := by decide +kernel
theorem dX5_cell_6 : decode cX5_cell 6 = .ok (.invokestatic 102, 3) := by decide +kernel
theorem dX5_cell_9 : decode cX5_cell 9 = .ok (.ifCond .eq 10, 3) := by decide +kernel
theorem dX5_cell_12 : decode cX5_cell 12 = .ok (.iload_n 3, 1) := by decide +kernel
theorem dX5_cell_13 : decode cX5_cell 13 = .ok (.invokestatic 106, 3) := by decide +kernel
theorem dX5_cell_16 : decode cX5_cell 16 = .ok (.ifCond .ne 7, 3) := by decide +kernel
theorem dX5_cell_19 : decode cX5_cell 19 = .ok (.ldc2_w 87, 3) := by decide +kernel
theorem dX5_cell_22 : decode cX5_cell 22 = .ok (.lreturn, 1) := by decide +kernel
theorem dX5_cell_23 : decode cX5_cell 23 = .ok (.aload_n 0, 1) := by decide +kernel
theorem dX5_cell_24 : decode cX5_cell 24 = .ok (.getfield 9, 3) := by decide +kernel
theorem dX5_cell_27 : decode cX5_cell 27 = .ok (.iload_n 1, 1) := by decide +kernel
theorem dX5_cell_28 : decode cX5_cell 28 = .ok (.iaload, 1) := by decide +kernel
theorem dX5_cell_29 : decode cX5_cell 29 = .ok (.bipush (-9), 2) := by decide +kernel
theorem dX5_cell_31 : decode cX5_cell 31 = .ok (.if_icmp .eq 19, 3) := by decide +kernel
theorem dX5_cell_34 : decode cX5_cell 34 = .ok (.aload_n 0, 1) := by decide +kernel
theorem dX5_cell_35 : decode cX5_cell 35 = .ok (.getfield 9, 3) := by decide +kernel
theorem dX5_cell_38 : decode cX5_cell 38 = .ok (.iload_n 1, 1) := by decide +kernel
theorem dX5_cell_39 : decode cX5_cell 39 = .ok (.iaload, 1) := by decide +kernel
theorem dX5_cell_40 : decode cX5_cell 40 = .ok (.iload_n 3, 1) := by decide +kernel
theorem dX5_cell_41 : decode cX5_cell 41 = .ok (.if_icmp .eq 9, 3) := by decide +kernel
theorem dX5_cell_44 : decode cX5_cell 44 = .ok (.aload_n 0, 1) := by decide +kernel
theorem dX5_cell_45 : decode cX5_cell 45 = .ok (.iconst 2, 1) := by decide +kernel
theorem dX5_cell_46 : decode cX5_cell 46 = .ok (.invokevirtual 243, 3) := by decide +kernel
theorem dX5_cell_49 : decode cX5_cell 49 = .ok (.lreturn, 1) := by decide +kernel
theorem dX5_cell_50 : decode cX5_cell 50 = .ok (.aload_n 0, 1) := by decide +kernel
theorem dX5_cell_51 : decode cX5_cell 51 = .ok (.getfield 9, 3) := by decide +kernel
theorem dX5_cell_54 : decode cX5_cell 54 = .ok (.iload_n 1, 1) := by decide +kernel
theorem dX5_cell_55 : decode cX5_cell 55 = .ok (.iaload, 1) := by decide +kernel
theorem dX5_cell_56 : decode cX5_cell 56 = .ok (.bipush (-9), 2) := by decide +kernel
theorem dX5_cell_58 : decode cX5_cell 58 = .ok (.if_icmp .ne 9, 3) := by decide +kernel
theorem dX5_cell_61 : decode cX5_cell 61 = .ok (.aload_n 0, 1) := by decide +kernel
theorem dX5_cell_62 : decode cX5_cell 62 = .ok (.iconst 1, 1) := by decide +kernel
theorem dX5_cell_63 : decode cX5_cell 63 = .ok (.invokevirtual 243, 3) := by decide +kernel
theorem dX5_cell_66 : decode cX5_cell 66 = .ok (.lreturn, 1) := by decide +kernel
theorem dX5_cell_67 : decode cX5_cell 67 = .ok (.iload_n 2, 1) := by decide +kernel
theorem dX5_cell_68 : decode cX5_cell 68 = .ok (.iconst 0, 1) := by decide +kernel
theorem dX5_cell_69 : decode cX5_cell 69 = .ok (.aload_n 0, 1) := by decide +kernel
theorem dX5_cell_70 : decode cX5_cell 70 = .ok (.getfield 13, 3) := by decide +kernel
theorem dX5_cell_73 : decode cX5_cell 73 = .ok (.iload_n 1, 1) := by decide +kernel
theorem dX5_cell_74 : decode cX5_cell 74 = .ok (.iaload, 1) := by decide +kernel
theorem dX5_cell_75 : decode cX5_cell 75 = .ok (.iconst 1, 1) := by decide +kernel
theorem dX5_cell_76 : decode cX5_cell 76 = .ok (.isub, 1) := by decide +kernel
theorem dX5_cell_77 : decode cX5_cell 77 = .ok (.invokestatic 89, 3) := by decide +kernel
theorem dX5_cell_80 : decode cX5_cell 80 = .ok (.ifCond .ne 9, 3) := by decide +kernel
theorem dX5_cell_83 : decode cX5_cell 83 = .ok (.aload_n 0, 1) := by decide +kernel
theorem dX5_cell_84 : decode cX5_cell 84 = .ok (.iconst 3, 1) := by decide +kernel
theorem dX5_cell_85 : decode cX5_cell 85 = .ok (.invokevirtual 243, 3) := by decide +kernel
theorem dX5_cell_88 : decode cX5_cell 88 = .ok (.lreturn, 1) := by decide +kernel
theorem dX5_cell_89 : decode cX5_cell 89 = .ok (.aload_n 0, 1) := by decide +kernel
theorem dX5_cell_90 : decode cX5_cell 90 = .ok (.getfield 16, 3) := by decide +kernel
theorem dX5_cell_93 : decode cX5_cell 93 = .ok (.bipush 60, 2) := by decide +kernel
theorem dX5_cell_95 : decode cX5_cell 95 = .ok (.iload_n 1, 1) := by decide +kernel
theorem dX5_cell_96 : decode cX5_cell 96 = .ok (.imul, 1) := by decide +kernel
theorem dX5_cell_97 : decode cX5_cell 97 = .ok (.iload_n 2, 1) := by decide +kernel
theorem dX5_cell_98 : decode cX5_cell 98 = .ok (.iadd, 1) := by decide +kernel
theorem dX5_cell_99 : decode cX5_cell 99 = .ok (.iaload, 1) := by decide +kernel
theorem dX5_cell_100 : decode cX5_cell 100 = .ok (.i2l, 1) := by decide +kernel
theorem dX5_cell_101 : decode cX5_cell 101 = .ok (.lreturn, 1) := by decide +kernel
theorem dX5_copy_0 : decode cX5_copy 0 = .ok (.aload_n 0, 1) := by decide +kernel
theorem dX5_copy_1 : decode cX5_copy 1 = .ok (.iconst 0, 1) := by decide +kernel
theorem dX5_copy_2 : decode cX5_copy 2 = .ok (.putfield 83, 3) := by decide +kernel
theorem dX5_copy_5 : decode cX5_copy 5 = .ok (.iload_n 1, 1) := by decide +kernel
theorem dX5_copy_6 : decode cX5_copy 6 = .ok (.invokestatic 102, 3) := by decide +kernel
theorem dX5_copy_9 : decode cX5_copy 9 = .ok (.ifCond .eq 10, 3) := by decide +kernel
theorem dX5_copy_12 : decode cX5_copy 12 = .ok (.iload_n 3, 1) := by decide +kernel
theorem dX5_copy_13 : decode cX5_copy 13 = .ok (.invokestatic 102, 3) := by decide +kernel
theorem dX5_copy_16 : decode cX5_copy 16 = .ok (.ifCond .ne 5, 3) := by decide +kernel
theorem dX5_copy_19 : decode cX5_copy 19 = .ok (.iconst (-1), 1) := by decide +kernel
theorem dX5_copy_20 : decode cX5_copy 20 = .ok (.ireturn, 1) := by decide +kernel
theorem dX5_copy_21 : decode cX5_copy 21 = .ok (.aload_n 0, 1) := by decide +kernel
theorem dX5_copy_22 : decode cX5_copy 22 = .ok (.getfield 9, 3) := by decide +kernel
theorem dX5_copy_25 : decode cX5_copy 25 = .ok (.iload_n 1, 1) := by decide +kernel
theorem dX5_copy_26 : decode cX5_copy 26 = .ok (.iaload, 1) := by decide +kernel
theorem dX5_copy_27 : decode cX5_copy 27 = .ok (.bipush (-9), 2) := by decide +kernel
theorem dX5_copy_29 : decode cX5_copy 29 = .ok (.if_icmp .eq 14, 3) := by decide +kernel
theorem dX5_copy_32 : decode cX5_copy 32 = .ok (.aload_n 0, 1) := by decide +kernel
theorem dX5_copy_33 : decode cX5_copy 33 = .ok (.getfield 9, 3) := by decide +kernel
theorem dX5_copy_36 : decode cX5_copy 36 = .ok (.iload_n 3, 1) := by decide +kernel
theorem dX5_copy_37 : decode cX5_copy 37 = .ok (.iaload, 1) := by decide +kernel
theorem dX5_copy_38 : decode cX5_copy 38 = .ok (.bipush (-9), 2) := by decide +kernel
theorem dX5_copy_40 : decode cX5_copy 40 = .ok (.if_icmp .ne 9, 3) := by decide +kernel
theorem dX5_copy_43 : decode cX5_copy 43 = .ok (.aload_n 0, 1) := by decide +kernel
theorem dX5_copy_44 : decode cX5_copy 44 = .ok (.iconst 1, 1) := by decide +kernel
theorem dX5_copy_45 : decode cX5_copy 45 = .ok (.invokevirtual 113, 3) := by decide +kernel
theorem dX5_copy_48 : decode cX5_copy 48 = .ok (.ireturn, 1) := by decide +kernel
theorem dX5_copy_49 : decode cX5_copy 49 = .ok (.aload_n 0, 1) := by decide +kernel
theorem dX5_copy_50 : decode cX5_copy 50 = .ok (.getfield 9, 3) := by decide +kernel
theorem dX5_copy_53 : decode cX5_copy 53 = .ok (.iload_n 1, 1) := by decide +kernel
theorem dX5_copy_54 : decode cX5_copy 54 = .ok (.iaload, 1) := by decide +kernel
theorem dX5_copy_55 : decode cX5_copy 55 = .ok (.aload_n 0, 1) := by decide +kernel
theorem dX5_copy_56 : decode cX5_copy 56 = .ok (.getfield 9, 3) := by decide +kernel
theorem dX5_copy_59 : decode cX5_copy 59 = .ok (.iload_n 3, 1) := by decide +kernel
theorem dX5_copy_60 : decode cX5_copy 60 = .ok (.iaload, 1) := by decide +kernel
theorem dX5_copy_61 : decode cX5_copy 61 = .ok (.if_icmp .eq 9, 3) := by decide +kernel
theorem dX5_copy_64 : decode cX5_copy 64 = .ok (.aload_n 0, 1) := by decide +kernel
theorem dX5_copy_65 : decode cX5_copy 65 = .ok (.iconst 2, 1) := by decide +kernel
theorem dX5_copy_66 : decode cX5_copy 66 = .ok (.invokevirtual 113, 3) := by decide +kernel
theorem dX5_copy_69 : decode cX5_copy 69 = .ok (.ireturn, 1) := by decide +kernel
theorem dX5_copy_70 : decode cX5_copy 70 = .ok (.iload_n 2, 1) := by decide +kernel
theorem dX5_copy_71 : decode cX5_copy 71 = .ok (.ifCond .lt 38, 3) := by decide +kernel
theorem dX5_copy_74 : decode cX5_copy 74 = .ok (.iload 4, 2) := by decide +kernel
theorem dX5_copy_76 : decode cX5_copy 76 = .ok (.ifCond .lt 33, 3) := by decide +kernel
theorem dX5_copy_79 : decode cX5_copy 79 = .ok (.iload 5, 2) := by decide +kernel
theorem dX5_copy_81 : decode cX5_copy 81 = .ok (.ifCond .lt 28, 3) := by decide +kernel
theorem dX5_copy_84 : decode cX5_copy 84 = .ok (.iload_n 2, 1) := by decide +kernel
theorem dX5_copy_85 : decode cX5_copy 85 = .ok (.aload_n 0, 1) := by decide +kernel
theorem dX5_copy_86 : decode cX5_copy 86 = .ok (.getfield 13, 3) := by decide +kernel
theorem dX5_copy_89 : decode cX5_copy 89 = .ok (.iload_n 1, 1) := by decide +kernel
theorem dX5_copy_90 : decode cX5_copy 90 = .ok (.iaload, 1) := by decide +kernel
theorem dX5_copy_91 : decode cX5_copy 91 = .ok (.if_icmp .gt 18, 3) := by decide +kernel
theorem dX5_copy_94 : decode cX5_copy 94 = .ok (.iload 4, 2) := by decide +kernel
theorem dX5_copy_96 : decode cX5_copy 96 = .ok (.aload_n 0, 1) := by decide +kernel
theorem dX5_copy_97 : decode cX5_copy 97 = .ok (.getfield 13, 3) := by decide +kernel
theorem dX5_copy_100 : decode cX5_copy 100 = .ok (.iload_n 3, 1) := by decide +kernel
theorem dX5_copy_101 : decode cX5_copy 101 = .ok (.iaload, 1) := by decide +kernel
theorem dX5_copy_102 : decode cX5_copy 102 = .ok (.if_icmp .gt 7, 3) := by decide +kernel
theorem dX5_copy_105 : decode cX5_copy 105 = .ok (.iconst 1, 1) := by decide +kernel
theorem dX5_copy_106 : decode cX5_copy 106 = .ok (.goto 4, 3) := by decide +kernel
theorem dX5_copy_109 : decode cX5_copy 109 = .ok (.iconst 0, 1) := by decide +kernel
theorem dX5_copy_110 : decode cX5_copy 110 = .ok (.istore 6, 2) := by decide +kernel
theorem dX5_copy_112 : decode cX5_copy 112 = .ok (.iload 6, 2) := by decide +kernel
theorem dX5_copy_114 : decode cX5_copy 114 = .ok (.ifCond .eq 30, 3) := by decide +kernel
theorem dX5_copy_117 : decode cX5_copy 117 = .ok (.iload 5, 2) := by decide +kernel
theorem dX5_copy_119 : decode cX5_copy 119 = .ok (.aload_n 0, 1) := by decide +kernel
theorem dX5_copy_120 : decode cX5_copy 120 = .ok (.getfield 13, 3) := by decide +kernel
theorem dX5_copy_123 : decode cX5_copy 123 = .ok (.iload_n 1, 1) := by decide +kernel
theorem dX5_copy_124 : decode cX5_copy 124 = .ok (.iaload, 1) := by decide +kernel
theorem dX5_copy_125 : decode cX5_copy 125 = .ok (.iload_n 2, 1) := by decide +kernel
theorem dX5_copy_126 : decode cX5_copy 126 = .ok (.isub, 1) := by decide +kernel
theorem dX5_copy_127 : decode cX5_copy 127 = .ok (.if_icmp .gt 17, 3) := by decide +kernel
theorem dX5_copy_130 : decode cX5_copy 130 = .ok (.iload 5, 2) := by decide +kernel
theorem dX5_copy_132 : decode cX5_copy 132 = .ok (.aload_n 0, 1) := by decide +kernel
theorem dX5_copy_133 : decode cX5_copy 133 = .ok (.getfield 13, 3) := by decide +kernel
theorem dX5_copy_136 : decode cX5_copy 136 = .ok (.iload_n 3, 1) := by decide +kernel
theorem dX5_copy_137 : decode cX5_copy 137 = .ok (.iaload, 1) := by decide +kernel
theorem dX5_copy_138 : decode cX5_copy 138 = .ok (.iload 4, 2) := by decide +kernel
theorem dX5_copy_140 : decode cX5_copy 140 = .ok (.isub, 1) := by decide +kernel
theorem dX5_copy_141 : decode cX5_copy 141 = .ok (.if_icmp .le 9, 3) := by decide +kernel
theorem dX5_copy_144 : decode cX5_copy 144 = .ok (.aload_n 0, 1) := by decide +kernel
theorem dX5_copy_145 : decode cX5_copy 145 = .ok (.iconst 3, 1) := by decide +kernel
theorem dX5_copy_146 : decode cX5_copy 146 = .ok (.invokevirtual 113, 3) := by decide +kernel
theorem dX5_copy_149 : decode cX5_copy 149 = .ok (.ireturn, 1) := by decide +kernel
theorem dX5_copy_150 : decode cX5_copy 150 = .ok (.iload_n 2, 1) := by decide +kernel
theorem dX5_copy_151 : decode cX5_copy 151 = .ok (.iload 4, 2) := by decide +kernel
theorem dX5_copy_153 : decode cX5_copy 153 = .ok (.if_icmp .ge 7, 3) := by decide +kernel
theorem dX5_copy_156 : decode cX5_copy 156 = .ok (.iconst 1, 1) := by decide +kernel
theorem dX5_copy_157 : decode cX5_copy 157 = .ok (.goto 4, 3) := by decide +kernel
theorem dX5_copy_160 : decode cX5_copy 160 = .ok (.iconst 0, 1) := by decide +kernel
theorem dX5_copy_161 : decode cX5_copy 161 = .ok (.istore 7, 2) := by decide +kernel
theorem dX5_copy_163 : decode cX5_copy 163 = .ok (.iconst 0, 1) := by decide +kernel
theorem dX5_copy_164 : decode cX5_copy 164 = .ok (.istore 8, 2) := by decide +kernel
theorem dX5_copy_166 : decode cX5_copy 166 = .ok (.iload 8, 2) := by decide +kernel
theorem dX5_copy_168 : decode cX5_copy 168 = .ok (.iload 5, 2) := by decide +kernel
theorem dX5_copy_170 : decode cX5_copy 170 = .ok (.if_icmp .ge 57, 3) := by decide +kernel
theorem dX5_copy_173 : decode cX5_copy 173 = .ok (.iload 7, 2) := by decide +kernel
theorem dX5_copy_175 : decode cX5_copy 175 = .ok (.ifCond .eq 13, 3) := by decide +kernel
theorem dX5_copy_178 : decode cX5_copy 178 = .ok (.iload 5, 2) := by decide +kernel
theorem dX5_copy_180 : decode cX5_copy 180 = .ok (.iconst 1, 1) := by decide +kernel
theorem dX5_copy_181 : decode cX5_copy 181 = .ok (.isub, 1) := by decide +kernel
theorem dX5_copy_182 : decode cX5_copy 182 = .ok (.iload 8, 2) := by decide +kernel
theorem dX5_copy_184 : decode cX5_copy 184 = .ok (.isub, 1) := by decide +kernel
theorem dX5_copy_185 : decode cX5_copy 185 = .ok (.goto 5, 3) := by decide +kernel
theorem dX5_copy_188 : decode cX5_copy 188 = .ok (.iload 8, 2) := by decide +kernel
theorem dX5_copy_190 : decode cX5_copy 190 = .ok (.istore 9, 2) := by decide +kernel
theorem dX5_copy_192 : decode cX5_copy 192 = .ok (.aload_n 0, 1) := by decide +kernel
theorem dX5_copy_193 : decode cX5_copy 193 = .ok (.getfield 16, 3) := by decide +kernel
theorem dX5_copy_196 : decode cX5_copy 196 = .ok (.bipush 60, 2) := by decide +kernel
theorem dX5_copy_198 : decode cX5_copy 198 = .ok (.iload_n 3, 1) := by decide +kernel
theorem dX5_copy_199 : decode cX5_copy 199 = .ok (.imul, 1) := by decide +kernel
theorem dX5_copy_200 : decode cX5_copy 200 = .ok (.iload 4, 2) := by decide +kernel
theorem dX5_copy_202 : decode cX5_copy 202 = .ok (.iadd, 1) := by decide +kernel
theorem dX5_copy_203 : decode cX5_copy 203 = .ok (.iload 9, 2) := by decide +kernel
theorem dX5_copy_205 : decode cX5_copy 205 = .ok (.iadd, 1) := by decide +kernel
theorem dX5_copy_206 : decode cX5_copy 206 = .ok (.aload_n 0, 1) := by decide +kernel
theorem dX5_copy_207 : decode cX5_copy 207 = .ok (.getfield 16, 3) := by decide +kernel
theorem dX5_copy_210 : decode cX5_copy 210 = .ok (.bipush 60, 2) := by decide +kernel
theorem dX5_copy_212 : decode cX5_copy 212 = .ok (.iload_n 1, 1) := by decide +kernel
theorem dX5_copy_213 : decode cX5_copy 213 = .ok (.imul, 1) := by decide +kernel
theorem dX5_copy_214 : decode cX5_copy 214 = .ok (.iload_n 2, 1) := by decide +kernel
theorem dX5_copy_215 : decode cX5_copy 215 = .ok (.iadd, 1) := by decide +kernel
theorem dX5_copy_216 : decode cX5_copy 216 = .ok (.iload 9, 2) := by decide +kernel
theorem dX5_copy_218 : decode cX5_copy 218 = .ok (.iadd, 1) := by decide +kernel
theorem dX5_copy_219 : decode cX5_copy 219 = .ok (.iaload, 1) := by decide +kernel
theorem dX5_copy_220 : decode cX5_copy 220 = .ok (.iastore, 1) := by decide +kernel
theorem dX5_copy_221 : decode cX5_copy 221 = .ok (.iinc 8 1, 3) := by decide +kernel
theorem dX5_copy_224 : decode cX5_copy 224 = .ok (.goto (-58), 3) := by decide +kernel
theorem dX5_copy_227 : decode cX5_copy 227 = .ok (.iload 5, 2) := by decide +kernel
theorem dX5_copy_229 : decode cX5_copy 229 = .ok (.ireturn, 1) := by decide +kernel
theorem dX5_begins_0 : decode cX5_begins 0 = .ok (.aload_n 0, 1) := by decide +kernel
theorem dX5_begins_1 : decode cX5_begins 1 = .ok (.bipush 31, 2) := by decide +kernel
theorem dX5_begins_3 : decode cX5_begins 3 = .ok (.aload_n 0, 1) := by decide +kernel
theorem dX5_begins_4 : decode cX5_begins 4 = .ok (.getfield 247, 3) := by decide +kernel
theorem dX5_begins_7 : decode cX5_begins 7 = .ok (.imul, 1) := by decide +kernel
theorem dX5_begins_8 : decode cX5_begins 8 = .ok (.iload_n 1, 1) := by decide +kernel
theorem dX5_begins_9 : decode cX5_begins 9 = .ok (.iadd, 1) := by decide +kernel
theorem dX5_begins_10 : decode cX5_begins 10 = .ok (.putfield 247, 3) := by decide +kernel
theorem dX5_begins_13 : decode cX5_begins 13 = .ok (.return_, 1) := by decide +kernel
theorem dX5_tell_0 : decode cX5_tell 0 = .ok (.aload_n 0, 1) := by decide +kernel
theorem dX5_tell_1 : decode cX5_tell 1 = .ok (.iload_n 1, 1) := by decide +kernel
theorem dX5_tell_2 : decode cX5_tell 2 = .ok (.invokevirtual 158, 3) := by decide +kernel
theorem dX5_tell_5 : decode cX5_tell 5 = .ok (.ifCond .ne 5, 3) := by decide +kernel
theorem dX5_tell_8 : decode cX5_tell 8 = .ok (.iconst (-1), 1) := by decide +kernel
theorem dX5_tell_9 : decode cX5_tell 9 = .ok (.ireturn, 1) := by decide +kernel
theorem dX5_tell_10 : decode cX5_tell 10 = .ok (.aload_n 0, 1) := by decide +kernel
theorem dX5_tell_11 : decode cX5_tell 11 = .ok (.getfield 34, 3) := by decide +kernel
theorem dX5_tell_14 : decode cX5_tell 14 = .ok (.iload_n 1, 1) := by decide +kernel
theorem dX5_tell_15 : decode cX5_tell 15 = .ok (.iaload, 1) := by decide +kernel
theorem dX5_tell_16 : decode cX5_tell 16 = .ok (.istore_n 2, 1) := by decide +kernel
theorem dX5_tell_17 : decode cX5_tell 17 = .ok (.aload_n 0, 1) := by decide +kernel
theorem dX5_tell_18 : decode cX5_tell 18 = .ok (.getfield 25, 3) := by decide +kernel
theorem dX5_tell_21 : decode cX5_tell 21 = .ok (.iload_n 1, 1) := by decide +kernel
theorem dX5_tell_22 : decode cX5_tell 22 = .ok (.iaload, 1) := by decide +kernel
theorem dX5_tell_23 : decode cX5_tell 23 = .ok (.lookupswitch 67 #[(1, 25), (2, 40)], 25) := by decide +kernel
theorem dX5_tell_48 : decode cX5_tell 48 = .ok (.aload_n 0, 1) := by decide +kernel
theorem dX5_tell_49 : decode cX5_tell 49 = .ok (.iconst 2, 1) := by decide +kernel
theorem dX5_tell_50 : decode cX5_tell 50 = .ok (.invokevirtual 250, 3) := by decide +kernel
theorem dX5_tell_53 : decode cX5_tell 53 = .ok (.aload_n 0, 1) := by decide +kernel
theorem dX5_tell_54 : decode cX5_tell 54 = .ok (.iconst 1, 1) := by decide +kernel
theorem dX5_tell_55 : decode cX5_tell 55 = .ok (.invokevirtual 250, 3) := by decide +kernel
theorem dX5_tell_58 : decode cX5_tell 58 = .ok (.iload_n 2, 1) := by decide +kernel
theorem dX5_tell_59 : decode cX5_tell 59 = .ok (.bipush 100, 2) := by decide +kernel
theorem dX5_tell_61 : decode cX5_tell 61 = .ok (.iadd, 1) := by decide +kernel
theorem dX5_tell_62 : decode cX5_tell 62 = .ok (.ireturn, 1) := by decide +kernel
theorem dX5_tell_63 : decode cX5_tell 63 = .ok (.aload_n 0, 1) := by decide +kernel
theorem dX5_tell_64 : decode cX5_tell 64 = .ok (.iconst 3, 1) := by decide +kernel
theorem dX5_tell_65 : decode cX5_tell 65 = .ok (.invokevirtual 250, 3) := by decide +kernel
theorem dX5_tell_68 : decode cX5_tell 68 = .ok (.aload_n 0, 1) := by decide +kernel
theorem dX5_tell_69 : decode cX5_tell 69 = .ok (.iconst 2, 1) := by decide +kernel
theorem dX5_tell_70 : decode cX5_tell 70 = .ok (.invokevirtual 250, 3) := by decide +kernel
theorem dX5_tell_73 : decode cX5_tell 73 = .ok (.aload_n 0, 1) := by decide +kernel
theorem dX5_tell_74 : decode cX5_tell 74 = .ok (.iconst 1, 1) := by decide +kernel
theorem dX5_tell_75 : decode cX5_tell 75 = .ok (.invokevirtual 250, 3) := by decide +kernel
theorem dX5_tell_78 : decode cX5_tell 78 = .ok (.aload_n 0, 1) := by decide +kernel
theorem dX5_tell_79 : decode cX5_tell 79 = .ok (.iconst 1, 1) := by decide +kernel
theorem dX5_tell_80 : decode cX5_tell 80 = .ok (.invokevirtual 250, 3) := by decide +kernel
theorem dX5_tell_83 : decode cX5_tell 83 = .ok (.iconst 2, 1) := by decide +kernel
theorem dX5_tell_84 : decode cX5_tell 84 = .ok (.iload_n 2, 1) := by decide +kernel
theorem dX5_tell_85 : decode cX5_tell 85 = .ok (.imul, 1) := by decide +kernel
theorem dX5_tell_86 : decode cX5_tell 86 = .ok (.bipush 100, 2) := by decide +kernel
theorem dX5_tell_88 : decode cX5_tell 88 = .ok (.iadd, 1) := by decide +kernel
theorem dX5_tell_89 : decode cX5_tell 89 = .ok (.ireturn, 1) := by decide +kernel
theorem dX5_tell_90 : decode cX5_tell 90 = .ok (.aload_n 0, 1) := by decide +kernel
theorem dX5_tell_91 : decode cX5_tell 91 = .ok (.iconst 1, 1) := by decide +kernel
theorem dX5_tell_92 : decode cX5_tell 92 = .ok (.invokevirtual 250, 3) := by decide +kernel
theorem dX5_tell_95 : decode cX5_tell 95 = .ok (.iload_n 2, 1) := by decide +kernel
theorem dX5_tell_96 : decode cX5_tell 96 = .ok (.ireturn, 1) := by decide +kernel
theorem dX5_knock_0 : decode cX5_knock 0 = .ok (.aload_n 0, 1) := by decide +kernel
theorem dX5_knock_1 : decode cX5_knock 1 = .ok (.iload_n 1, 1) := by decide +kernel
theorem dX5_knock_2 : decode cX5_knock 2 = .ok (.invokevirtual 158, 3) := by decide +kernel
theorem dX5_knock_5 : decode cX5_knock 5 = .ok (.ifCond .ne 5, 3) := by decide +kernel
theorem dX5_knock_8 : decode cX5_knock 8 = .ok (.iconst (-1), 1) := by decide +kernel
theorem dX5_knock_9 : decode cX5_knock 9 = .ok (.ireturn, 1) := by decide +kernel
theorem dX5_knock_10 : decode cX5_knock 10 = .ok (.aload_n 0, 1) := by decide +kernel
theorem dX5_knock_11 : decode cX5_knock 11 = .ok (.aload_n 0, 1) := by decide +kernel
theorem dX5_knock_12 : decode cX5_knock 12 = .ok (.getfield 25, 3) := by decide +kernel
theorem dX5_knock_15 : decode cX5_knock 15 = .ok (.iload_n 1, 1) := by decide +kernel
theorem dX5_knock_16 : decode cX5_knock 16 = .ok (.iaload, 1) := by decide +kernel
theorem dX5_knock_17 : decode cX5_knock 17 = .ok (.iconst 2, 1) := by decide +kernel
theorem dX5_knock_18 : decode cX5_knock 18 = .ok (.if_icmp .ne 7, 3) := by decide +kernel
theorem dX5_knock_21 : decode cX5_knock 21 = .ok (.iconst 5, 1) := by decide +kernel
theorem dX5_knock_22 : decode cX5_knock 22 = .ok (.goto 4, 3) := by decide +kernel
theorem dX5_knock_25 : decode cX5_knock 25 = .ok (.iconst 4, 1) := by decide +kernel
theorem dX5_knock_26 : decode cX5_knock 26 = .ok (.invokevirtual 250, 3) := by decide +kernel
theorem dX5_knock_29 : decode cX5_knock 29 = .ok (.aload_n 0, 1) := by decide +kernel
theorem dX5_knock_30 : decode cX5_knock 30 = .ok (.getfield 25, 3) := by decide +kernel
theorem dX5_knock_33 : decode cX5_knock 33 = .ok (.iload_n 1, 1) := by decide +kernel
theorem dX5_knock_34 : decode cX5_knock 34 = .ok (.iaload, 1) := by decide +kernel
theorem dX5_knock_35 : decode cX5_knock 35 = .ok (.iconst 2, 1) := by decide +kernel
theorem dX5_knock_36 : decode cX5_knock 36 = .ok (.if_icmp .ne 8, 3) := by decide +kernel
theorem dX5_knock_39 : decode cX5_knock 39 = .ok (.bipush 50, 2) := by decide +kernel
theorem dX5_knock_41 : decode cX5_knock 41 = .ok (.goto 4, 3) := by decide +kernel
theorem dX5_knock_44 : decode cX5_knock 44 = .ok (.iload_n 1, 1) := by decide +kernel
theorem dX5_knock_45 : decode cX5_knock 45 = .ok (.ireturn, 1) := by decide +kernel
theorem dX5_as_0 : decode cX5_as 0 = .ok (.aload_n 0, 1) := by decide +kernel
theorem dX5_as_1 : decode cX5_as 1 = .ok (.iconst 0, 1) := by decide +kernel
theorem dX5_as_2 : decode cX5_as 2 = .ok (.putfield 83, 3) := by decide +kernel
theorem dX5_as_5 : decode cX5_as 5 = .ok (.aload_n 0, 1) := by decide +kernel
theorem dX5_as_6 : decode cX5_as 6 = .ok (.iload_n 1, 1) := by decide +kernel
theorem dX5_as_7 : decode cX5_as 7 = .ok (.invokevirtual 158, 3) := by decide +kernel
theorem dX5_as_10 : decode cX5_as 10 = .ok (.ifCond .ne 5, 3) := by decide +kernel
theorem dX5_as_13 : decode cX5_as 13 = .ok (.iconst (-1), 1) := by decide +kernel
theorem dX5_as_14 : decode cX5_as 14 = .ok (.ireturn, 1) := by decide +kernel
theorem dX5_as_15 : decode cX5_as 15 = .ok (.iload_n 2, 1) := by decide +kernel
theorem dX5_as_16 : decode cX5_as 16 = .ok (.iconst 0, 1) := by decide +kernel
theorem dX5_as_17 : decode cX5_as 17 = .ok (.iconst 2, 1) := by decide +kernel
theorem dX5_as_18 : decode cX5_as 18 = .ok (.invokestatic 89, 3) := by decide +kernel
theorem dX5_as_21 : decode cX5_as 21 = .ok (.ifCond .ne 6, 3) := by decide +kernel
theorem dX5_as_24 : decode cX5_as 24 = .ok (.bipush (-2), 2) := by decide +kernel
theorem dX5_as_26 : decode cX5_as 26 = .ok (.ireturn, 1) := by decide +kernel
theorem dX5_as_27 : decode cX5_as 27 = .ok (.aload_n 0, 1) := by decide +kernel
theorem dX5_as_28 : decode cX5_as 28 = .ok (.getfield 25, 3) := by decide +kernel
theorem dX5_as_31 : decode cX5_as 31 = .ok (.iload_n 1, 1) := by decide +kernel
theorem dX5_as_32 : decode cX5_as 32 = .ok (.iaload, 1) := by decide +kernel
theorem dX5_as_33 : decode cX5_as 33 = .ok (.iload_n 2, 1) := by decide +kernel
theorem dX5_as_34 : decode cX5_as 34 = .ok (.if_icmp .lt 7, 3) := by decide +kernel
theorem dX5_as_37 : decode cX5_as 37 = .ok (.iconst 1, 1) := by decide +kernel
theorem dX5_as_38 : decode cX5_as 38 = .ok (.goto 8, 3) := by decide +kernel
theorem dX5_as_41 : decode cX5_as 41 = .ok (.aload_n 0, 1) := by decide +kernel
theorem dX5_as_42 : decode cX5_as 42 = .ok (.iconst 2, 1) := by decide +kernel
theorem dX5_as_43 : decode cX5_as 43 = .ok (.invokevirtual 113, 3) := by decide +kernel
theorem dX5_as_46 : decode cX5_as 46 = .ok (.ireturn, 1) := by decide +kernel
theorem dX5_trace_0 : decode cX5_trace 0 = .ok (.aload_n 0, 1) := by decide +kernel
theorem dX5_trace_1 : decode cX5_trace 1 = .ok (.getfield 247, 3) := by decide +kernel
theorem dX5_trace_4 : decode cX5_trace 4 = .ok (.ireturn, 1) := by decide +kernel
theorem dX5_fault_0 : decode cX5_fault 0 = .ok (.aload_n 0, 1) := by decide +kernel
theorem dX5_fault_1 : decode cX5_fault 1 = .ok (.getfield 83, 3) := by decide +kernel
theorem dX5_fault_4 : decode cX5_fault 4 = .ok (.ireturn, 1) := by decide +kernel
theorem dX5_many_0 : decode cX5_many 0 = .ok (.iload_n 1, 1) := by decide +kernel
theorem dX5_many_1 : decode cX5_many 1 = .ok (.tableswitch 60 0 4 #[35, 40, 45, 50, 55], 35) := by decide +kernel
theorem dX5_many_36 : decode cX5_many 36 = .ok (.aload_n 0, 1) := by decide +kernel
theorem dX5_many_37 : decode cX5_many 37 = .ok (.getfield 93, 3) := by decide +kernel
theorem dX5_many_40 : decode cX5_many 40 = .ok (.ireturn, 1) := by decide +kernel
theorem dX5_many_41 : decode cX5_many 41 = .ok (.aload_n 0, 1) := by decide +kernel
theorem dX5_many_42 : decode cX5_many 42 = .ok (.getfield 96, 3) := by decide +kernel
theorem dX5_many_45 : decode cX5_many 45 = .ok (.ireturn, 1) := by decide +kernel
theorem dX5_many_46 : decode cX5_many 46 = .ok (.aload_n 0, 1) := by decide +kernel
theorem dX5_many_47 : decode cX5_many 47 = .ok (.getfield 123, 3) := by decide +kernel
theorem dX5_many_50 : decode cX5_many 50 = .ok (.ireturn, 1) := by decide +kernel
theorem dX5_many_51 : decode cX5_many 51 = .ok (.aload_n 0, 1) := by decide +kernel
theorem dX5_many_52 : decode cX5_many 52 = .ok (.getfield 132, 3) := by decide +kernel
theorem dX5_many_55 : decode cX5_many 55 = .ok (.ireturn, 1) := by decide +kernel
theorem dX5_many_56 : decode cX5_many 56 = .ok (.aload_n 0, 1) := by decide +kernel
theorem dX5_many_57 : decode cX5_many 57 = .ok (.getfield 135, 3) := by decide +kernel
theorem dX5_many_60 : decode cX5_many 60 = .ok (.ireturn, 1) := by decide +kernel
theorem dX5_many_61 : decode cX5_many 61 = .ok (.bipush (-2), 2) := by decide +kernel
theorem dX5_many_63 : decode cX5_many 63 = .ok (.ireturn, 1) := by decide +kernel
