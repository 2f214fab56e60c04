theorem dX4_refusalOfCells_42 : decode cX4_refusalOfCells 42 = .ok (.iconst 0, 1) := by decide +kernel
theorem dX4_refusalOfCells_43 : decode cX4_refusalOfCells 43 = .ok (.goto 8, 3) := by decide +kernel
theorem dX4_refusalOfCells_46 : decode cX4_refusalOfCells 46 = .ok (.aload_n 0, 1) := by decide +kernel
theorem dX4_refusalOfCells_47 : decode cX4_refusalOfCells 47 = .ok (.iconst 3, 1) := by decide +kernel
theorem dX4_refusalOfCells_48 : decode cX4_refusalOfCells 48 = .ok (.invokevirtual 221, 3) := by decide +kernel
theorem dX4_refusalOfCells_51 : decode cX4_refusalOfCells 51 = .ok (.ireturn, 1) := by decide +kernel
theorem dX4_firstFault_0 : decode cX4_firstFault 0 = .ok (.aload_n 0, 1) := by decide +kernel
theorem dX4_firstFault_1 : decode cX4_firstFault 1 = .ok (.getfield 36, 3) := by decide +kernel
theorem dX4_firstFault_4 : decode cX4_firstFault 4 = .ok (.invokevirtual 270, 3) := by decide +kernel
theorem dX4_firstFault_7 : decode cX4_firstFault 7 = .ok (.iconst 0, 1) := by decide +kernel
theorem dX4_firstFault_8 : decode cX4_firstFault 8 = .ok (.istore 4, 2) := by decide +kernel
theorem dX4_firstFault_10 : decode cX4_firstFault 10 = .ok (.iload 4, 2) := by decide +kernel
theorem dX4_firstFault_12 : decode cX4_firstFault 12 = .ok (.iload_n 3, 1) := by decide +kernel
theorem dX4_firstFault_13 : decode cX4_firstFault 13 = .ok (.if_icmp .ge 30, 3) := by decide +kernel
theorem dX4_firstFault_16 : decode cX4_firstFault 16 = .ok (.aload_n 0, 1) := by decide +kernel
theorem dX4_firstFault_17 : decode cX4_firstFault 17 = .ok (.getfield 36, 3) := by decide +kernel
theorem dX4_firstFault_20 : decode cX4_firstFault 20 = .ok (.aload_n 1, 1) := by decide +kernel
theorem dX4_firstFault_21 : decode cX4_firstFault 21 = .ok (.iload_n 2, 1) := by decide +kernel
theorem dX4_firstFault_22 : decode cX4_firstFault 22 = .ok (.iload 4, 2) := by decide +kernel
theorem dX4_firstFault_24 : decode cX4_firstFault 24 = .ok (.iadd, 1) := by decide +kernel
theorem dX4_firstFault_25 : decode cX4_firstFault 25 = .ok (.invokevirtual 205, 3) := by decide +kernel
theorem dX4_firstFault_28 : decode cX4_firstFault 28 = .ok (.invokevirtual 273, 3) := by decide +kernel
theorem dX4_firstFault_31 : decode cX4_firstFault 31 = .ok (.ifCond .ne 6, 3) := by decide +kernel
theorem dX4_firstFault_34 : decode cX4_firstFault 34 = .ok (.iload 4, 2) := by decide +kernel
theorem dX4_firstFault_36 : decode cX4_firstFault 36 = .ok (.ireturn, 1) := by decide +kernel
theorem dX4_firstFault_37 : decode cX4_firstFault 37 = .ok (.iinc 4 1, 3) := by decide +kernel
theorem dX4_firstFault_40 : decode cX4_firstFault 40 = .ok (.goto (-30), 3) := by decide +kernel
theorem dX4_firstFault_43 : decode cX4_firstFault 43 = .ok (.aload_n 0, 1) := by decide +kernel
theorem dX4_firstFault_44 : decode cX4_firstFault 44 = .ok (.getfield 36, 3) := by decide +kernel
theorem dX4_firstFault_47 : decode cX4_firstFault 47 = .ok (.invokevirtual 276, 3) := by decide +kernel
theorem dX4_firstFault_50 : decode cX4_firstFault 50 = .ok (.ifCond .eq 8, 3) := by decide +kernel
theorem dX4_firstFault_53 : decode cX4_firstFault 53 = .ok (.bipush (-9), 2) := by decide +kernel
theorem dX4_firstFault_55 : decode cX4_firstFault 55 = .ok (.goto 4, 3) := by decide +kernel
theorem dX4_firstFault_58 : decode cX4_firstFault 58 = .ok (.iload_n 3, 1) := by decide +kernel
theorem dX4_firstFault_59 : decode cX4_firstFault 59 = .ok (.ireturn, 1) := by decide +kernel
theorem dX4_freshWeeks_0 : decode cX4_freshWeeks 0 = .ok (.aload_n 0, 1) := by decide +kernel
theorem dX4_freshWeeks_1 : decode cX4_freshWeeks 1 = .ok (.getfield 55, 3) := by decide +kernel
theorem dX4_freshWeeks_4 : decode cX4_freshWeeks 4 = .ok (.ifCond .ne 34, 3) := by decide +kernel
theorem dX4_freshWeeks_7 : decode cX4_freshWeeks 7 = .ok (.aload_n 0, 1) := by decide +kernel
theorem dX4_freshWeeks_8 : decode cX4_freshWeeks 8 = .ok (.getfield 44, 3) := by decide +kernel
theorem dX4_freshWeeks_11 : decode cX4_freshWeeks 11 = .ok (.aload_n 0, 1) := by decide +kernel
theorem dX4_freshWeeks_12 : decode cX4_freshWeeks 12 = .ok (.getfield 32, 3) := by decide +kernel
theorem dX4_freshWeeks_15 : decode cX4_freshWeeks 15 = .ok (.aload_n 0, 1) := by decide +kernel
theorem dX4_freshWeeks_16 : decode cX4_freshWeeks 16 = .ok (.getfield 51, 3) := by decide +kernel
theorem dX4_freshWeeks_19 : decode cX4_freshWeeks 19 = .ok (.invokevirtual 160, 3) := by decide +kernel
theorem dX4_freshWeeks_22 : decode cX4_freshWeeks 22 = .ok (.aload_n 0, 1) := by decide +kernel
theorem dX4_freshWeeks_23 : decode cX4_freshWeeks 23 = .ok (.getfield 44, 3) := by decide +kernel
theorem dX4_freshWeeks_26 : decode cX4_freshWeeks 26 = .ok (.bipush 10, 2) := by decide +kernel
theorem dX4_freshWeeks_28 : decode cX4_freshWeeks 28 = .ok (.iconst 0, 1) := by decide +kernel
theorem dX4_freshWeeks_29 : decode cX4_freshWeeks 29 = .ok (.invokevirtual 165, 3) := by decide +kernel
theorem dX4_freshWeeks_32 : decode cX4_freshWeeks 32 = .ok (.pop, 1) := by decide +kernel
theorem dX4_freshWeeks_33 : decode cX4_freshWeeks 33 = .ok (.aload_n 0, 1) := by decide +kernel
theorem dX4_freshWeeks_34 : decode cX4_freshWeeks 34 = .ok (.iconst 1, 1) := by decide +kernel
theorem dX4_freshWeeks_35 : decode cX4_freshWeeks 35 = .ok (.putfield 55, 3) := by decide +kernel
theorem dX4_freshWeeks_38 : decode cX4_freshWeeks 38 = .ok (.aload_n 0, 1) := by decide +kernel
theorem dX4_freshWeeks_39 : decode cX4_freshWeeks 39 = .ok (.getfield 44, 3) := by decide +kernel
theorem dX4_freshWeeks_42 : decode cX4_freshWeeks 42 = .ok (.areturn, 1) := by decide +kernel
theorem dX4_lessWearWithout_0 : decode cX4_lessWearWithout 0 = .ok (.iload_n 2, 1) := by decide +kernel
theorem dX4_lessWearWithout_1 : decode cX4_lessWearWithout 1 = .ok (.bipush 13, 2) := by decide +kernel
theorem dX4_lessWearWithout_3 : decode cX4_lessWearWithout 3 = .ok (.invokestatic 138, 3) := by decide +kernel
theorem dX4_lessWearWithout_6 : decode cX4_lessWearWithout 6 = .ok (.istore_n 3, 1) := by decide +kernel
theorem dX4_lessWearWithout_7 : decode cX4_lessWearWithout 7 = .ok (.aload_n 0, 1) := by decide +kernel
theorem dX4_lessWearWithout_8 : decode cX4_lessWearWithout 8 = .ok (.getfield 48, 3) := by decide +kernel
theorem dX4_lessWearWithout_11 : decode cX4_lessWearWithout 11 = .ok (.aload_n 0, 1) := by decide +kernel
theorem dX4_lessWearWithout_12 : decode cX4_lessWearWithout 12 = .ok (.getfield 32, 3) := by decide +kernel
theorem dX4_lessWearWithout_15 : decode cX4_lessWearWithout 15 = .ok (.aload_n 0, 1) := by decide +kernel
theorem dX4_lessWearWithout_16 : decode cX4_lessWearWithout 16 = .ok (.getfield 51, 3) := by decide +kernel
theorem dX4_lessWearWithout_19 : decode cX4_lessWearWithout 19 = .ok (.iconst 1, 1) := by decide +kernel
theorem dX4_lessWearWithout_20 : decode cX4_lessWearWithout 20 = .ok (.iload_n 1, 1) := by decide +kernel
theorem dX4_lessWearWithout_21 : decode cX4_lessWearWithout 21 = .ok (.ishl, 1) := by decide +kernel
theorem dX4_lessWearWithout_22 : decode cX4_lessWearWithout 22 = .ok (.ior, 1) := by decide +kernel
theorem dX4_lessWearWithout_23 : decode cX4_lessWearWithout 23 = .ok (.invokevirtual 160, 3) := by decide +kernel
theorem dX4_lessWearWithout_26 : decode cX4_lessWearWithout 26 = .ok (.aload_n 0, 1) := by decide +kernel
theorem dX4_lessWearWithout_27 : decode cX4_lessWearWithout 27 = .ok (.getfield 48, 3) := by decide +kernel
theorem dX4_lessWearWithout_30 : decode cX4_lessWearWithout 30 = .ok (.iload_n 2, 1) := by decide +kernel
theorem dX4_lessWearWithout_31 : decode cX4_lessWearWithout 31 = .ok (.iconst 1, 1) := by decide +kernel
theorem dX4_lessWearWithout_32 : decode cX4_lessWearWithout 32 = .ok (.iadd, 1) := by decide +kernel
theorem dX4_lessWearWithout_33 : decode cX4_lessWearWithout 33 = .ok (.iconst 0, 1) := by decide +kernel
theorem dX4_lessWearWithout_34 : decode cX4_lessWearWithout 34 = .ok (.invokevirtual 165, 3) := by decide +kernel
theorem dX4_lessWearWithout_37 : decode cX4_lessWearWithout 37 = .ok (.pop, 1) := by decide +kernel
theorem dX4_lessWearWithout_38 : decode cX4_lessWearWithout 38 = .ok (.iconst 0, 1) := by decide +kernel
theorem dX4_lessWearWithout_39 : decode cX4_lessWearWithout 39 = .ok (.aload_n 0, 1) := by decide +kernel
theorem dX4_lessWearWithout_40 : decode cX4_lessWearWithout 40 = .ok (.invokevirtual 134, 3) := by decide +kernel
theorem dX4_lessWearWithout_43 : decode cX4_lessWearWithout 43 = .ok (.iload_n 3, 1) := by decide +kernel
theorem dX4_lessWearWithout_44 : decode cX4_lessWearWithout 44 = .ok (.invokevirtual 279, 3) := by decide +kernel
theorem dX4_lessWearWithout_47 : decode cX4_lessWearWithout 47 = .ok (.aload_n 0, 1) := by decide +kernel
theorem dX4_lessWearWithout_48 : decode cX4_lessWearWithout 48 = .ok (.getfield 48, 3) := by decide +kernel
theorem dX4_lessWearWithout_51 : decode cX4_lessWearWithout 51 = .ok (.iload_n 3, 1) := by decide +kernel
theorem dX4_lessWearWithout_52 : decode cX4_lessWearWithout 52 = .ok (.invokevirtual 279, 3) := by decide +kernel
theorem dX4_lessWearWithout_55 : decode cX4_lessWearWithout 55 = .ok (.isub, 1) := by decide +kernel
theorem dX4_lessWearWithout_56 : decode cX4_lessWearWithout 56 = .ok (.invokestatic 282, 3) := by decide +kernel
theorem dX4_lessWearWithout_59 : decode cX4_lessWearWithout 59 = .ok (.ireturn, 1) := by decide +kernel
theorem dX4_readingsAreSoInTrial_0 : decode cX4_readingsAreSoInTrial 0 = .ok (.aload_n 0, 1) := by decide +kernel
theorem dX4_readingsAreSoInTrial_1 : decode cX4_readingsAreSoInTrial 1 = .ok (.getfield 48, 3) := by decide +kernel
theorem dX4_readingsAreSoInTrial_4 : decode cX4_readingsAreSoInTrial 4 = .ok (.bipush 10, 2) := by decide +kernel
theorem dX4_readingsAreSoInTrial_6 : decode cX4_readingsAreSoInTrial 6 = .ok (.iconst 0, 1) := by decide +kernel
theorem dX4_readingsAreSoInTrial_7 : decode cX4_readingsAreSoInTrial 7 = .ok (.invokevirtual 165, 3) := by decide +kernel
theorem dX4_readingsAreSoInTrial_10 : decode cX4_readingsAreSoInTrial 10 = .ok (.pop, 1) := by decide +kernel
theorem dX4_readingsAreSoInTrial_11 : decode cX4_readingsAreSoInTrial 11 = .ok (.aload_n 0, 1) := by decide +kernel
theorem dX4_readingsAreSoInTrial_12 : decode cX4_readingsAreSoInTrial 12 = .ok (.getfield 26, 3) := by decide +kernel
theorem dX4_readingsAreSoInTrial_15 : decode cX4_readingsAreSoInTrial 15 = .ok (.aload_n 0, 1) := by decide +kernel
theorem dX4_readingsAreSoInTrial_16 : decode cX4_readingsAreSoInTrial 16 = .ok (.getfield 48, 3) := by decide +kernel
theorem dX4_readingsAreSoInTrial_19 : decode cX4_readingsAreSoInTrial 19 = .ok (.invokevirtual 285, 3) := by decide +kernel
theorem dX4_readingsAreSoInTrial_22 : decode cX4_readingsAreSoInTrial 22 = .ok (.ireturn, 1) := by decide +kernel
theorem dX4_ofShare_0 : decode cX4_ofShare 0 = .ok (.iload_n 0, 1) := by decide +kernel
theorem dX4_ofShare_1 : decode cX4_ofShare 1 = .ok (.iload_n 1, 1) := by decide +kernel
theorem dX4_ofShare_2 : decode cX4_ofShare 2 = .ok (.invokestatic 289, 3) := by decide +kernel
theorem dX4_ofShare_5 : decode cX4_ofShare 5 = .ok (.istore_n 3, 1) := by decide +kernel
theorem dX4_ofShare_6 : decode cX4_ofShare 6 = .ok (.iload_n 3, 1) := by decide +kernel
theorem dX4_ofShare_7 : decode cX4_ofShare 7 = .ok (.ifCond .eq 7, 3) := by decide +kernel
theorem dX4_ofShare_10 : decode cX4_ofShare 10 = .ok (.iload_n 1, 1) := by decide +kernel
theorem dX4_ofShare_11 : decode cX4_ofShare 11 = .ok (.ifCond .ne 6, 3) := by decide +kernel
theorem dX4_ofShare_14 : decode cX4_ofShare 14 = .ok (.iload_n 2, 1) := by decide +kernel
theorem dX4_ofShare_15 : decode cX4_ofShare 15 = .ok (.i2l, 1) := by decide +kernel
theorem dX4_ofShare_16 : decode cX4_ofShare 16 = .ok (.lreturn, 1) := by decide +kernel
theorem dX4_ofShare_17 : decode cX4_ofShare 17 = .ok (.iload_n 2, 1) := by decide +kernel
theorem dX4_ofShare_18 : decode cX4_ofShare 18 = .ok (.ifCond .ne 10, 3) := by decide +kernel
theorem dX4_ofShare_21 : decode cX4_ofShare 21 = .ok (.iload_n 0, 1) := by decide +kernel
theorem dX4_ofShare_22 : decode cX4_ofShare 22 = .ok (.iload_n 3, 1) := by decide +kernel
theorem dX4_ofShare_23 : decode cX4_ofShare 23 = .ok (.idiv, 1) := by decide +kernel
theorem dX4_ofShare_24 : decode cX4_ofShare 24 = .ok (.i2l, 1) := by decide +kernel
theorem dX4_ofShare_25 : decode cX4_ofShare 25 = .ok (.goto 7, 3) := by decide +kernel
theorem dX4_ofShare_28 : decode cX4_ofShare 28 = .ok (.iload_n 1, 1) := by decide +kernel
theorem dX4_ofShare_29 : decode cX4_ofShare 29 = .ok (.iload_n 3, 1) := by decide +kernel
theorem dX4_ofShare_30 : decode cX4_ofShare 30 = .ok (.idiv, 1) := by decide +kernel
theorem dX4_ofShare_31 : decode cX4_ofShare 31 = .ok (.i2l, 1) := by decide +kernel
theorem dX4_ofShare_32 : decode cX4_ofShare 32 = .ok (.lreturn, 1) := by decide +kernel
theorem dX4_commonDivisor_0 : decode cX4_commonDivisor 0 = .ok (.iload_n 0, 1) := by decide +kernel
theorem dX4_commonDivisor_1 : decode cX4_commonDivisor 1 = .ok (.istore_n 2, 1) := by decide +kernel
theorem dX4_commonDivisor_2 : decode cX4_commonDivisor 2 = .ok (.iload_n 1, 1) := by decide +kernel
theorem dX4_commonDivisor_3 : decode cX4_commonDivisor 3 = .ok (.istore_n 3, 1) := by decide +kernel
theorem dX4_commonDivisor_4 : decode cX4_commonDivisor 4 = .ok (.iconst 0, 1) := by decide +kernel
theorem dX4_commonDivisor_5 : decode cX4_commonDivisor 5 = .ok (.istore 4, 2) := by decide +kernel
theorem dX4_commonDivisor_7 : decode cX4_commonDivisor 7 = .ok (.iload 4, 2) := by decide +kernel
theorem dX4_commonDivisor_9 : decode cX4_commonDivisor 9 = .ok (.bipush 64, 2) := by decide +kernel
theorem dX4_commonDivisor_11 : decode cX4_commonDivisor 11 = .ok (.if_icmp .ge 23, 3) := by decide +kernel
theorem dX4_commonDivisor_14 : decode cX4_commonDivisor 14 = .ok (.iload_n 3, 1) := by decide +kernel
theorem dX4_commonDivisor_15 : decode cX4_commonDivisor 15 = .ok (.ifCond .eq 19, 3) := by decide +kernel
theorem dX4_commonDivisor_18 : decode cX4_commonDivisor 18 = .ok (.iload_n 2, 1) := by decide +kernel
theorem dX4_commonDivisor_19 : decode cX4_commonDivisor 19 = .ok (.iload_n 3, 1) := by decide +kernel
theorem dX4_commonDivisor_20 : decode cX4_commonDivisor 20 = .ok (.irem, 1) := by decide +kernel
theorem dX4_commonDivisor_21 : decode cX4_commonDivisor 21 = .ok (.istore 5, 2) := by decide +kernel
theorem dX4_commonDivisor_23 : decode cX4_commonDivisor 23 = .ok (.iload_n 3, 1) := by decide +kernel
theorem dX4_commonDivisor_24 : decode cX4_commonDivisor 24 = .ok (.istore_n 2, 1) := by decide +kernel
theorem dX4_commonDivisor_25 : decode cX4_commonDivisor 25 = .ok (.iload 5, 2) := by decide +kernel
theorem dX4_commonDivisor_27 : decode cX4_commonDivisor 27 = .ok (.istore_n 3, 1) := by decide +kernel
theorem dX4_commonDivisor_28 : decode cX4_commonDivisor 28 = .ok (.iinc 4 1, 3) := by decide +kernel
theorem dX4_commonDivisor_31 : decode cX4_commonDivisor 31 = .ok (.goto (-24), 3) := by decide +kernel
theorem dX4_commonDivisor_34 : decode cX4_commonDivisor 34 = .ok (.iload_n 2, 1) := by decide +kernel
theorem dX4_commonDivisor_35 : decode cX4_commonDivisor 35 = .ok (.ireturn, 1) := by decide +kernel
theorem dX4_wantsOf_0 : decode cX4_wantsOf 0 = .ok (.iload_n 0, 1) := by decide +kernel
theorem dX4_wantsOf_1 : decode cX4_wantsOf 1 = .ok (.lookupswitch 33 #[(0, 27), (1, 29)], 27) := by decide +kernel
theorem dX4_wantsOf_28 : decode cX4_wantsOf 28 = .ok (.iload_n 1, 1) := by decide +kernel
theorem dX4_wantsOf_29 : decode cX4_wantsOf 29 = .ok (.ireturn, 1) := by decide +kernel
theorem dX4_wantsOf_30 : decode cX4_wantsOf 30 = .ok (.iload_n 1, 1) := by decide +kernel
theorem dX4_wantsOf_31 : decode cX4_wantsOf 31 = .ok (.iconst 1, 1) := by decide +kernel
theorem dX4_wantsOf_32 : decode cX4_wantsOf 32 = .ok (.iadd, 1) := by decide +kernel
theorem dX4_wantsOf_33 : decode cX4_wantsOf 33 = .ok (.ireturn, 1) := by decide +kernel
theorem dX4_wantsOf_34 : decode cX4_wantsOf 34 = .ok (.iconst 2, 1) := by decide +kernel
theorem dX4_wantsOf_35 : decode cX4_wantsOf 35 = .ok (.iload_n 1, 1) := by decide +kernel
theorem dX4_wantsOf_36 : decode cX4_wantsOf 36 = .ok (.iconst 1, 1) := by decide +kernel
theorem dX4_wantsOf_37 : decode cX4_wantsOf 37 = .ok (.iadd, 1) := by decide +kernel
theorem dX4_wantsOf_38 : decode cX4_wantsOf 38 = .ok (.imul, 1) := by decide +kernel
theorem dX4_wantsOf_39 : decode cX4_wantsOf 39 = .ok (.ireturn, 1) := by decide +kernel
theorem dX4_leaveInTrace_0 : decode cX4_leaveInTrace 0 = .ok (.aload_n 0, 1) := by decide +kernel
theorem dX4_leaveInTrace_1 : decode cX4_leaveInTrace 1 = .ok (.bipush 31, 2) := by decide +kernel
theorem dX4_leaveInTrace_3 : decode cX4_leaveInTrace 3 = .ok (.aload_n 0, 1) := by decide +kernel
theorem dX4_leaveInTrace_4 : decode cX4_leaveInTrace 4 = .ok (.getfield 59, 3) := by decide +kernel
theorem dX4_leaveInTrace_7 : decode cX4_leaveInTrace 7 = .ok (.imul, 1) := by decide +kernel
theorem dX4_leaveInTrace_8 : decode cX4_leaveInTrace 8 = .ok (.iload_n 1, 1) := by decide +kernel
theorem dX4_leaveInTrace_9 : decode cX4_leaveInTrace 9 = .ok (.iadd, 1) := by decide +kernel
theorem dX4_leaveInTrace_10 : decode cX4_leaveInTrace 10 = .ok (.putfield 59, 3) := by decide +kernel
theorem dX4_leaveInTrace_13 : decode cX4_leaveInTrace 13 = .ok (.return_, 1) := by decide +kernel
theorem dX4_tellDweller_0 : decode cX4_tellDweller 0 = .ok (.aload_n 0, 1) := by decide +kernel
theorem dX4_tellDweller_1 : decode cX4_tellDweller 1 = .ok (.iconst 1, 1) := by decide +kernel
theorem dX4_tellDweller_2 : decode cX4_tellDweller 2 = .ok (.invokevirtual 264, 3) := by decide +kernel
theorem dX4_tellDweller_5 : decode cX4_tellDweller 5 = .ok (.aload_n 0, 1) := by decide +kernel
theorem dX4_tellDweller_6 : decode cX4_tellDweller 6 = .ok (.getfield 32, 3) := by decide +kernel
theorem dX4_tellDweller_9 : decode cX4_tellDweller 9 = .ok (.getfield 103, 3) := by decide +kernel
theorem dX4_tellDweller_12 : decode cX4_tellDweller 12 = .ok (.iload_n 1, 1) := by decide +kernel
theorem dX4_tellDweller_13 : decode cX4_tellDweller 13 = .ok (.iaload, 1) := by decide +kernel
theorem dX4_tellDweller_14 : decode cX4_tellDweller 14 = .ok (.ireturn, 1) := by decide +kernel
theorem dX4_tellHearty_0 : decode cX4_tellHearty 0 = .ok (.aload_n 0, 1) := by decide +kernel
theorem dX4_tellHearty_1 : decode cX4_tellHearty 1 = .ok (.iconst 2, 1) := by decide +kernel
theorem dX4_tellHearty_2 : decode cX4_tellHearty 2 = .ok (.invokevirtual 264, 3) := by decide +kernel
theorem dX4_tellHearty_5 : decode cX4_tellHearty 5 = .ok (.aload_n 0, 1) := by decide +kernel
theorem dX4_tellHearty_6 : decode cX4_tellHearty 6 = .ok (.iload_n 1, 1) := by decide +kernel
theorem dX4_tellHearty_7 : decode cX4_tellHearty 7 = .ok (.invokevirtual 255, 3) := by decide +kernel
theorem dX4_tellHearty_10 : decode cX4_tellHearty 10 = .ok (.bipush 100, 2) := by decide +kernel
theorem dX4_tellHearty_12 : decode cX4_tellHearty 12 = .ok (.iadd, 1) := by decide +kernel
theorem dX4_tellHearty_13 : decode cX4_tellHearty 13 = .ok (.ireturn, 1) := by decide +kernel
theorem dX4_tellFroward_0 : decode cX4_tellFroward 0 = .ok (.aload_n 0, 1) := by decide +kernel
theorem dX4_tellFroward_1 : decode cX4_tellFroward 1 = .ok (.iconst 3, 1) := by decide +kernel
theorem dX4_tellFroward_2 : decode cX4_tellFroward 2 = .ok (.invokevirtual 264, 3) := by decide +kernel
theorem dX4_tellFroward_5 : decode cX4_tellFroward 5 = .ok (.aload_n 0, 1) := by decide +kernel
theorem dX4_tellFroward_6 : decode cX4_tellFroward 6 = .ok (.iload_n 1, 1) := by decide +kernel
theorem dX4_tellFroward_7 : decode cX4_tellFroward 7 = .ok (.invokevirtual 258, 3) := by decide +kernel
theorem dX4_tellFroward_10 : decode cX4_tellFroward 10 = .ok (.aload_n 0, 1) := by decide +kernel
theorem dX4_tellFroward_11 : decode cX4_tellFroward 11 = .ok (.iload_n 1, 1) := by decide +kernel
theorem dX4_tellFroward_12 : decode cX4_tellFroward 12 = .ok (.invokevirtual 255, 3) := by decide +kernel
theorem dX4_tellFroward_15 : decode cX4_tellFroward 15 = .ok (.iadd, 1) := by decide +kernel
theorem dX4_tellFroward_16 : decode cX4_tellFroward 16 = .ok (.ireturn, 1) := by decide +kernel
