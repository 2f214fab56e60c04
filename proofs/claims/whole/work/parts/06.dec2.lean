theorem dX4_init_0 : decode cX4_init 0 = .ok (.aload_n 0, 1) := by decide +kernel
theorem dX4_init_1 : decode cX4_init 1 = .ok (.invokespecial 5, 3) := by decide +kernel
theorem dX4_init_4 : decode cX4_init 4 = .ok (.aload_n 0, 1) := by decide +kernel
theorem dX4_init_5 : decode cX4_init 5 = .ok (.iconst 4, 1) := by decide +kernel
theorem dX4_init_6 : decode cX4_init 6 = .ok (.anewarray 11, 3) := by decide +kernel
theorem dX4_init_9 : decode cX4_init 9 = .ok (.putfield 13, 3) := by decide +kernel
theorem dX4_init_12 : decode cX4_init 12 = .ok (.aload_n 0, 1) := by decide +kernel
theorem dX4_init_13 : decode cX4_init 13 = .ok (.new 17, 3) := by decide +kernel
theorem dX4_init_16 : decode cX4_init 16 = .ok (.dup, 1) := by decide +kernel
theorem dX4_init_17 : decode cX4_init 17 = .ok (.bipush 6, 2) := by decide +kernel
theorem dX4_init_19 : decode cX4_init 19 = .ok (.invokespecial 19, 3) := by decide +kernel
theorem dX4_init_22 : decode cX4_init 22 = .ok (.putfield 22, 3) := by decide +kernel
theorem dX4_init_25 : decode cX4_init 25 = .ok (.aload_n 0, 1) := by decide +kernel
theorem dX4_init_26 : decode cX4_init 26 = .ok (.new 17, 3) := by decide +kernel
theorem dX4_init_29 : decode cX4_init 29 = .ok (.dup, 1) := by decide +kernel
theorem dX4_init_30 : decode cX4_init 30 = .ok (.bipush 8, 2) := by decide +kernel
theorem dX4_init_32 : decode cX4_init 32 = .ok (.invokespecial 19, 3) := by decide +kernel
theorem dX4_init_35 : decode cX4_init 35 = .ok (.putfield 26, 3) := by decide +kernel
theorem dX4_init_38 : decode cX4_init 38 = .ok (.aload_n 0, 1) := by decide +kernel
theorem dX4_init_39 : decode cX4_init 39 = .ok (.new 29, 3) := by decide +kernel
theorem dX4_init_42 : decode cX4_init 42 = .ok (.dup, 1) := by decide +kernel
theorem dX4_init_43 : decode cX4_init 43 = .ok (.invokespecial 31, 3) := by decide +kernel
theorem dX4_init_46 : decode cX4_init 46 = .ok (.putfield 32, 3) := by decide +kernel
theorem dX4_init_49 : decode cX4_init 49 = .ok (.aload_n 0, 1) := by decide +kernel
theorem dX4_init_50 : decode cX4_init 50 = .ok (.new 29, 3) := by decide +kernel
theorem dX4_init_53 : decode cX4_init 53 = .ok (.dup, 1) := by decide +kernel
theorem dX4_init_54 : decode cX4_init 54 = .ok (.invokespecial 31, 3) := by decide +kernel
theorem dX4_init_57 : decode cX4_init 57 = .ok (.putfield 36, 3) := by decide +kernel
theorem dX4_init_60 : decode cX4_init 60 = .ok (.aload_n 0, 1) := by decide +kernel
theorem dX4_init_61 : decode cX4_init 61 = .ok (.new 39, 3) := by decide +kernel
theorem dX4_init_64 : decode cX4_init 64 = .ok (.dup, 1) := by decide +kernel
theorem dX4_init_65 : decode cX4_init 65 = .ok (.aload_n 0, 1) := by decide +kernel
theorem dX4_init_66 : decode cX4_init 66 = .ok (.getfield 32, 3) := by decide +kernel
theorem dX4_init_69 : decode cX4_init 69 = .ok (.aload_n 0, 1) := by decide +kernel
theorem dX4_init_70 : decode cX4_init 70 = .ok (.getfield 22, 3) := by decide +kernel
theorem dX4_init_73 : decode cX4_init 73 = .ok (.invokespecial 41, 3) := by decide +kernel
theorem dX4_init_76 : decode cX4_init 76 = .ok (.putfield 44, 3) := by decide +kernel
theorem dX4_init_79 : decode cX4_init 79 = .ok (.aload_n 0, 1) := by decide +kernel
theorem dX4_init_80 : decode cX4_init 80 = .ok (.new 39, 3) := by decide +kernel
theorem dX4_init_83 : decode cX4_init 83 = .ok (.dup, 1) := by decide +kernel
theorem dX4_init_84 : decode cX4_init 84 = .ok (.aload_n 0, 1) := by decide +kernel
theorem dX4_init_85 : decode cX4_init 85 = .ok (.getfield 32, 3) := by decide +kernel
theorem dX4_init_88 : decode cX4_init 88 = .ok (.aload_n 0, 1) := by decide +kernel
theorem dX4_init_89 : decode cX4_init 89 = .ok (.getfield 22, 3) := by decide +kernel
theorem dX4_init_92 : decode cX4_init 92 = .ok (.invokespecial 41, 3) := by decide +kernel
theorem dX4_init_95 : decode cX4_init 95 = .ok (.putfield 48, 3) := by decide +kernel
theorem dX4_init_98 : decode cX4_init 98 = .ok (.aload_n 0, 1) := by decide +kernel
theorem dX4_init_99 : decode cX4_init 99 = .ok (.iconst 0, 1) := by decide +kernel
theorem dX4_init_100 : decode cX4_init 100 = .ok (.putfield 51, 3) := by decide +kernel
theorem dX4_init_103 : decode cX4_init 103 = .ok (.aload_n 0, 1) := by decide +kernel
theorem dX4_init_104 : decode cX4_init 104 = .ok (.iconst 0, 1) := by decide +kernel
theorem dX4_init_105 : decode cX4_init 105 = .ok (.putfield 55, 3) := by decide +kernel
theorem dX4_init_108 : decode cX4_init 108 = .ok (.aload_n 0, 1) := by decide +kernel
theorem dX4_init_109 : decode cX4_init 109 = .ok (.iconst 0, 1) := by decide +kernel
theorem dX4_init_110 : decode cX4_init 110 = .ok (.putfield 59, 3) := by decide +kernel
theorem dX4_init_113 : decode cX4_init 113 = .ok (.aload_n 0, 1) := by decide +kernel
theorem dX4_init_114 : decode cX4_init 114 = .ok (.iconst 0, 1) := by decide +kernel
theorem dX4_init_115 : decode cX4_init 115 = .ok (.putfield 62, 3) := by decide +kernel
theorem dX4_init_118 : decode cX4_init 118 = .ok (.iconst 0, 1) := by decide +kernel
theorem dX4_init_119 : decode cX4_init 119 = .ok (.istore_n 1, 1) := by decide +kernel
theorem dX4_init_120 : decode cX4_init 120 = .ok (.iload_n 1, 1) := by decide +kernel
theorem dX4_init_121 : decode cX4_init 121 = .ok (.iconst 4, 1) := by decide +kernel
theorem dX4_init_122 : decode cX4_init 122 = .ok (.if_icmp .ge 22, 3) := by decide +kernel
theorem dX4_init_125 : decode cX4_init 125 = .ok (.aload_n 0, 1) := by decide +kernel
theorem dX4_init_126 : decode cX4_init 126 = .ok (.getfield 13, 3) := by decide +kernel
theorem dX4_init_129 : decode cX4_init 129 = .ok (.iload_n 1, 1) := by decide +kernel
theorem dX4_init_130 : decode cX4_init 130 = .ok (.new 11, 3) := by decide +kernel
theorem dX4_init_133 : decode cX4_init 133 = .ok (.dup, 1) := by decide +kernel
theorem dX4_init_134 : decode cX4_init 134 = .ok (.invokespecial 65, 3) := by decide +kernel
theorem dX4_init_137 : decode cX4_init 137 = .ok (.aastore, 1) := by decide +kernel
theorem dX4_init_138 : decode cX4_init 138 = .ok (.iinc 1 1, 3) := by decide +kernel
theorem dX4_init_141 : decode cX4_init 141 = .ok (.goto (-21), 3) := by decide +kernel
theorem dX4_init_144 : decode cX4_init 144 = .ok (.return_, 1) := by decide +kernel
theorem dX4_houses_0 : decode cX4_houses 0 = .ok (.aload_n 0, 1) := by decide +kernel
theorem dX4_houses_1 : decode cX4_houses 1 = .ok (.iload_n 1, 1) := by decide +kernel
theorem dX4_houses_2 : decode cX4_houses 2 = .ok (.iload_n 2, 1) := by decide +kernel
theorem dX4_houses_3 : decode cX4_houses 3 = .ok (.iload_n 3, 1) := by decide +kernel
theorem dX4_houses_4 : decode cX4_houses 4 = .ok (.iload 4, 2) := by decide +kernel
theorem dX4_houses_6 : decode cX4_houses 6 = .ok (.invokevirtual 66, 3) := by decide +kernel
theorem dX4_houses_9 : decode cX4_houses 9 = .ok (.istore 5, 2) := by decide +kernel
theorem dX4_houses_11 : decode cX4_houses 11 = .ok (.iload 5, 2) := by decide +kernel
theorem dX4_houses_13 : decode cX4_houses 13 = .ok (.ifCond .eq 6, 3) := by decide +kernel
theorem dX4_houses_16 : decode cX4_houses 16 = .ok (.iload 5, 2) := by decide +kernel
theorem dX4_houses_18 : decode cX4_houses 18 = .ok (.ireturn, 1) := by decide +kernel
theorem dX4_houses_19 : decode cX4_houses 19 = .ok (.aload_n 0, 1) := by decide +kernel
theorem dX4_houses_20 : decode cX4_houses 20 = .ok (.aload_n 0, 1) := by decide +kernel
theorem dX4_houses_21 : decode cX4_houses 21 = .ok (.getfield 13, 3) := by decide +kernel
theorem dX4_houses_24 : decode cX4_houses 24 = .ok (.iload_n 1, 1) := by decide +kernel
theorem dX4_houses_25 : decode cX4_houses 25 = .ok (.aaload, 1) := by decide +kernel
theorem dX4_houses_26 : decode cX4_houses 26 = .ok (.iload_n 3, 1) := by decide +kernel
theorem dX4_houses_27 : decode cX4_houses 27 = .ok (.iload 4, 2) := by decide +kernel
theorem dX4_houses_29 : decode cX4_houses 29 = .ok (.invokevirtual 70, 3) := by decide +kernel
theorem dX4_houses_32 : decode cX4_houses 32 = .ok (.istore 6, 2) := by decide +kernel
theorem dX4_houses_34 : decode cX4_houses 34 = .ok (.iload 6, 2) := by decide +kernel
theorem dX4_houses_36 : decode cX4_houses 36 = .ok (.bipush (-9), 2) := by decide +kernel
theorem dX4_houses_38 : decode cX4_houses 38 = .ok (.if_icmp .eq 9, 3) := by decide +kernel
theorem dX4_houses_41 : decode cX4_houses 41 = .ok (.bipush (-100), 2) := by decide +kernel
theorem dX4_houses_43 : decode cX4_houses 43 = .ok (.iload 6, 2) := by decide +kernel
theorem dX4_houses_45 : decode cX4_houses 45 = .ok (.isub, 1) := by decide +kernel
theorem dX4_houses_46 : decode cX4_houses 46 = .ok (.ireturn, 1) := by decide +kernel
theorem dX4_houses_47 : decode cX4_houses 47 = .ok (.aload_n 0, 1) := by decide +kernel
theorem dX4_houses_48 : decode cX4_houses 48 = .ok (.getfield 32, 3) := by decide +kernel
theorem dX4_houses_51 : decode cX4_houses 51 = .ok (.astore 7, 2) := by decide +kernel
theorem dX4_houses_53 : decode cX4_houses 53 = .ok (.aload_n 0, 1) := by decide +kernel
theorem dX4_houses_54 : decode cX4_houses 54 = .ok (.aload_n 0, 1) := by decide +kernel
theorem dX4_houses_55 : decode cX4_houses 55 = .ok (.getfield 36, 3) := by decide +kernel
theorem dX4_houses_58 : decode cX4_houses 58 = .ok (.putfield 32, 3) := by decide +kernel
theorem dX4_houses_61 : decode cX4_houses 61 = .ok (.aload_n 0, 1) := by decide +kernel
theorem dX4_houses_62 : decode cX4_houses 62 = .ok (.aload 7, 2) := by decide +kernel
theorem dX4_houses_64 : decode cX4_houses 64 = .ok (.putfield 36, 3) := by decide +kernel
theorem dX4_houses_67 : decode cX4_houses 67 = .ok (.aload_n 0, 1) := by decide +kernel
theorem dX4_houses_68 : decode cX4_houses 68 = .ok (.iconst 0, 1) := by decide +kernel
theorem dX4_houses_69 : decode cX4_houses 69 = .ok (.putfield 51, 3) := by decide +kernel
theorem dX4_houses_72 : decode cX4_houses 72 = .ok (.aload_n 0, 1) := by decide +kernel
theorem dX4_houses_73 : decode cX4_houses 73 = .ok (.getfield 22, 3) := by decide +kernel
theorem dX4_houses_76 : decode cX4_houses 76 = .ok (.iconst 0, 1) := by decide +kernel
theorem dX4_houses_77 : decode cX4_houses 77 = .ok (.putfield 74, 3) := by decide +kernel
theorem dX4_houses_80 : decode cX4_houses 80 = .ok (.aload_n 0, 1) := by decide +kernel
theorem dX4_houses_81 : decode cX4_houses 81 = .ok (.getfield 26, 3) := by decide +kernel
theorem dX4_houses_84 : decode cX4_houses 84 = .ok (.iconst 0, 1) := by decide +kernel
theorem dX4_houses_85 : decode cX4_houses 85 = .ok (.putfield 74, 3) := by decide +kernel
theorem dX4_houses_88 : decode cX4_houses 88 = .ok (.aload_n 0, 1) := by decide +kernel
theorem dX4_houses_89 : decode cX4_houses 89 = .ok (.iconst 0, 1) := by decide +kernel
theorem dX4_houses_90 : decode cX4_houses 90 = .ok (.putfield 55, 3) := by decide +kernel
theorem dX4_houses_93 : decode cX4_houses 93 = .ok (.aload_n 0, 1) := by decide +kernel
theorem dX4_houses_94 : decode cX4_houses 94 = .ok (.getfield 32, 3) := by decide +kernel
theorem dX4_houses_97 : decode cX4_houses 97 = .ok (.getfield 77, 3) := by decide +kernel
theorem dX4_houses_100 : decode cX4_houses 100 = .ok (.ireturn, 1) := by decide +kernel
theorem dX4_ofHouse_0 : decode cX4_ofHouse 0 = .ok (.aload_n 0, 1) := by decide +kernel
theorem dX4_ofHouse_1 : decode cX4_ofHouse 1 = .ok (.iload_n 1, 1) := by decide +kernel
theorem dX4_ofHouse_2 : decode cX4_ofHouse 2 = .ok (.invokevirtual 80, 3) := by decide +kernel
theorem dX4_ofHouse_5 : decode cX4_ofHouse 5 = .ok (.ifCond .ne 5, 3) := by decide +kernel
theorem dX4_ofHouse_8 : decode cX4_ofHouse 8 = .ok (.iconst (-1), 1) := by decide +kernel
theorem dX4_ofHouse_9 : decode cX4_ofHouse 9 = .ok (.ireturn, 1) := by decide +kernel
theorem dX4_ofHouse_10 : decode cX4_ofHouse 10 = .ok (.iload_n 2, 1) := by decide +kernel
theorem dX4_ofHouse_11 : decode cX4_ofHouse 11 = .ok (.lookupswitch 45 #[(0, 25), (1, 35)], 25) := by decide +kernel
theorem dX4_ofHouse_36 : decode cX4_ofHouse 36 = .ok (.aload_n 0, 1) := by decide +kernel
theorem dX4_ofHouse_37 : decode cX4_ofHouse 37 = .ok (.getfield 32, 3) := by decide +kernel
theorem dX4_ofHouse_40 : decode cX4_ofHouse 40 = .ok (.getfield 84, 3) := by decide +kernel
theorem dX4_ofHouse_43 : decode cX4_ofHouse 43 = .ok (.iload_n 1, 1) := by decide +kernel
theorem dX4_ofHouse_44 : decode cX4_ofHouse 44 = .ok (.iaload, 1) := by decide +kernel
theorem dX4_ofHouse_45 : decode cX4_ofHouse 45 = .ok (.ireturn, 1) := by decide +kernel
theorem dX4_ofHouse_46 : decode cX4_ofHouse 46 = .ok (.aload_n 0, 1) := by decide +kernel
theorem dX4_ofHouse_47 : decode cX4_ofHouse 47 = .ok (.getfield 32, 3) := by decide +kernel
theorem dX4_ofHouse_50 : decode cX4_ofHouse 50 = .ok (.getfield 88, 3) := by decide +kernel
theorem dX4_ofHouse_53 : decode cX4_ofHouse 53 = .ok (.iload_n 1, 1) := by decide +kernel
theorem dX4_ofHouse_54 : decode cX4_ofHouse 54 = .ok (.iaload, 1) := by decide +kernel
theorem dX4_ofHouse_55 : decode cX4_ofHouse 55 = .ok (.ireturn, 1) := by decide +kernel
theorem dX4_ofHouse_56 : decode cX4_ofHouse 56 = .ok (.bipush (-2), 2) := by decide +kernel
theorem dX4_ofHouse_58 : decode cX4_ofHouse 58 = .ok (.ireturn, 1) := by decide +kernel
theorem dX4_ofPerson_0 : decode cX4_ofPerson 0 = .ok (.aload_n 0, 1) := by decide +kernel
theorem dX4_ofPerson_1 : decode cX4_ofPerson 1 = .ok (.iload_n 1, 1) := by decide +kernel
theorem dX4_ofPerson_2 : decode cX4_ofPerson 2 = .ok (.invokevirtual 91, 3) := by decide +kernel
theorem dX4_ofPerson_5 : decode cX4_ofPerson 5 = .ok (.ifCond .ne 5, 3) := by decide +kernel
theorem dX4_ofPerson_8 : decode cX4_ofPerson 8 = .ok (.iconst (-1), 1) := by decide +kernel
theorem dX4_ofPerson_9 : decode cX4_ofPerson 9 = .ok (.ireturn, 1) := by decide +kernel
theorem dX4_ofPerson_10 : decode cX4_ofPerson 10 = .ok (.iload_n 2, 1) := by decide +kernel
theorem dX4_ofPerson_11 : decode cX4_ofPerson 11 = .ok (.tableswitch 127 0 6 #[41, 51, 61, 71, 81, 91, 113], 41) := by decide +kernel
theorem dX4_ofPerson_52 : decode cX4_ofPerson 52 = .ok (.aload_n 0, 1) := by decide +kernel
theorem dX4_ofPerson_53 : decode cX4_ofPerson 53 = .ok (.getfield 32, 3) := by decide +kernel
theorem dX4_ofPerson_56 : decode cX4_ofPerson 56 = .ok (.getfield 94, 3) := by decide +kernel
theorem dX4_ofPerson_59 : decode cX4_ofPerson 59 = .ok (.iload_n 1, 1) := by decide +kernel
theorem dX4_ofPerson_60 : decode cX4_ofPerson 60 = .ok (.iaload, 1) := by decide +kernel
theorem dX4_ofPerson_61 : decode cX4_ofPerson 61 = .ok (.ireturn, 1) := by decide +kernel
theorem dX4_ofPerson_62 : decode cX4_ofPerson 62 = .ok (.aload_n 0, 1) := by decide +kernel
theorem dX4_ofPerson_63 : decode cX4_ofPerson 63 = .ok (.getfield 32, 3) := by decide +kernel
theorem dX4_ofPerson_66 : decode cX4_ofPerson 66 = .ok (.getfield 97, 3) := by decide +kernel
theorem dX4_ofPerson_69 : decode cX4_ofPerson 69 = .ok (.iload_n 1, 1) := by decide +kernel
theorem dX4_ofPerson_70 : decode cX4_ofPerson 70 = .ok (.iaload, 1) := by decide +kernel
theorem dX4_ofPerson_71 : decode cX4_ofPerson 71 = .ok (.ireturn, 1) := by decide +kernel
theorem dX4_ofPerson_72 : decode cX4_ofPerson 72 = .ok (.aload_n 0, 1) := by decide +kernel
theorem dX4_ofPerson_73 : decode cX4_ofPerson 73 = .ok (.getfield 32, 3) := by decide +kernel
theorem dX4_ofPerson_76 : decode cX4_ofPerson 76 = .ok (.getfield 100, 3) := by decide +kernel
theorem dX4_ofPerson_79 : decode cX4_ofPerson 79 = .ok (.iload_n 1, 1) := by decide +kernel
theorem dX4_ofPerson_80 : decode cX4_ofPerson 80 = .ok (.iaload, 1) := by decide +kernel
theorem dX4_ofPerson_81 : decode cX4_ofPerson 81 = .ok (.ireturn, 1) := by decide +kernel
theorem dX4_ofPerson_82 : decode cX4_ofPerson 82 = .ok (.aload_n 0, 1) := by decide +kernel
theorem dX4_ofPerson_83 : decode cX4_ofPerson 83 = .ok (.getfield 32, 3) := by decide +kernel
theorem dX4_ofPerson_86 : decode cX4_ofPerson 86 = .ok (.getfield 103, 3) := by decide +kernel
theorem dX4_ofPerson_89 : decode cX4_ofPerson 89 = .ok (.iload_n 1, 1) := by decide +kernel
theorem dX4_ofPerson_90 : decode cX4_ofPerson 90 = .ok (.iaload, 1) := by decide +kernel
theorem dX4_ofPerson_91 : decode cX4_ofPerson 91 = .ok (.ireturn, 1) := by decide +kernel
theorem dX4_ofPerson_92 : decode cX4_ofPerson 92 = .ok (.aload_n 0, 1) := by decide +kernel
theorem dX4_ofPerson_93 : decode cX4_ofPerson 93 = .ok (.getfield 32, 3) := by decide +kernel
theorem dX4_ofPerson_96 : decode cX4_ofPerson 96 = .ok (.getfield 106, 3) := by decide +kernel
theorem dX4_ofPerson_99 : decode cX4_ofPerson 99 = .ok (.iload_n 1, 1) := by decide +kernel
theorem dX4_ofPerson_100 : decode cX4_ofPerson 100 = .ok (.iaload, 1) := by decide +kernel
theorem dX4_ofPerson_101 : decode cX4_ofPerson 101 = .ok (.ireturn, 1) := by decide +kernel
theorem dX4_ofPerson_102 : decode cX4_ofPerson 102 = .ok (.aload_n 0, 1) := by decide +kernel
theorem dX4_ofPerson_103 : decode cX4_ofPerson 103 = .ok (.getfield 32, 3) := by decide +kernel
theorem dX4_ofPerson_106 : decode cX4_ofPerson 106 = .ok (.getfield 94, 3) := by decide +kernel
theorem dX4_ofPerson_109 : decode cX4_ofPerson 109 = .ok (.iload_n 1, 1) := by decide +kernel
theorem dX4_ofPerson_110 : decode cX4_ofPerson 110 = .ok (.iaload, 1) := by decide +kernel
theorem dX4_ofPerson_111 : decode cX4_ofPerson 111 = .ok (.aload_n 0, 1) := by decide +kernel
theorem dX4_ofPerson_112 : decode cX4_ofPerson 112 = .ok (.getfield 32, 3) := by decide +kernel
theorem dX4_ofPerson_115 : decode cX4_ofPerson 115 = .ok (.getfield 103, 3) := by decide +kernel
theorem dX4_ofPerson_118 : decode cX4_ofPerson 118 = .ok (.iload_n 1, 1) := by decide +kernel
theorem dX4_ofPerson_119 : decode cX4_ofPerson 119 = .ok (.iaload, 1) := by decide +kernel
theorem dX4_ofPerson_120 : decode cX4_ofPerson 120 = .ok (.invokestatic 109, 3) := by decide +kernel
theorem dX4_ofPerson_123 : decode cX4_ofPerson 123 = .ok (.ireturn, 1) := by decide +kernel
theorem dX4_ofPerson_124 : decode cX4_ofPerson 124 = .ok (.aload_n 0, 1) := by decide +kernel
theorem dX4_ofPerson_125 : decode cX4_ofPerson 125 = .ok (.iload_n 1, 1) := by decide +kernel
theorem dX4_ofPerson_126 : decode cX4_ofPerson 126 = .ok (.invokevirtual 113, 3) := by decide +kernel
theorem dX4_ofPerson_129 : decode cX4_ofPerson 129 = .ok (.ifCond .eq 7, 3) := by decide +kernel
theorem dX4_ofPerson_132 : decode cX4_ofPerson 132 = .ok (.iconst 1, 1) := by decide +kernel
theorem dX4_ofPerson_133 : decode cX4_ofPerson 133 = .ok (.goto 4, 3) := by decide +kernel
theorem dX4_ofPerson_136 : decode cX4_ofPerson 136 = .ok (.iconst 0, 1) := by decide +kernel
theorem dX4_ofPerson_137 : decode cX4_ofPerson 137 = .ok (.ireturn, 1) := by decide +kernel
theorem dX4_ofPerson_138 : decode cX4_ofPerson 138 = .ok (.bipush (-2), 2) := by decide +kernel
theorem dX4_ofPerson_140 : decode cX4_ofPerson 140 = .ok (.ireturn, 1) := by decide +kernel
theorem dX4_seam_0 : decode cX4_seam 0 = .ok (.iload_n 1, 1) := by decide +kernel
theorem dX4_seam_1 : decode cX4_seam 1 = .ok (.iconst 1, 1) := by decide +kernel
theorem dX4_seam_2 : decode cX4_seam 2 = .ok (.if_icmp .lt 9, 3) := by decide +kernel
theorem dX4_seam_5 : decode cX4_seam 5 = .ok (.iload_n 1, 1) := by decide +kernel
theorem dX4_seam_6 : decode cX4_seam 6 = .ok (.bipush 14, 2) := by decide +kernel
theorem dX4_seam_8 : decode cX4_seam 8 = .ok (.if_icmp .lt 6, 3) := by decide +kernel
theorem dX4_seam_11 : decode cX4_seam 11 = .ok (.bipush (-2), 2) := by decide +kernel
theorem dX4_seam_13 : decode cX4_seam 13 = .ok (.ireturn, 1) := by decide +kernel
theorem dX4_seam_14 : decode cX4_seam 14 = .ok (.aload_n 0, 1) := by decide +kernel
theorem dX4_seam_15 : decode cX4_seam 15 = .ok (.getfield 32, 3) := by decide +kernel
theorem dX4_seam_18 : decode cX4_seam 18 = .ok (.getfield 77, 3) := by decide +kernel
theorem dX4_seam_21 : decode cX4_seam 21 = .ok (.ifCond .ne 6, 3) := by decide +kernel
theorem dX4_seam_24 : decode cX4_seam 24 = .ok (.bipush (-3), 2) := by decide +kernel
theorem dX4_seam_26 : decode cX4_seam 26 = .ok (.ireturn, 1) := by decide +kernel
theorem dX4_seam_27 : decode cX4_seam 27 = .ok (.aload_n 0, 1) := by decide +kernel
theorem dX4_seam_28 : decode cX4_seam 28 = .ok (.getfield 32, 3) := by decide +kernel
theorem dX4_seam_31 : decode cX4_seam 31 = .ok (.getfield 116, 3) := by decide +kernel
theorem dX4_seam_34 : decode cX4_seam 34 = .ok (.istore_n 2, 1) := by decide +kernel
theorem dX4_seam_35 : decode cX4_seam 35 = .ok (.aload_n 0, 1) := by decide +kernel
theorem dX4_seam_36 : decode cX4_seam 36 = .ok (.getfield 32, 3) := by decide +kernel
theorem dX4_seam_39 : decode cX4_seam 39 = .ok (.iload_n 1, 1) := by decide +kernel
theorem dX4_seam_40 : decode cX4_seam 40 = .ok (.putfield 116, 3) := by decide +kernel
theorem dX4_seam_43 : decode cX4_seam 43 = .ok (.aload_n 0, 1) := by decide +kernel
theorem dX4_seam_44 : decode cX4_seam 44 = .ok (.iconst 0, 1) := by decide +kernel
theorem dX4_seam_45 : decode cX4_seam 45 = .ok (.putfield 55, 3) := by decide +kernel
theorem dX4_seam_48 : decode cX4_seam 48 = .ok (.iload_n 2, 1) := by decide +kernel
theorem dX4_seam_49 : decode cX4_seam 49 = .ok (.ireturn, 1) := by decide +kernel
theorem dX4_away_0 : decode cX4_away 0 = .ok (.aload_n 0, 1) := by decide +kernel
theorem dX4_away_1 : decode cX4_away 1 = .ok (.iload_n 1, 1) := by decide +kernel
theorem dX4_away_2 : decode cX4_away 2 = .ok (.invokevirtual 91, 3) := by decide +kernel
theorem dX4_away_5 : decode cX4_away 5 = .ok (.ifCond .ne 5, 3) := by decide +kernel
theorem dX4_away_8 : decode cX4_away 8 = .ok (.iconst (-1), 1) := by decide +kernel
theorem dX4_away_9 : decode cX4_away 9 = .ok (.ireturn, 1) := by decide +kernel
theorem dX4_away_10 : decode cX4_away 10 = .ok (.aload_n 0, 1) := by decide +kernel
theorem dX4_away_11 : decode cX4_away 11 = .ok (.iload_n 1, 1) := by decide +kernel
theorem dX4_away_12 : decode cX4_away 12 = .ok (.invokevirtual 113, 3) := by decide +kernel
theorem dX4_away_15 : decode cX4_away 15 = .ok (.iload_n 2, 1) := by decide +kernel
theorem dX4_away_16 : decode cX4_away 16 = .ok (.if_icmp .ne 5, 3) := by decide +kernel
theorem dX4_away_19 : decode cX4_away 19 = .ok (.iconst 0, 1) := by decide +kernel
theorem dX4_away_20 : decode cX4_away 20 = .ok (.ireturn, 1) := by decide +kernel
theorem dX4_away_21 : decode cX4_away 21 = .ok (.aload_n 0, 1) := by decide +kernel
theorem dX4_away_22 : decode cX4_away 22 = .ok (.dup, 1) := by decide +kernel
theorem dX4_away_23 : decode cX4_away 23 = .ok (.getfield 51, 3) := by decide +kernel
theorem dX4_away_26 : decode cX4_away 26 = .ok (.iconst 1, 1) := by decide +kernel
theorem dX4_away_27 : decode cX4_away 27 = .ok (.iload_n 1, 1) := by decide +kernel
theorem dX4_away_28 : decode cX4_away 28 = .ok (.ishl, 1) := by decide +kernel
theorem dX4_away_29 : decode cX4_away 29 = .ok (.ixor, 1) := by decide +kernel
theorem dX4_away_30 : decode cX4_away 30 = .ok (.putfield 51, 3) := by decide +kernel
theorem dX4_away_33 : decode cX4_away 33 = .ok (.aload_n 0, 1) := by decide +kernel
theorem dX4_away_34 : decode cX4_away 34 = .ok (.iconst 0, 1) := by decide +kernel
theorem dX4_away_35 : decode cX4_away 35 = .ok (.putfield 55, 3) := by decide +kernel
theorem dX4_away_38 : decode cX4_away 38 = .ok (.iconst 1, 1) := by decide +kernel
theorem dX4_away_39 : decode cX4_away 39 = .ok (.ireturn, 1) := by decide +kernel
theorem dX4_gift_0 : decode cX4_gift 0 = .ok (.aload_n 0, 1) := by decide +kernel
theorem dX4_gift_1 : decode cX4_gift 1 = .ok (.iload_n 1, 1) := by decide +kernel
theorem dX4_gift_2 : decode cX4_gift 2 = .ok (.invokevirtual 80, 3) := by decide +kernel
theorem dX4_gift_5 : decode cX4_gift 5 = .ok (.ifCond .ne 5, 3) := by decide +kernel
theorem dX4_gift_8 : decode cX4_gift 8 = .ok (.iconst (-1), 1) := by decide +kernel
theorem dX4_gift_9 : decode cX4_gift 9 = .ok (.ireturn, 1) := by decide +kernel
theorem dX4_gift_10 : decode cX4_gift 10 = .ok (.iload_n 2, 1) := by decide +kernel
theorem dX4_gift_11 : decode cX4_gift 11 = .ok (.invokestatic 119, 3) := by decide +kernel
theorem dX4_gift_14 : decode cX4_gift 14 = .ok (.ifCond .eq 14, 3) := by decide +kernel
theorem dX4_gift_17 : decode cX4_gift 17 = .ok (.iload_n 3, 1) := by decide +kernel
theorem dX4_gift_18 : decode cX4_gift 18 = .ok (.iconst 1, 1) := by decide +kernel
theorem dX4_gift_19 : decode cX4_gift 19 = .ok (.if_icmp .lt 9, 3) := by decide +kernel
theorem dX4_gift_22 : decode cX4_gift 22 = .ok (.iload_n 3, 1) := by decide +kernel
theorem dX4_gift_23 : decode cX4_gift 23 = .ok (.bipush 99, 2) := by decide +kernel
theorem dX4_gift_25 : decode cX4_gift 25 = .ok (.if_icmp .le 6, 3) := by decide +kernel
theorem dX4_gift_28 : decode cX4_gift 28 = .ok (.bipush (-2), 2) := by decide +kernel
theorem dX4_gift_30 : decode cX4_gift 30 = .ok (.ireturn, 1) := by decide +kernel
theorem dX4_gift_31 : decode cX4_gift 31 = .ok (.aload_n 0, 1) := by decide +kernel
theorem dX4_gift_32 : decode cX4_gift 32 = .ok (.iconst 0, 1) := by decide +kernel
theorem dX4_gift_33 : decode cX4_gift 33 = .ok (.putfield 55, 3) := by decide +kernel
theorem dX4_gift_36 : decode cX4_gift 36 = .ok (.aload_n 0, 1) := by decide +kernel
theorem dX4_gift_37 : decode cX4_gift 37 = .ok (.getfield 22, 3) := by decide +kernel
theorem dX4_gift_40 : decode cX4_gift 40 = .ok (.iload_n 1, 1) := by decide +kernel
theorem dX4_gift_41 : decode cX4_gift 41 = .ok (.iload_n 2, 1) := by decide +kernel
theorem dX4_gift_42 : decode cX4_gift 42 = .ok (.iload_n 3, 1) := by decide +kernel
theorem dX4_gift_43 : decode cX4_gift 43 = .ok (.invokevirtual 122, 3) := by decide +kernel
theorem dX4_gift_46 : decode cX4_gift 46 = .ok (.ireturn, 1) := by decide +kernel
theorem dX4_undo_0 : decode cX4_undo 0 = .ok (.aload_n 0, 1) := by decide +kernel
theorem dX4_undo_1 : decode cX4_undo 1 = .ok (.iconst 0, 1) := by decide +kernel
theorem dX4_undo_2 : decode cX4_undo 2 = .ok (.putfield 55, 3) := by decide +kernel
theorem dX4_undo_5 : decode cX4_undo 5 = .ok (.aload_n 0, 1) := by decide +kernel
theorem dX4_undo_6 : decode cX4_undo 6 = .ok (.getfield 22, 3) := by decide +kernel
theorem dX4_undo_9 : decode cX4_undo 9 = .ok (.iload_n 1, 1) := by decide +kernel
theorem dX4_undo_10 : decode cX4_undo 10 = .ok (.invokevirtual 126, 3) := by decide +kernel
theorem dX4_undo_13 : decode cX4_undo 13 = .ok (.ireturn, 1) := by decide +kernel
theorem dX4_wood_0 : decode cX4_wood 0 = .ok (.aload_n 0, 1) := by decide +kernel
theorem dX4_wood_1 : decode cX4_wood 1 = .ok (.iload_n 1, 1) := by decide +kernel
theorem dX4_wood_2 : decode cX4_wood 2 = .ok (.invokevirtual 80, 3) := by decide +kernel
theorem dX4_wood_5 : decode cX4_wood 5 = .ok (.ifCond .ne 5, 3) := by decide +kernel
theorem dX4_wood_8 : decode cX4_wood 8 = .ok (.iconst (-1), 1) := by decide +kernel
theorem dX4_wood_9 : decode cX4_wood 9 = .ok (.ireturn, 1) := by decide +kernel
theorem dX4_wood_10 : decode cX4_wood 10 = .ok (.iload_n 2, 1) := by decide +kernel
theorem dX4_wood_11 : decode cX4_wood 11 = .ok (.iload_n 3, 1) := by decide +kernel
theorem dX4_wood_12 : decode cX4_wood 12 = .ok (.invokestatic 130, 3) := by decide +kernel
theorem dX4_wood_15 : decode cX4_wood 15 = .ok (.ifCond .ne 6, 3) := by decide +kernel
theorem dX4_wood_18 : decode cX4_wood 18 = .ok (.bipush (-2), 2) := by decide +kernel
theorem dX4_wood_20 : decode cX4_wood 20 = .ok (.ireturn, 1) := by decide +kernel
theorem dX4_wood_21 : decode cX4_wood 21 = .ok (.aload_n 0, 1) := by decide +kernel
theorem dX4_wood_22 : decode cX4_wood 22 = .ok (.invokevirtual 134, 3) := by decide +kernel
theorem dX4_wood_25 : decode cX4_wood 25 = .ok (.iload_n 1, 1) := by decide +kernel
theorem dX4_wood_26 : decode cX4_wood 26 = .ok (.iload_n 2, 1) := by decide +kernel
theorem dX4_wood_27 : decode cX4_wood 27 = .ok (.iload_n 3, 1) := by decide +kernel
theorem dX4_wood_28 : decode cX4_wood 28 = .ok (.invokestatic 138, 3) := by decide +kernel
theorem dX4_wood_31 : decode cX4_wood 31 = .ok (.invokevirtual 141, 3) := by decide +kernel
theorem dX4_wood_34 : decode cX4_wood 34 = .ok (.ireturn, 1) := by decide +kernel
theorem dX4_wear_0 : decode cX4_wear 0 = .ok (.aload_n 0, 1) := by decide +kernel
theorem dX4_wear_1 : decode cX4_wear 1 = .ok (.iload_n 1, 1) := by decide +kernel
theorem dX4_wear_2 : decode cX4_wear 2 = .ok (.invokevirtual 80, 3) := by decide +kernel
theorem dX4_wear_5 : decode cX4_wear 5 = .ok (.ifCond .ne 5, 3) := by decide +kernel
theorem dX4_wear_8 : decode cX4_wear 8 = .ok (.iconst (-1), 1) := by decide +kernel
theorem dX4_wear_9 : decode cX4_wear 9 = .ok (.ireturn, 1) := by decide +kernel
theorem dX4_wear_10 : decode cX4_wear 10 = .ok (.iload_n 2, 1) := by decide +kernel
theorem dX4_wear_11 : decode cX4_wear 11 = .ok (.iload_n 3, 1) := by decide +kernel
theorem dX4_wear_12 : decode cX4_wear 12 = .ok (.invokestatic 130, 3) := by decide +kernel
theorem dX4_wear_15 : decode cX4_wear 15 = .ok (.ifCond .ne 6, 3) := by decide +kernel
theorem dX4_wear_18 : decode cX4_wear 18 = .ok (.bipush (-2), 2) := by decide +kernel
theorem dX4_wear_20 : decode cX4_wear 20 = .ok (.ireturn, 1) := by decide +kernel
theorem dX4_wear_21 : decode cX4_wear 21 = .ok (.aload_n 0, 1) := by decide +kernel
theorem dX4_wear_22 : decode cX4_wear 22 = .ok (.invokevirtual 134, 3) := by decide +kernel
theorem dX4_wear_25 : decode cX4_wear 25 = .ok (.iload_n 1, 1) := by decide +kernel
theorem dX4_wear_26 : decode cX4_wear 26 = .ok (.iload_n 2, 1) := by decide +kernel
theorem dX4_wear_27 : decode cX4_wear 27 = .ok (.iload_n 3, 1) := by decide +kernel
theorem dX4_wear_28 : decode cX4_wear 28 = .ok (.invokestatic 138, 3) := by decide +kernel
theorem dX4_wear_31 : decode cX4_wear 31 = .ok (.invokevirtual 144, 3) := by decide +kernel
theorem dX4_wear_34 : decode cX4_wear 34 = .ok (.ireturn, 1) := by decide +kernel
theorem dX4_cold_0 : decode cX4_cold 0 = .ok (.iload_n 1, 1) := by decide +kernel
theorem dX4_cold_1 : decode cX4_cold 1 = .ok (.iload_n 2, 1) := by decide +kernel
theorem dX4_cold_2 : decode cX4_cold 2 = .ok (.invokestatic 130, 3) := by decide +kernel
theorem dX4_cold_5 : decode cX4_cold 5 = .ok (.ifCond .ne 6, 3) := by decide +kernel
theorem dX4_cold_8 : decode cX4_cold 8 = .ok (.bipush (-2), 2) := by decide +kernel
theorem dX4_cold_10 : decode cX4_cold 10 = .ok (.ireturn, 1) := by decide +kernel
theorem dX4_cold_11 : decode cX4_cold 11 = .ok (.aload_n 0, 1) := by decide +kernel
theorem dX4_cold_12 : decode cX4_cold 12 = .ok (.getfield 32, 3) := by decide +kernel
theorem dX4_cold_15 : decode cX4_cold 15 = .ok (.getfield 77, 3) := by decide +kernel
theorem dX4_cold_18 : decode cX4_cold 18 = .ok (.ifCond .ne 6, 3) := by decide +kernel
theorem dX4_cold_21 : decode cX4_cold 21 = .ok (.bipush (-3), 2) := by decide +kernel
theorem dX4_cold_23 : decode cX4_cold 23 = .ok (.ireturn, 1) := by decide +kernel
theorem dX4_cold_24 : decode cX4_cold 24 = .ok (.aload_n 0, 1) := by decide +kernel
theorem dX4_cold_25 : decode cX4_cold 25 = .ok (.invokevirtual 134, 3) := by decide +kernel
theorem dX4_cold_28 : decode cX4_cold 28 = .ok (.iload_n 1, 1) := by decide +kernel
theorem dX4_cold_29 : decode cX4_cold 29 = .ok (.iload_n 2, 1) := by decide +kernel
theorem dX4_cold_30 : decode cX4_cold 30 = .ok (.invokestatic 138, 3) := by decide +kernel
theorem dX4_cold_33 : decode cX4_cold 33 = .ok (.invokevirtual 147, 3) := by decide +kernel
theorem dX4_cold_36 : decode cX4_cold 36 = .ok (.ireturn, 1) := by decide +kernel
theorem dX4_chills_0 : decode cX4_chills 0 = .ok (.aload_n 0, 1) := by decide +kernel
theorem dX4_chills_1 : decode cX4_chills 1 = .ok (.iload_n 1, 1) := by decide +kernel
theorem dX4_chills_2 : decode cX4_chills 2 = .ok (.invokevirtual 91, 3) := by decide +kernel
theorem dX4_chills_5 : decode cX4_chills 5 = .ok (.ifCond .ne 5, 3) := by decide +kernel
theorem dX4_chills_8 : decode cX4_chills 8 = .ok (.iconst (-1), 1) := by decide +kernel
theorem dX4_chills_9 : decode cX4_chills 9 = .ok (.ireturn, 1) := by decide +kernel
theorem dX4_chills_10 : decode cX4_chills 10 = .ok (.iload_n 2, 1) := by decide +kernel
theorem dX4_chills_11 : decode cX4_chills 11 = .ok (.invokestatic 119, 3) := by decide +kernel
theorem dX4_chills_14 : decode cX4_chills 14 = .ok (.ifCond .ne 6, 3) := by decide +kernel
theorem dX4_chills_17 : decode cX4_chills 17 = .ok (.bipush (-2), 2) := by decide +kernel
theorem dX4_chills_19 : decode cX4_chills 19 = .ok (.ireturn, 1) := by decide +kernel
theorem dX4_chills_20 : decode cX4_chills 20 = .ok (.aload_n 0, 1) := by decide +kernel
theorem dX4_chills_21 : decode cX4_chills 21 = .ok (.invokevirtual 134, 3) := by decide +kernel
theorem dX4_chills_24 : decode cX4_chills 24 = .ok (.iconst 1, 1) := by decide +kernel
theorem dX4_chills_25 : decode cX4_chills 25 = .ok (.iload_n 1, 1) := by decide +kernel
theorem dX4_chills_26 : decode cX4_chills 26 = .ok (.ishl, 1) := by decide +kernel
theorem dX4_chills_27 : decode cX4_chills 27 = .ok (.iload_n 2, 1) := by decide +kernel
theorem dX4_chills_28 : decode cX4_chills 28 = .ok (.invokevirtual 150, 3) := by decide +kernel
theorem dX4_chills_31 : decode cX4_chills 31 = .ok (.ireturn, 1) := by decide +kernel
theorem dX4_all_0 : decode cX4_all 0 = .ok (.aload_n 0, 1) := by decide +kernel
theorem dX4_all_1 : decode cX4_all 1 = .ok (.getfield 32, 3) := by decide +kernel
theorem dX4_all_4 : decode cX4_all 4 = .ok (.getfield 77, 3) := by decide +kernel
theorem dX4_all_7 : decode cX4_all 7 = .ok (.ifCond .ne 6, 3) := by decide +kernel
theorem dX4_all_10 : decode cX4_all 10 = .ok (.bipush (-3), 2) := by decide +kernel
theorem dX4_all_12 : decode cX4_all 12 = .ok (.ireturn, 1) := by decide +kernel
theorem dX4_all_13 : decode cX4_all 13 = .ok (.aload_n 0, 1) := by decide +kernel
theorem dX4_all_14 : decode cX4_all 14 = .ok (.invokevirtual 134, 3) := by decide +kernel
theorem dX4_all_17 : decode cX4_all 17 = .ok (.aload_n 0, 1) := by decide +kernel
theorem dX4_all_18 : decode cX4_all 18 = .ok (.invokevirtual 153, 3) := by decide +kernel
theorem dX4_all_21 : decode cX4_all 21 = .ok (.bipush 9, 2) := by decide +kernel
theorem dX4_all_23 : decode cX4_all 23 = .ok (.invokevirtual 150, 3) := by decide +kernel
theorem dX4_all_26 : decode cX4_all 26 = .ok (.ireturn, 1) := by decide +kernel
theorem dX4_breaks_0 : decode cX4_breaks 0 = .ok (.aload_n 0, 1) := by decide +kernel
theorem dX4_breaks_1 : decode cX4_breaks 1 = .ok (.iload_n 1, 1) := by decide +kernel
theorem dX4_breaks_2 : decode cX4_breaks 2 = .ok (.invokevirtual 80, 3) := by decide +kernel
theorem dX4_breaks_5 : decode cX4_breaks 5 = .ok (.ifCond .ne 5, 3) := by decide +kernel
theorem dX4_breaks_8 : decode cX4_breaks 8 = .ok (.iconst (-1), 1) := by decide +kernel
theorem dX4_breaks_9 : decode cX4_breaks 9 = .ok (.ireturn, 1) := by decide +kernel
theorem dX4_breaks_10 : decode cX4_breaks 10 = .ok (.aload_n 0, 1) := by decide +kernel
theorem dX4_breaks_11 : decode cX4_breaks 11 = .ok (.invokevirtual 134, 3) := by decide +kernel
theorem dX4_breaks_14 : decode cX4_breaks 14 = .ok (.astore_n 2, 1) := by decide +kernel
theorem dX4_breaks_15 : decode cX4_breaks 15 = .ok (.iconst 0, 1) := by decide +kernel
theorem dX4_breaks_16 : decode cX4_breaks 16 = .ok (.istore_n 3, 1) := by decide +kernel
theorem dX4_breaks_17 : decode cX4_breaks 17 = .ok (.iload_n 3, 1) := by decide +kernel
theorem dX4_breaks_18 : decode cX4_breaks 18 = .ok (.sipush 140, 3) := by decide +kernel
theorem dX4_breaks_21 : decode cX4_breaks 21 = .ok (.if_icmp .ge 28, 3) := by decide +kernel
theorem dX4_breaks_24 : decode cX4_breaks 24 = .ok (.aload_n 0, 1) := by decide +kernel
theorem dX4_breaks_25 : decode cX4_breaks 25 = .ok (.getfield 32, 3) := by decide +kernel
theorem dX4_breaks_28 : decode cX4_breaks 28 = .ok (.iload_n 1, 1) := by decide +kernel
theorem dX4_breaks_29 : decode cX4_breaks 29 = .ok (.aload_n 2, 1) := by decide +kernel
theorem dX4_breaks_30 : decode cX4_breaks 30 = .ok (.iload_n 1, 1) := by decide +kernel
theorem dX4_breaks_31 : decode cX4_breaks 31 = .ok (.iload_n 3, 1) := by decide +kernel
theorem dX4_breaks_32 : decode cX4_breaks 32 = .ok (.invokevirtual 144, 3) := by decide +kernel
theorem dX4_breaks_35 : decode cX4_breaks 35 = .ok (.invokevirtual 157, 3) := by decide +kernel
theorem dX4_breaks_38 : decode cX4_breaks 38 = .ok (.ifCond .eq 5, 3) := by decide +kernel
theorem dX4_breaks_41 : decode cX4_breaks 41 = .ok (.iload_n 3, 1) := by decide +kernel
theorem dX4_breaks_42 : decode cX4_breaks 42 = .ok (.ireturn, 1) := by decide +kernel
theorem dX4_breaks_43 : decode cX4_breaks 43 = .ok (.iinc 3 1, 3) := by decide +kernel
theorem dX4_breaks_46 : decode cX4_breaks 46 = .ok (.goto (-29), 3) := by decide +kernel
theorem dX4_breaks_49 : decode cX4_breaks 49 = .ok (.bipush (-9), 2) := by decide +kernel
theorem dX4_breaks_51 : decode cX4_breaks 51 = .ok (.ireturn, 1) := by decide +kernel
theorem dX4_best_0 : decode cX4_best 0 = .ok (.iload_n 1, 1) := by decide +kernel
theorem dX4_best_1 : decode cX4_best 1 = .ok (.ifCond .lt 8, 3) := by decide +kernel
theorem dX4_best_4 : decode cX4_best 4 = .ok (.iload_n 1, 1) := by decide +kernel
theorem dX4_best_5 : decode cX4_best 5 = .ok (.iconst 1, 1) := by decide +kernel
theorem dX4_best_6 : decode cX4_best 6 = .ok (.if_icmp .le 6, 3) := by decide +kernel
theorem dX4_best_9 : decode cX4_best 9 = .ok (.bipush (-2), 2) := by decide +kernel
theorem dX4_best_11 : decode cX4_best 11 = .ok (.ireturn, 1) := by decide +kernel
theorem dX4_best_12 : decode cX4_best 12 = .ok (.aload_n 0, 1) := by decide +kernel
theorem dX4_best_13 : decode cX4_best 13 = .ok (.getfield 32, 3) := by decide +kernel
theorem dX4_best_16 : decode cX4_best 16 = .ok (.getfield 77, 3) := by decide +kernel
theorem dX4_best_19 : decode cX4_best 19 = .ok (.ifCond .ne 6, 3) := by decide +kernel
theorem dX4_best_22 : decode cX4_best 22 = .ok (.bipush (-3), 2) := by decide +kernel
theorem dX4_best_24 : decode cX4_best 24 = .ok (.ireturn, 1) := by decide +kernel
theorem dX4_best_25 : decode cX4_best 25 = .ok (.iconst 0, 1) := by decide +kernel
theorem dX4_best_26 : decode cX4_best 26 = .ok (.istore_n 2, 1) := by decide +kernel
theorem dX4_best_27 : decode cX4_best 27 = .ok (.iconst 0, 1) := by decide +kernel
theorem dX4_best_28 : decode cX4_best 28 = .ok (.istore_n 3, 1) := by decide +kernel
theorem dX4_best_29 : decode cX4_best 29 = .ok (.iconst 1, 1) := by decide +kernel
theorem dX4_best_30 : decode cX4_best 30 = .ok (.istore 4, 2) := by decide +kernel
theorem dX4_best_32 : decode cX4_best 32 = .ok (.iload 4, 2) := by decide +kernel
theorem dX4_best_34 : decode cX4_best 34 = .ok (.bipush 14, 2) := by decide +kernel
theorem dX4_best_36 : decode cX4_best 36 = .ok (.if_icmp .ge 75, 3) := by decide +kernel
theorem dX4_best_39 : decode cX4_best 39 = .ok (.aload_n 0, 1) := by decide +kernel
theorem dX4_best_40 : decode cX4_best 40 = .ok (.getfield 48, 3) := by decide +kernel
theorem dX4_best_43 : decode cX4_best 43 = .ok (.aload_n 0, 1) := by decide +kernel
theorem dX4_best_44 : decode cX4_best 44 = .ok (.getfield 32, 3) := by decide +kernel
theorem dX4_best_47 : decode cX4_best 47 = .ok (.aload_n 0, 1) := by decide +kernel
theorem dX4_best_48 : decode cX4_best 48 = .ok (.getfield 51, 3) := by decide +kernel
theorem dX4_best_51 : decode cX4_best 51 = .ok (.invokevirtual 160, 3) := by decide +kernel
theorem dX4_best_54 : decode cX4_best 54 = .ok (.aload_n 0, 1) := by decide +kernel
theorem dX4_best_55 : decode cX4_best 55 = .ok (.getfield 48, 3) := by decide +kernel
theorem dX4_best_58 : decode cX4_best 58 = .ok (.iload 4, 2) := by decide +kernel
theorem dX4_best_60 : decode cX4_best 60 = .ok (.putfield 164, 3) := by decide +kernel
theorem dX4_best_63 : decode cX4_best 63 = .ok (.aload_n 0, 1) := by decide +kernel
theorem dX4_best_64 : decode cX4_best 64 = .ok (.getfield 48, 3) := by decide +kernel
theorem dX4_best_67 : decode cX4_best 67 = .ok (.bipush 10, 2) := by decide +kernel
theorem dX4_best_69 : decode cX4_best 69 = .ok (.iconst 0, 1) := by decide +kernel
theorem dX4_best_70 : decode cX4_best 70 = .ok (.invokevirtual 165, 3) := by decide +kernel
theorem dX4_best_73 : decode cX4_best 73 = .ok (.pop, 1) := by decide +kernel
theorem dX4_best_74 : decode cX4_best 74 = .ok (.aload_n 0, 1) := by decide +kernel
theorem dX4_best_75 : decode cX4_best 75 = .ok (.getfield 48, 3) := by decide +kernel
theorem dX4_best_78 : decode cX4_best 78 = .ok (.aload_n 0, 1) := by decide +kernel
theorem dX4_best_79 : decode cX4_best 79 = .ok (.invokevirtual 153, 3) := by decide +kernel
theorem dX4_best_82 : decode cX4_best 82 = .ok (.bipush 9, 2) := by decide +kernel
theorem dX4_best_84 : decode cX4_best 84 = .ok (.invokevirtual 150, 3) := by decide +kernel
theorem dX4_best_87 : decode cX4_best 87 = .ok (.istore 5, 2) := by decide +kernel
theorem dX4_best_89 : decode cX4_best 89 = .ok (.iload_n 2, 1) := by decide +kernel
theorem dX4_best_90 : decode cX4_best 90 = .ok (.ifCond .eq 9, 3) := by decide +kernel
theorem dX4_best_93 : decode cX4_best 93 = .ok (.iload 5, 2) := by decide +kernel
theorem dX4_best_95 : decode cX4_best 95 = .ok (.iload_n 3, 1) := by decide +kernel
theorem dX4_best_96 : decode cX4_best 96 = .ok (.if_icmp .ge 9, 3) := by decide +kernel
theorem dX4_best_99 : decode cX4_best 99 = .ok (.iload 4, 2) := by decide +kernel
theorem dX4_best_101 : decode cX4_best 101 = .ok (.istore_n 2, 1) := by decide +kernel
theorem dX4_best_102 : decode cX4_best 102 = .ok (.iload 5, 2) := by decide +kernel
theorem dX4_best_104 : decode cX4_best 104 = .ok (.istore_n 3, 1) := by decide +kernel
theorem dX4_best_105 : decode cX4_best 105 = .ok (.iinc 4 1, 3) := by decide +kernel
theorem dX4_best_108 : decode cX4_best 108 = .ok (.goto (-76), 3) := by decide +kernel
theorem dX4_best_111 : decode cX4_best 111 = .ok (.iload_n 1, 1) := by decide +kernel
theorem dX4_best_112 : decode cX4_best 112 = .ok (.ifCond .ne 7, 3) := by decide +kernel
theorem dX4_best_115 : decode cX4_best 115 = .ok (.iload_n 2, 1) := by decide +kernel
theorem dX4_best_116 : decode cX4_best 116 = .ok (.goto 4, 3) := by decide +kernel
theorem dX4_best_119 : decode cX4_best 119 = .ok (.iload_n 3, 1) := by decide +kernel
theorem dX4_best_120 : decode cX4_best 120 = .ok (.ireturn, 1) := by decide +kernel
theorem dX4_blame_0 : decode cX4_blame 0 = .ok (.aload_n 0, 1) := by decide +kernel
theorem dX4_blame_1 : decode cX4_blame 1 = .ok (.iload_n 1, 1) := by decide +kernel
theorem dX4_blame_2 : decode cX4_blame 2 = .ok (.invokevirtual 91, 3) := by decide +kernel
theorem dX4_blame_5 : decode cX4_blame 5 = .ok (.ifCond .ne 5, 3) := by decide +kernel
theorem dX4_blame_8 : decode cX4_blame 8 = .ok (.iconst (-1), 1) := by decide +kernel
theorem dX4_blame_9 : decode cX4_blame 9 = .ok (.ireturn, 1) := by decide +kernel
theorem dX4_blame_10 : decode cX4_blame 10 = .ok (.aload_n 0, 1) := by decide +kernel
theorem dX4_blame_11 : decode cX4_blame 11 = .ok (.invokevirtual 153, 3) := by decide +kernel
theorem dX4_blame_14 : decode cX4_blame 14 = .ok (.iconst 1, 1) := by decide +kernel
theorem dX4_blame_15 : decode cX4_blame 15 = .ok (.iload_n 1, 1) := by decide +kernel
theorem dX4_blame_16 : decode cX4_blame 16 = .ok (.ishl, 1) := by decide +kernel
theorem dX4_blame_17 : decode cX4_blame 17 = .ok (.iconst (-1), 1) := by decide +kernel
theorem dX4_blame_18 : decode cX4_blame 18 = .ok (.ixor, 1) := by decide +kernel
theorem dX4_blame_19 : decode cX4_blame 19 = .ok (.iand, 1) := by decide +kernel
theorem dX4_blame_20 : decode cX4_blame 20 = .ok (.istore_n 2, 1) := by decide +kernel
theorem dX4_blame_21 : decode cX4_blame 21 = .ok (.aload_n 0, 1) := by decide +kernel
theorem dX4_blame_22 : decode cX4_blame 22 = .ok (.invokevirtual 134, 3) := by decide +kernel
theorem dX4_blame_25 : decode cX4_blame 25 = .ok (.iload_n 2, 1) := by decide +kernel
theorem dX4_blame_26 : decode cX4_blame 26 = .ok (.bipush 9, 2) := by decide +kernel
theorem dX4_blame_28 : decode cX4_blame 28 = .ok (.invokevirtual 150, 3) := by decide +kernel
theorem dX4_blame_31 : decode cX4_blame 31 = .ok (.istore_n 3, 1) := by decide +kernel
theorem dX4_blame_32 : decode cX4_blame 32 = .ok (.aload_n 0, 1) := by decide +kernel
theorem dX4_blame_33 : decode cX4_blame 33 = .ok (.getfield 48, 3) := by decide +kernel
theorem dX4_blame_36 : decode cX4_blame 36 = .ok (.aload_n 0, 1) := by decide +kernel
theorem dX4_blame_37 : decode cX4_blame 37 = .ok (.getfield 32, 3) := by decide +kernel
theorem dX4_blame_40 : decode cX4_blame 40 = .ok (.aload_n 0, 1) := by decide +kernel
theorem dX4_blame_41 : decode cX4_blame 41 = .ok (.getfield 51, 3) := by decide +kernel
theorem dX4_blame_44 : decode cX4_blame 44 = .ok (.iconst 1, 1) := by decide +kernel
theorem dX4_blame_45 : decode cX4_blame 45 = .ok (.iload_n 1, 1) := by decide +kernel
theorem dX4_blame_46 : decode cX4_blame 46 = .ok (.ishl, 1) := by decide +kernel
theorem dX4_blame_47 : decode cX4_blame 47 = .ok (.ior, 1) := by decide +kernel
theorem dX4_blame_48 : decode cX4_blame 48 = .ok (.invokevirtual 160, 3) := by decide +kernel
theorem dX4_blame_51 : decode cX4_blame 51 = .ok (.aload_n 0, 1) := by decide +kernel
theorem dX4_blame_52 : decode cX4_blame 52 = .ok (.getfield 48, 3) := by decide +kernel
theorem dX4_blame_55 : decode cX4_blame 55 = .ok (.bipush 10, 2) := by decide +kernel
theorem dX4_blame_57 : decode cX4_blame 57 = .ok (.iconst 0, 1) := by decide +kernel
theorem dX4_blame_58 : decode cX4_blame 58 = .ok (.invokevirtual 165, 3) := by decide +kernel
theorem dX4_blame_61 : decode cX4_blame 61 = .ok (.pop, 1) := by decide +kernel
theorem dX4_blame_62 : decode cX4_blame 62 = .ok (.sipush 1000, 3) := by decide +kernel
theorem dX4_blame_65 : decode cX4_blame 65 = .ok (.iload_n 3, 1) := by decide +kernel
theorem dX4_blame_66 : decode cX4_blame 66 = .ok (.iadd, 1) := by decide +kernel
theorem dX4_blame_67 : decode cX4_blame 67 = .ok (.aload_n 0, 1) := by decide +kernel
theorem dX4_blame_68 : decode cX4_blame 68 = .ok (.getfield 48, 3) := by decide +kernel
theorem dX4_blame_71 : decode cX4_blame 71 = .ok (.iload_n 2, 1) := by decide +kernel
theorem dX4_blame_72 : decode cX4_blame 72 = .ok (.bipush 9, 2) := by decide +kernel
theorem dX4_blame_74 : decode cX4_blame 74 = .ok (.invokevirtual 150, 3) := by decide +kernel
theorem dX4_blame_77 : decode cX4_blame 77 = .ok (.isub, 1) := by decide +kernel
theorem dX4_blame_78 : decode cX4_blame 78 = .ok (.ireturn, 1) := by decide +kernel
theorem dX4_warm_0 : decode cX4_warm 0 = .ok (.aload_n 0, 1) := by decide +kernel
theorem dX4_warm_1 : decode cX4_warm 1 = .ok (.iload_n 1, 1) := by decide +kernel
theorem dX4_warm_2 : decode cX4_warm 2 = .ok (.invokevirtual 91, 3) := by decide +kernel
theorem dX4_warm_5 : decode cX4_warm 5 = .ok (.ifCond .ne 5, 3) := by decide +kernel
theorem dX4_warm_8 : decode cX4_warm 8 = .ok (.iconst (-1), 1) := by decide +kernel
theorem dX4_warm_9 : decode cX4_warm 9 = .ok (.ireturn, 1) := by decide +kernel
theorem dX4_warm_10 : decode cX4_warm 10 = .ok (.aload_n 0, 1) := by decide +kernel
theorem dX4_warm_11 : decode cX4_warm 11 = .ok (.getfield 51, 3) := by decide +kernel
theorem dX4_warm_14 : decode cX4_warm 14 = .ok (.iconst 1, 1) := by decide +kernel
theorem dX4_warm_15 : decode cX4_warm 15 = .ok (.iload_n 1, 1) := by decide +kernel
theorem dX4_warm_16 : decode cX4_warm 16 = .ok (.ishl, 1) := by decide +kernel
theorem dX4_warm_17 : decode cX4_warm 17 = .ok (.ior, 1) := by decide +kernel
theorem dX4_warm_18 : decode cX4_warm 18 = .ok (.istore_n 2, 1) := by decide +kernel
theorem dX4_warm_19 : decode cX4_warm 19 = .ok (.bipush (-9), 2) := by decide +kernel
theorem dX4_warm_21 : decode cX4_warm 21 = .ok (.istore_n 3, 1) := by decide +kernel
theorem dX4_warm_22 : decode cX4_warm 22 = .ok (.bipush 6, 2) := by decide +kernel
theorem dX4_warm_24 : decode cX4_warm 24 = .ok (.istore 4, 2) := by decide +kernel
theorem dX4_warm_26 : decode cX4_warm 26 = .ok (.iconst 0, 1) := by decide +kernel
theorem dX4_warm_27 : decode cX4_warm 27 = .ok (.istore 5, 2) := by decide +kernel
theorem dX4_warm_29 : decode cX4_warm 29 = .ok (.iload 5, 2) := by decide +kernel
theorem dX4_warm_31 : decode cX4_warm 31 = .ok (.aload_n 0, 1) := by decide +kernel
theorem dX4_warm_32 : decode cX4_warm 32 = .ok (.invokevirtual 153, 3) := by decide +kernel
theorem dX4_warm_35 : decode cX4_warm 35 = .ok (.if_icmp .gt 72, 3) := by decide +kernel
theorem dX4_warm_38 : decode cX4_warm 38 = .ok (.iload 5, 2) := by decide +kernel
theorem dX4_warm_40 : decode cX4_warm 40 = .ok (.iload_n 2, 1) := by decide +kernel
theorem dX4_warm_41 : decode cX4_warm 41 = .ok (.iand, 1) := by decide +kernel
theorem dX4_warm_42 : decode cX4_warm 42 = .ok (.ifCond .ne 59, 3) := by decide +kernel
theorem dX4_warm_45 : decode cX4_warm 45 = .ok (.iload 5, 2) := by decide +kernel
theorem dX4_warm_47 : decode cX4_warm 47 = .ok (.invokestatic 168, 3) := by decide +kernel
theorem dX4_warm_50 : decode cX4_warm 50 = .ok (.iload 4, 2) := by decide +kernel
theorem dX4_warm_52 : decode cX4_warm 52 = .ok (.if_icmp .lt 6, 3) := by decide +kernel
theorem dX4_warm_55 : decode cX4_warm 55 = .ok (.goto 46, 3) := by decide +kernel
theorem dX4_warm_58 : decode cX4_warm 58 = .ok (.aload_n 0, 1) := by decide +kernel
theorem dX4_warm_59 : decode cX4_warm 59 = .ok (.getfield 48, 3) := by decide +kernel
theorem dX4_warm_62 : decode cX4_warm 62 = .ok (.aload_n 0, 1) := by decide +kernel
theorem dX4_warm_63 : decode cX4_warm 63 = .ok (.getfield 32, 3) := by decide +kernel
theorem dX4_warm_66 : decode cX4_warm 66 = .ok (.aload_n 0, 1) := by decide +kernel
theorem dX4_warm_67 : decode cX4_warm 67 = .ok (.getfield 51, 3) := by decide +kernel
theorem dX4_warm_70 : decode cX4_warm 70 = .ok (.iload 5, 2) := by decide +kernel
theorem dX4_warm_72 : decode cX4_warm 72 = .ok (.ior, 1) := by decide +kernel
theorem dX4_warm_73 : decode cX4_warm 73 = .ok (.invokevirtual 160, 3) := by decide +kernel
theorem dX4_warm_76 : decode cX4_warm 76 = .ok (.aload_n 0, 1) := by decide +kernel
theorem dX4_warm_77 : decode cX4_warm 77 = .ok (.getfield 48, 3) := by decide +kernel
theorem dX4_warm_80 : decode cX4_warm 80 = .ok (.bipush 10, 2) := by decide +kernel
theorem dX4_warm_82 : decode cX4_warm 82 = .ok (.iconst 1, 1) := by decide +kernel
theorem dX4_warm_83 : decode cX4_warm 83 = .ok (.iload_n 1, 1) := by decide +kernel
theorem dX4_warm_84 : decode cX4_warm 84 = .ok (.ishl, 1) := by decide +kernel
theorem dX4_warm_85 : decode cX4_warm 85 = .ok (.invokevirtual 165, 3) := by decide +kernel
theorem dX4_warm_88 : decode cX4_warm 88 = .ok (.ifCond .eq 13, 3) := by decide +kernel
theorem dX4_warm_91 : decode cX4_warm 91 = .ok (.iload 5, 2) := by decide +kernel
theorem dX4_warm_93 : decode cX4_warm 93 = .ok (.istore_n 3, 1) := by decide +kernel
theorem dX4_warm_94 : decode cX4_warm 94 = .ok (.iload 5, 2) := by decide +kernel
theorem dX4_warm_96 : decode cX4_warm 96 = .ok (.invokestatic 168, 3) := by decide +kernel
theorem dX4_warm_99 : decode cX4_warm 99 = .ok (.istore 4, 2) := by decide +kernel
theorem dX4_warm_101 : decode cX4_warm 101 = .ok (.iinc 5 1, 3) := by decide +kernel
theorem dX4_warm_104 : decode cX4_warm 104 = .ok (.goto (-75), 3) := by decide +kernel
theorem dX4_warm_107 : decode cX4_warm 107 = .ok (.iload_n 3, 1) := by decide +kernel
theorem dX4_warm_108 : decode cX4_warm 108 = .ok (.ireturn, 1) := by decide +kernel
theorem dX4_logs_0 : decode cX4_logs 0 = .ok (.aload_n 0, 1) := by decide +kernel
theorem dX4_logs_1 : decode cX4_logs 1 = .ok (.iload_n 1, 1) := by decide +kernel
theorem dX4_logs_2 : decode cX4_logs 2 = .ok (.invokevirtual 80, 3) := by decide +kernel
theorem dX4_logs_5 : decode cX4_logs 5 = .ok (.ifCond .ne 5, 3) := by decide +kernel
theorem dX4_logs_8 : decode cX4_logs 8 = .ok (.iconst (-1), 1) := by decide +kernel
theorem dX4_logs_9 : decode cX4_logs 9 = .ok (.ireturn, 1) := by decide +kernel
theorem dX4_logs_10 : decode cX4_logs 10 = .ok (.aload_n 0, 1) := by decide +kernel
theorem dX4_logs_11 : decode cX4_logs 11 = .ok (.getfield 32, 3) := by decide +kernel
theorem dX4_logs_14 : decode cX4_logs 14 = .ok (.iload_n 1, 1) := by decide +kernel
theorem dX4_logs_15 : decode cX4_logs 15 = .ok (.invokevirtual 173, 3) := by decide +kernel
theorem dX4_logs_18 : decode cX4_logs 18 = .ok (.istore_n 2, 1) := by decide +kernel
theorem dX4_logs_19 : decode cX4_logs 19 = .ok (.iconst 0, 1) := by decide +kernel
theorem dX4_logs_20 : decode cX4_logs 20 = .ok (.istore_n 3, 1) := by decide +kernel
theorem dX4_logs_21 : decode cX4_logs 21 = .ok (.iload_n 3, 1) := by decide +kernel
theorem dX4_logs_22 : decode cX4_logs 22 = .ok (.bipush 99, 2) := by decide +kernel
theorem dX4_logs_24 : decode cX4_logs 24 = .ok (.if_icmp .gt 54, 3) := by decide +kernel
theorem dX4_logs_27 : decode cX4_logs 27 = .ok (.aload_n 0, 1) := by decide +kernel
theorem dX4_logs_28 : decode cX4_logs 28 = .ok (.getfield 48, 3) := by decide +kernel
theorem dX4_logs_31 : decode cX4_logs 31 = .ok (.aload_n 0, 1) := by decide +kernel
theorem dX4_logs_32 : decode cX4_logs 32 = .ok (.getfield 32, 3) := by decide +kernel
theorem dX4_logs_35 : decode cX4_logs 35 = .ok (.aload_n 0, 1) := by decide +kernel
theorem dX4_logs_36 : decode cX4_logs 36 = .ok (.getfield 51, 3) := by decide +kernel
theorem dX4_logs_39 : decode cX4_logs 39 = .ok (.invokevirtual 160, 3) := by decide +kernel
theorem dX4_logs_42 : decode cX4_logs 42 = .ok (.aload_n 0, 1) := by decide +kernel
theorem dX4_logs_43 : decode cX4_logs 43 = .ok (.getfield 48, 3) := by decide +kernel
theorem dX4_logs_46 : decode cX4_logs 46 = .ok (.iload_n 1, 1) := by decide +kernel
theorem dX4_logs_47 : decode cX4_logs 47 = .ok (.putfield 176, 3) := by decide +kernel
theorem dX4_logs_50 : decode cX4_logs 50 = .ok (.aload_n 0, 1) := by decide +kernel
theorem dX4_logs_51 : decode cX4_logs 51 = .ok (.getfield 48, 3) := by decide +kernel
theorem dX4_logs_54 : decode cX4_logs 54 = .ok (.iload_n 3, 1) := by decide +kernel
theorem dX4_logs_55 : decode cX4_logs 55 = .ok (.putfield 179, 3) := by decide +kernel
theorem dX4_logs_58 : decode cX4_logs 58 = .ok (.aload_n 0, 1) := by decide +kernel
theorem dX4_logs_59 : decode cX4_logs 59 = .ok (.getfield 48, 3) := by decide +kernel
theorem dX4_logs_62 : decode cX4_logs 62 = .ok (.iconst 1, 1) := by decide +kernel
theorem dX4_logs_63 : decode cX4_logs 63 = .ok (.iload_n 2, 1) := by decide +kernel
theorem dX4_logs_64 : decode cX4_logs 64 = .ok (.invokevirtual 165, 3) := by decide +kernel
theorem dX4_logs_67 : decode cX4_logs 67 = .ok (.ifCond .eq 5, 3) := by decide +kernel
theorem dX4_logs_70 : decode cX4_logs 70 = .ok (.iload_n 3, 1) := by decide +kernel
theorem dX4_logs_71 : decode cX4_logs 71 = .ok (.ireturn, 1) := by decide +kernel
theorem dX4_logs_72 : decode cX4_logs 72 = .ok (.iinc 3 1, 3) := by decide +kernel
theorem dX4_logs_75 : decode cX4_logs 75 = .ok (.goto (-54), 3) := by decide +kernel
theorem dX4_logs_78 : decode cX4_logs 78 = .ok (.bipush (-9), 2) := by decide +kernel
theorem dX4_logs_80 : decode cX4_logs 80 = .ok (.ireturn, 1) := by decide +kernel
theorem dX4_pays_0 : decode cX4_pays 0 = .ok (.aload_n 0, 1) := by decide +kernel
theorem dX4_pays_1 : decode cX4_pays 1 = .ok (.iload_n 1, 1) := by decide +kernel
theorem dX4_pays_2 : decode cX4_pays 2 = .ok (.invokevirtual 91, 3) := by decide +kernel
theorem dX4_pays_5 : decode cX4_pays 5 = .ok (.ifCond .eq 17, 3) := by decide +kernel
theorem dX4_pays_8 : decode cX4_pays 8 = .ok (.iload_n 2, 1) := by decide +kernel
theorem dX4_pays_9 : decode cX4_pays 9 = .ok (.invokestatic 119, 3) := by decide +kernel
theorem dX4_pays_12 : decode cX4_pays 12 = .ok (.ifCond .eq 10, 3) := by decide +kernel
theorem dX4_pays_15 : decode cX4_pays 15 = .ok (.iload_n 3, 1) := by decide +kernel
theorem dX4_pays_16 : decode cX4_pays 16 = .ok (.invokestatic 182, 3) := by decide +kernel
theorem dX4_pays_19 : decode cX4_pays 19 = .ok (.ifCond .ne 7, 3) := by decide +kernel
theorem dX4_pays_22 : decode cX4_pays 22 = .ok (.ldc2_w 185, 3) := by decide +kernel
theorem dX4_pays_25 : decode cX4_pays 25 = .ok (.lreturn, 1) := by decide +kernel
theorem dX4_pays_26 : decode cX4_pays 26 = .ok (.iconst 0, 1) := by decide +kernel
theorem dX4_pays_27 : decode cX4_pays 27 = .ok (.istore 4, 2) := by decide +kernel
theorem dX4_pays_29 : decode cX4_pays 29 = .ok (.iconst 0, 1) := by decide +kernel
theorem dX4_pays_30 : decode cX4_pays 30 = .ok (.istore 5, 2) := by decide +kernel
theorem dX4_pays_32 : decode cX4_pays 32 = .ok (.iconst 0, 1) := by decide +kernel
theorem dX4_pays_33 : decode cX4_pays 33 = .ok (.istore 6, 2) := by decide +kernel
theorem dX4_pays_35 : decode cX4_pays 35 = .ok (.iload 6, 2) := by decide +kernel
theorem dX4_pays_37 : decode cX4_pays 37 = .ok (.aload_n 0, 1) := by decide +kernel
theorem dX4_pays_38 : decode cX4_pays 38 = .ok (.getfield 32, 3) := by decide +kernel
theorem dX4_pays_41 : decode cX4_pays 41 = .ok (.getfield 187, 3) := by decide +kernel
theorem dX4_pays_44 : decode cX4_pays 44 = .ok (.if_icmp .ge 35, 3) := by decide +kernel
theorem dX4_pays_47 : decode cX4_pays 47 = .ok (.aload_n 0, 1) := by decide +kernel
theorem dX4_pays_48 : decode cX4_pays 48 = .ok (.iload 6, 2) := by decide +kernel
theorem dX4_pays_50 : decode cX4_pays 50 = .ok (.iload_n 2, 1) := by decide +kernel
theorem dX4_pays_51 : decode cX4_pays 51 = .ok (.invokevirtual 190, 3) := by decide +kernel
theorem dX4_pays_54 : decode cX4_pays 54 = .ok (.istore 7, 2) := by decide +kernel
theorem dX4_pays_56 : decode cX4_pays 56 = .ok (.iload 5, 2) := by decide +kernel
theorem dX4_pays_58 : decode cX4_pays 58 = .ok (.iload 7, 2) := by decide +kernel
theorem dX4_pays_60 : decode cX4_pays 60 = .ok (.iadd, 1) := by decide +kernel
theorem dX4_pays_61 : decode cX4_pays 61 = .ok (.istore 5, 2) := by decide +kernel
theorem dX4_pays_63 : decode cX4_pays 63 = .ok (.iload 6, 2) := by decide +kernel
theorem dX4_pays_65 : decode cX4_pays 65 = .ok (.iload_n 1, 1) := by decide +kernel
theorem dX4_pays_66 : decode cX4_pays 66 = .ok (.if_icmp .ne 7, 3) := by decide +kernel
theorem dX4_pays_69 : decode cX4_pays 69 = .ok (.iload 7, 2) := by decide +kernel
theorem dX4_pays_71 : decode cX4_pays 71 = .ok (.istore 4, 2) := by decide +kernel
theorem dX4_pays_73 : decode cX4_pays 73 = .ok (.iinc 6 1, 3) := by decide +kernel
theorem dX4_pays_76 : decode cX4_pays 76 = .ok (.goto (-41), 3) := by decide +kernel
theorem dX4_pays_79 : decode cX4_pays 79 = .ok (.iload 4, 2) := by decide +kernel
theorem dX4_pays_81 : decode cX4_pays 81 = .ok (.iload 5, 2) := by decide +kernel
theorem dX4_pays_83 : decode cX4_pays 83 = .ok (.iload_n 3, 1) := by decide +kernel
theorem dX4_pays_84 : decode cX4_pays 84 = .ok (.invokestatic 193, 3) := by decide +kernel
theorem dX4_pays_87 : decode cX4_pays 87 = .ok (.lreturn, 1) := by decide +kernel
theorem dX4_together_0 : decode cX4_together 0 = .ok (.aload_n 0, 1) := by decide +kernel
theorem dX4_together_1 : decode cX4_together 1 = .ok (.iload_n 1, 1) := by decide +kernel
theorem dX4_together_2 : decode cX4_together 2 = .ok (.invokevirtual 91, 3) := by decide +kernel
theorem dX4_together_5 : decode cX4_together 5 = .ok (.ifCond .eq 16, 3) := by decide +kernel
theorem dX4_together_8 : decode cX4_together 8 = .ok (.aload_n 0, 1) := by decide +kernel
theorem dX4_together_9 : decode cX4_together 9 = .ok (.iload_n 2, 1) := by decide +kernel
theorem dX4_together_10 : decode cX4_together 10 = .ok (.invokevirtual 91, 3) := by decide +kernel
theorem dX4_together_13 : decode cX4_together 13 = .ok (.ifCond .eq 8, 3) := by decide +kernel
theorem dX4_together_16 : decode cX4_together 16 = .ok (.iload_n 1, 1) := by decide +kernel
theorem dX4_together_17 : decode cX4_together 17 = .ok (.iload_n 2, 1) := by decide +kernel
theorem dX4_together_18 : decode cX4_together 18 = .ok (.if_icmp .ne 5, 3) := by decide +kernel
theorem dX4_together_21 : decode cX4_together 21 = .ok (.iconst (-1), 1) := by decide +kernel
theorem dX4_together_22 : decode cX4_together 22 = .ok (.ireturn, 1) := by decide +kernel
theorem dX4_together_23 : decode cX4_together 23 = .ok (.iload_n 3, 1) := by decide +kernel
theorem dX4_together_24 : decode cX4_together 24 = .ok (.ifCond .lt 9, 3) := by decide +kernel
theorem dX4_together_27 : decode cX4_together 27 = .ok (.iload_n 3, 1) := by decide +kernel
theorem dX4_together_28 : decode cX4_together 28 = .ok (.bipush 14, 2) := by decide +kernel
theorem dX4_together_30 : decode cX4_together 30 = .ok (.if_icmp .lt 6, 3) := by decide +kernel
theorem dX4_together_33 : decode cX4_together 33 = .ok (.bipush (-2), 2) := by decide +kernel
theorem dX4_together_35 : decode cX4_together 35 = .ok (.ireturn, 1) := by decide +kernel
theorem dX4_together_36 : decode cX4_together 36 = .ok (.aload_n 0, 1) := by decide +kernel
theorem dX4_together_37 : decode cX4_together 37 = .ok (.getfield 32, 3) := by decide +kernel
theorem dX4_together_40 : decode cX4_together 40 = .ok (.getfield 100, 3) := by decide +kernel
theorem dX4_together_43 : decode cX4_together 43 = .ok (.iload_n 1, 1) := by decide +kernel
theorem dX4_together_44 : decode cX4_together 44 = .ok (.iaload, 1) := by decide +kernel
theorem dX4_together_45 : decode cX4_together 45 = .ok (.aload_n 0, 1) := by decide +kernel
theorem dX4_together_46 : decode cX4_together 46 = .ok (.getfield 32, 3) := by decide +kernel
theorem dX4_together_49 : decode cX4_together 49 = .ok (.getfield 100, 3) := by decide +kernel
theorem dX4_together_52 : decode cX4_together 52 = .ok (.iload_n 2, 1) := by decide +kernel
theorem dX4_together_53 : decode cX4_together 53 = .ok (.iaload, 1) := by decide +kernel
theorem dX4_together_54 : decode cX4_together 54 = .ok (.if_icmp .eq 5, 3) := by decide +kernel
theorem dX4_together_57 : decode cX4_together 57 = .ok (.iconst 0, 1) := by decide +kernel
theorem dX4_together_58 : decode cX4_together 58 = .ok (.ireturn, 1) := by decide +kernel
theorem dX4_together_59 : decode cX4_together 59 = .ok (.aload_n 0, 1) := by decide +kernel
theorem dX4_together_60 : decode cX4_together 60 = .ok (.getfield 32, 3) := by decide +kernel
theorem dX4_together_63 : decode cX4_together 63 = .ok (.getfield 97, 3) := by decide +kernel
theorem dX4_together_66 : decode cX4_together 66 = .ok (.iload_n 2, 1) := by decide +kernel
theorem dX4_together_67 : decode cX4_together 67 = .ok (.iaload, 1) := by decide +kernel
theorem dX4_together_68 : decode cX4_together 68 = .ok (.ifCond .ne 13, 3) := by decide +kernel
theorem dX4_together_71 : decode cX4_together 71 = .ok (.aload_n 0, 1) := by decide +kernel
theorem dX4_together_72 : decode cX4_together 72 = .ok (.getfield 32, 3) := by decide +kernel
theorem dX4_together_75 : decode cX4_together 75 = .ok (.getfield 116, 3) := by decide +kernel
theorem dX4_together_78 : decode cX4_together 78 = .ok (.goto 13, 3) := by decide +kernel
theorem dX4_together_81 : decode cX4_together 81 = .ok (.bipush 14, 2) := by decide +kernel
theorem dX4_together_83 : decode cX4_together 83 = .ok (.aload_n 0, 1) := by decide +kernel
theorem dX4_together_84 : decode cX4_together 84 = .ok (.getfield 32, 3) := by decide +kernel
theorem dX4_together_87 : decode cX4_together 87 = .ok (.getfield 116, 3) := by decide +kernel
theorem dX4_together_90 : decode cX4_together 90 = .ok (.isub, 1) := by decide +kernel
theorem dX4_together_91 : decode cX4_together 91 = .ok (.istore 4, 2) := by decide +kernel
theorem dX4_together_93 : decode cX4_together 93 = .ok (.aload_n 0, 1) := by decide +kernel
theorem dX4_together_94 : decode cX4_together 94 = .ok (.getfield 32, 3) := by decide +kernel
theorem dX4_together_97 : decode cX4_together 97 = .ok (.getfield 97, 3) := by decide +kernel
theorem dX4_together_100 : decode cX4_together 100 = .ok (.iload_n 1, 1) := by decide +kernel
theorem dX4_together_101 : decode cX4_together 101 = .ok (.iaload, 1) := by decide +kernel
theorem dX4_together_102 : decode cX4_together 102 = .ok (.aload_n 0, 1) := by decide +kernel
theorem dX4_together_103 : decode cX4_together 103 = .ok (.getfield 32, 3) := by decide +kernel
theorem dX4_together_106 : decode cX4_together 106 = .ok (.getfield 97, 3) := by decide +kernel
theorem dX4_together_109 : decode cX4_together 109 = .ok (.iload_n 2, 1) := by decide +kernel
theorem dX4_together_110 : decode cX4_together 110 = .ok (.iaload, 1) := by decide +kernel
theorem dX4_together_111 : decode cX4_together 111 = .ok (.if_icmp .ne 6, 3) := by decide +kernel
theorem dX4_together_114 : decode cX4_together 114 = .ok (.iload 4, 2) := by decide +kernel
theorem dX4_together_116 : decode cX4_together 116 = .ok (.ireturn, 1) := by decide +kernel
theorem dX4_together_117 : decode cX4_together 117 = .ok (.iload_n 3, 1) := by decide +kernel
theorem dX4_together_118 : decode cX4_together 118 = .ok (.iload 4, 2) := by decide +kernel
theorem dX4_together_120 : decode cX4_together 120 = .ok (.invokestatic 197, 3) := by decide +kernel
theorem dX4_together_123 : decode cX4_together 123 = .ok (.ireturn, 1) := by decide +kernel
theorem dX4_third_0 : decode cX4_third 0 = .ok (.aload_n 0, 1) := by decide +kernel
theorem dX4_third_1 : decode cX4_third 1 = .ok (.iload_n 1, 1) := by decide +kernel
theorem dX4_third_2 : decode cX4_third 2 = .ok (.invokevirtual 80, 3) := by decide +kernel
theorem dX4_third_5 : decode cX4_third 5 = .ok (.ifCond .ne 5, 3) := by decide +kernel
theorem dX4_third_8 : decode cX4_third 8 = .ok (.iconst (-1), 1) := by decide +kernel
theorem dX4_third_9 : decode cX4_third 9 = .ok (.ireturn, 1) := by decide +kernel
theorem dX4_third_10 : decode cX4_third 10 = .ok (.iconst 0, 1) := by decide +kernel
theorem dX4_third_11 : decode cX4_third 11 = .ok (.istore_n 2, 1) := by decide +kernel
theorem dX4_third_12 : decode cX4_third 12 = .ok (.iconst 0, 1) := by decide +kernel
theorem dX4_third_13 : decode cX4_third 13 = .ok (.istore_n 3, 1) := by decide +kernel
theorem dX4_third_14 : decode cX4_third 14 = .ok (.iload_n 3, 1) := by decide +kernel
theorem dX4_third_15 : decode cX4_third 15 = .ok (.bipush 14, 2) := by decide +kernel
theorem dX4_third_17 : decode cX4_third 17 = .ok (.if_icmp .ge 32, 3) := by decide +kernel
theorem dX4_third_20 : decode cX4_third 20 = .ok (.aload_n 0, 1) := by decide +kernel
theorem dX4_third_21 : decode cX4_third 21 = .ok (.iload_n 3, 1) := by decide +kernel
theorem dX4_third_22 : decode cX4_third 22 = .ok (.invokevirtual 202, 3) := by decide +kernel
theorem dX4_third_25 : decode cX4_third 25 = .ok (.aload_n 0, 1) := by decide +kernel
theorem dX4_third_26 : decode cX4_third 26 = .ok (.getfield 32, 3) := by decide +kernel
theorem dX4_third_29 : decode cX4_third 29 = .ok (.iload_n 1, 1) := by decide +kernel
theorem dX4_third_30 : decode cX4_third 30 = .ok (.invokevirtual 173, 3) := by decide +kernel
theorem dX4_third_33 : decode cX4_third 33 = .ok (.iand, 1) := by decide +kernel
theorem dX4_third_34 : decode cX4_third 34 = .ok (.ifCond .ne 9, 3) := by decide +kernel
theorem dX4_third_37 : decode cX4_third 37 = .ok (.iload_n 2, 1) := by decide +kernel
theorem dX4_third_38 : decode cX4_third 38 = .ok (.iconst 1, 1) := by decide +kernel
theorem dX4_third_39 : decode cX4_third 39 = .ok (.iload_n 3, 1) := by decide +kernel
theorem dX4_third_40 : decode cX4_third 40 = .ok (.ishl, 1) := by decide +kernel
theorem dX4_third_41 : decode cX4_third 41 = .ok (.ior, 1) := by decide +kernel
theorem dX4_third_42 : decode cX4_third 42 = .ok (.istore_n 2, 1) := by decide +kernel
theorem dX4_third_43 : decode cX4_third 43 = .ok (.iinc 3 1, 3) := by decide +kernel
theorem dX4_third_46 : decode cX4_third 46 = .ok (.goto (-32), 3) := by decide +kernel
theorem dX4_third_49 : decode cX4_third 49 = .ok (.iload_n 2, 1) := by decide +kernel
theorem dX4_third_50 : decode cX4_third 50 = .ok (.ireturn, 1) := by decide +kernel
theorem dX4_row_0 : decode cX4_row 0 = .ok (.aload_n 0, 1) := by decide +kernel
theorem dX4_row_1 : decode cX4_row 1 = .ok (.iload_n 1, 1) := by decide +kernel
theorem dX4_row_2 : decode cX4_row 2 = .ok (.iload_n 2, 1) := by decide +kernel
theorem dX4_row_3 : decode cX4_row 3 = .ok (.iload_n 3, 1) := by decide +kernel
theorem dX4_row_4 : decode cX4_row 4 = .ok (.iload 4, 2) := by decide +kernel
theorem dX4_row_6 : decode cX4_row 6 = .ok (.invokevirtual 66, 3) := by decide +kernel
theorem dX4_row_9 : decode cX4_row 9 = .ok (.istore 5, 2) := by decide +kernel
theorem dX4_row_11 : decode cX4_row 11 = .ok (.iload 5, 2) := by decide +kernel
theorem dX4_row_13 : decode cX4_row 13 = .ok (.ifCond .eq 6, 3) := by decide +kernel
theorem dX4_row_16 : decode cX4_row 16 = .ok (.iload 5, 2) := by decide +kernel
theorem dX4_row_18 : decode cX4_row 18 = .ok (.ireturn, 1) := by decide +kernel
theorem dX4_row_19 : decode cX4_row 19 = .ok (.aload_n 0, 1) := by decide +kernel
theorem dX4_row_20 : decode cX4_row 20 = .ok (.getfield 32, 3) := by decide +kernel
theorem dX4_row_23 : decode cX4_row 23 = .ok (.getfield 77, 3) := by decide +kernel
theorem dX4_row_26 : decode cX4_row 26 = .ok (.ifCond .ne 6, 3) := by decide +kernel
theorem dX4_row_29 : decode cX4_row 29 = .ok (.bipush (-3), 2) := by decide +kernel
theorem dX4_row_31 : decode cX4_row 31 = .ok (.ireturn, 1) := by decide +kernel
theorem dX4_row_32 : decode cX4_row 32 = .ok (.iload 4, 2) := by decide +kernel
theorem dX4_row_34 : decode cX4_row 34 = .ok (.bipush 14, 2) := by decide +kernel
theorem dX4_row_36 : decode cX4_row 36 = .ok (.if_icmp .le 6, 3) := by decide +kernel
theorem dX4_row_39 : decode cX4_row 39 = .ok (.bipush (-2), 2) := by decide +kernel
theorem dX4_row_41 : decode cX4_row 41 = .ok (.ireturn, 1) := by decide +kernel
theorem dX4_row_42 : decode cX4_row 42 = .ok (.aload_n 0, 1) := by decide +kernel
theorem dX4_row_43 : decode cX4_row 43 = .ok (.getfield 13, 3) := by decide +kernel
theorem dX4_row_46 : decode cX4_row 46 = .ok (.iload_n 1, 1) := by decide +kernel
theorem dX4_row_47 : decode cX4_row 47 = .ok (.aaload, 1) := by decide +kernel
theorem dX4_row_48 : decode cX4_row 48 = .ok (.astore 6, 2) := by decide +kernel
theorem dX4_row_50 : decode cX4_row 50 = .ok (.iconst 0, 1) := by decide +kernel
theorem dX4_row_51 : decode cX4_row 51 = .ok (.istore 7, 2) := by decide +kernel
theorem dX4_row_53 : decode cX4_row 53 = .ok (.iload 7, 2) := by decide +kernel
theorem dX4_row_55 : decode cX4_row 55 = .ok (.iload 4, 2) := by decide +kernel
theorem dX4_row_57 : decode cX4_row 57 = .ok (.if_icmp .ge 27, 3) := by decide +kernel
theorem dX4_row_60 : decode cX4_row 60 = .ok (.aload_n 0, 1) := by decide +kernel
theorem dX4_row_61 : decode cX4_row 61 = .ok (.aload 6, 2) := by decide +kernel
theorem dX4_row_63 : decode cX4_row 63 = .ok (.iload_n 3, 1) := by decide +kernel
theorem dX4_row_64 : decode cX4_row 64 = .ok (.iload 7, 2) := by decide +kernel
theorem dX4_row_66 : decode cX4_row 66 = .ok (.iadd, 1) := by decide +kernel
theorem dX4_row_67 : decode cX4_row 67 = .ok (.invokevirtual 205, 3) := by decide +kernel
theorem dX4_row_70 : decode cX4_row 70 = .ok (.invokevirtual 91, 3) := by decide +kernel
theorem dX4_row_73 : decode cX4_row 73 = .ok (.ifCond .ne 5, 3) := by decide +kernel
theorem dX4_row_76 : decode cX4_row 76 = .ok (.iconst (-1), 1) := by decide +kernel
theorem dX4_row_77 : decode cX4_row 77 = .ok (.ireturn, 1) := by decide +kernel
theorem dX4_row_78 : decode cX4_row 78 = .ok (.iinc 7 1, 3) := by decide +kernel
theorem dX4_row_81 : decode cX4_row 81 = .ok (.goto (-28), 3) := by decide +kernel
theorem dX4_row_84 : decode cX4_row 84 = .ok (.iconst 0, 1) := by decide +kernel
theorem dX4_row_85 : decode cX4_row 85 = .ok (.istore 7, 2) := by decide +kernel
theorem dX4_row_87 : decode cX4_row 87 = .ok (.iload 7, 2) := by decide +kernel
theorem dX4_row_89 : decode cX4_row 89 = .ok (.iload 4, 2) := by decide +kernel
theorem dX4_row_91 : decode cX4_row 91 = .ok (.if_icmp .ge 31, 3) := by decide +kernel
theorem dX4_row_94 : decode cX4_row 94 = .ok (.aload_n 0, 1) := by decide +kernel
theorem dX4_row_95 : decode cX4_row 95 = .ok (.iload 7, 2) := by decide +kernel
theorem dX4_row_97 : decode cX4_row 97 = .ok (.invokevirtual 202, 3) := by decide +kernel
theorem dX4_row_100 : decode cX4_row 100 = .ok (.aload 6, 2) := by decide +kernel
theorem dX4_row_102 : decode cX4_row 102 = .ok (.iload_n 3, 1) := by decide +kernel
theorem dX4_row_103 : decode cX4_row 103 = .ok (.iload 7, 2) := by decide +kernel
theorem dX4_row_105 : decode cX4_row 105 = .ok (.iadd, 1) := by decide +kernel
theorem dX4_row_106 : decode cX4_row 106 = .ok (.invokevirtual 205, 3) := by decide +kernel
theorem dX4_row_109 : decode cX4_row 109 = .ok (.ishr, 1) := by decide +kernel
theorem dX4_row_110 : decode cX4_row 110 = .ok (.iconst 1, 1) := by decide +kernel
theorem dX4_row_111 : decode cX4_row 111 = .ok (.iand, 1) := by decide +kernel
theorem dX4_row_112 : decode cX4_row 112 = .ok (.iconst 1, 1) := by decide +kernel
theorem dX4_row_113 : decode cX4_row 113 = .ok (.if_icmp .ne 9, 3) := by decide +kernel
theorem dX4_row_116 : decode cX4_row 116 = .ok (.iinc 7 1, 3) := by decide +kernel
theorem dX4_row_119 : decode cX4_row 119 = .ok (.goto (-32), 3) := by decide +kernel
theorem dX4_row_122 : decode cX4_row 122 = .ok (.iload 7, 2) := by decide +kernel
theorem dX4_row_124 : decode cX4_row 124 = .ok (.ireturn, 1) := by decide +kernel
theorem dX4_reading_0 : decode cX4_reading 0 = .ok (.aload_n 0, 1) := by decide +kernel
theorem dX4_reading_1 : decode cX4_reading 1 = .ok (.iload_n 1, 1) := by decide +kernel
theorem dX4_reading_2 : decode cX4_reading 2 = .ok (.invokevirtual 80, 3) := by decide +kernel
theorem dX4_reading_5 : decode cX4_reading 5 = .ok (.ifCond .ne 5, 3) := by decide +kernel
theorem dX4_reading_8 : decode cX4_reading 8 = .ok (.iconst (-1), 1) := by decide +kernel
theorem dX4_reading_9 : decode cX4_reading 9 = .ok (.ireturn, 1) := by decide +kernel
theorem dX4_reading_10 : decode cX4_reading 10 = .ok (.iload_n 2, 1) := by decide +kernel
theorem dX4_reading_11 : decode cX4_reading 11 = .ok (.iload_n 3, 1) := by decide +kernel
theorem dX4_reading_12 : decode cX4_reading 12 = .ok (.invokestatic 130, 3) := by decide +kernel
theorem dX4_reading_15 : decode cX4_reading 15 = .ok (.ifCond .eq 15, 3) := by decide +kernel
theorem dX4_reading_18 : decode cX4_reading 18 = .ok (.iload 4, 2) := by decide +kernel
theorem dX4_reading_20 : decode cX4_reading 20 = .ok (.ifCond .lt 10, 3) := by decide +kernel
theorem dX4_reading_23 : decode cX4_reading 23 = .ok (.iload 4, 2) := by decide +kernel
theorem dX4_reading_25 : decode cX4_reading 25 = .ok (.bipush 99, 2) := by decide +kernel
theorem dX4_reading_27 : decode cX4_reading 27 = .ok (.if_icmp .le 6, 3) := by decide +kernel
theorem dX4_reading_30 : decode cX4_reading 30 = .ok (.bipush (-2), 2) := by decide +kernel
theorem dX4_reading_32 : decode cX4_reading 32 = .ok (.ireturn, 1) := by decide +kernel
theorem dX4_reading_33 : decode cX4_reading 33 = .ok (.aload_n 0, 1) := by decide +kernel
theorem dX4_reading_34 : decode cX4_reading 34 = .ok (.getfield 26, 3) := by decide +kernel
theorem dX4_reading_37 : decode cX4_reading 37 = .ok (.iload_n 1, 1) := by decide +kernel
theorem dX4_reading_38 : decode cX4_reading 38 = .ok (.iload_n 2, 1) := by decide +kernel
theorem dX4_reading_39 : decode cX4_reading 39 = .ok (.iload_n 3, 1) := by decide +kernel
theorem dX4_reading_40 : decode cX4_reading 40 = .ok (.invokestatic 138, 3) := by decide +kernel
theorem dX4_reading_43 : decode cX4_reading 43 = .ok (.iload 4, 2) := by decide +kernel
theorem dX4_reading_45 : decode cX4_reading 45 = .ok (.invokevirtual 122, 3) := by decide +kernel
theorem dX4_reading_48 : decode cX4_reading 48 = .ok (.ireturn, 1) := by decide +kernel
theorem dX4_back_0 : decode cX4_back 0 = .ok (.aload_n 0, 1) := by decide +kernel
theorem dX4_back_1 : decode cX4_back 1 = .ok (.getfield 26, 3) := by decide +kernel
theorem dX4_back_4 : decode cX4_back 4 = .ok (.iload_n 1, 1) := by decide +kernel
theorem dX4_back_5 : decode cX4_back 5 = .ok (.invokevirtual 126, 3) := by decide +kernel
theorem dX4_back_8 : decode cX4_back 8 = .ok (.ireturn, 1) := by decide +kernel
theorem dX4_gone_0 : decode cX4_gone 0 = .ok (.aload_n 0, 1) := by decide +kernel
theorem dX4_gone_1 : decode cX4_gone 1 = .ok (.getfield 32, 3) := by decide +kernel
theorem dX4_gone_4 : decode cX4_gone 4 = .ok (.getfield 77, 3) := by decide +kernel
theorem dX4_gone_7 : decode cX4_gone 7 = .ok (.ifCond .ne 6, 3) := by decide +kernel
theorem dX4_gone_10 : decode cX4_gone 10 = .ok (.bipush (-3), 2) := by decide +kernel
theorem dX4_gone_12 : decode cX4_gone 12 = .ok (.ireturn, 1) := by decide +kernel
theorem dX4_gone_13 : decode cX4_gone 13 = .ok (.iconst 0, 1) := by decide +kernel
theorem dX4_gone_14 : decode cX4_gone 14 = .ok (.istore_n 1, 1) := by decide +kernel
theorem dX4_gone_15 : decode cX4_gone 15 = .ok (.iconst 0, 1) := by decide +kernel
theorem dX4_gone_16 : decode cX4_gone 16 = .ok (.istore_n 2, 1) := by decide +kernel
theorem dX4_gone_17 : decode cX4_gone 17 = .ok (.iload_n 2, 1) := by decide +kernel
theorem dX4_gone_18 : decode cX4_gone 18 = .ok (.aload_n 0, 1) := by decide +kernel
theorem dX4_gone_19 : decode cX4_gone 19 = .ok (.getfield 32, 3) := by decide +kernel
theorem dX4_gone_22 : decode cX4_gone 22 = .ok (.getfield 187, 3) := by decide +kernel
theorem dX4_gone_25 : decode cX4_gone 25 = .ok (.if_icmp .ge 41, 3) := by decide +kernel
theorem dX4_gone_28 : decode cX4_gone 28 = .ok (.aload_n 0, 1) := by decide +kernel
theorem dX4_gone_29 : decode cX4_gone 29 = .ok (.getfield 48, 3) := by decide +kernel
theorem dX4_gone_32 : decode cX4_gone 32 = .ok (.aload_n 0, 1) := by decide +kernel
theorem dX4_gone_33 : decode cX4_gone 33 = .ok (.getfield 32, 3) := by decide +kernel
theorem dX4_gone_36 : decode cX4_gone 36 = .ok (.aload_n 0, 1) := by decide +kernel
theorem dX4_gone_37 : decode cX4_gone 37 = .ok (.getfield 51, 3) := by decide +kernel
theorem dX4_gone_40 : decode cX4_gone 40 = .ok (.iconst 1, 1) := by decide +kernel
theorem dX4_gone_41 : decode cX4_gone 41 = .ok (.iload_n 2, 1) := by decide +kernel
theorem dX4_gone_42 : decode cX4_gone 42 = .ok (.ishl, 1) := by decide +kernel
theorem dX4_gone_43 : decode cX4_gone 43 = .ok (.ior, 1) := by decide +kernel
theorem dX4_gone_44 : decode cX4_gone 44 = .ok (.invokevirtual 160, 3) := by decide +kernel
theorem dX4_gone_47 : decode cX4_gone 47 = .ok (.aload_n 0, 1) := by decide +kernel
theorem dX4_gone_48 : decode cX4_gone 48 = .ok (.invokevirtual 208, 3) := by decide +kernel
theorem dX4_gone_51 : decode cX4_gone 51 = .ok (.ifCond .eq 9, 3) := by decide +kernel
theorem dX4_gone_54 : decode cX4_gone 54 = .ok (.iload_n 1, 1) := by decide +kernel
theorem dX4_gone_55 : decode cX4_gone 55 = .ok (.iconst 1, 1) := by decide +kernel
theorem dX4_gone_56 : decode cX4_gone 56 = .ok (.iload_n 2, 1) := by decide +kernel
theorem dX4_gone_57 : decode cX4_gone 57 = .ok (.ishl, 1) := by decide +kernel
theorem dX4_gone_58 : decode cX4_gone 58 = .ok (.ior, 1) := by decide +kernel
theorem dX4_gone_59 : decode cX4_gone 59 = .ok (.istore_n 1, 1) := by decide +kernel
theorem dX4_gone_60 : decode cX4_gone 60 = .ok (.iinc 2 1, 3) := by decide +kernel
theorem dX4_gone_63 : decode cX4_gone 63 = .ok (.goto (-46), 3) := by decide +kernel
theorem dX4_gone_66 : decode cX4_gone 66 = .ok (.iload_n 1, 1) := by decide +kernel
theorem dX4_gone_67 : decode cX4_gone 67 = .ok (.ireturn, 1) := by decide +kernel
theorem dX4_seams_0 : decode cX4_seams 0 = .ok (.aload_n 0, 1) := by decide +kernel
theorem dX4_seams_1 : decode cX4_seams 1 = .ok (.getfield 32, 3) := by decide +kernel
theorem dX4_seams_4 : decode cX4_seams 4 = .ok (.getfield 77, 3) := by decide +kernel
theorem dX4_seams_7 : decode cX4_seams 7 = .ok (.ifCond .ne 6, 3) := by decide +kernel
theorem dX4_seams_10 : decode cX4_seams 10 = .ok (.bipush (-3), 2) := by decide +kernel
theorem dX4_seams_12 : decode cX4_seams 12 = .ok (.ireturn, 1) := by decide +kernel
theorem dX4_seams_13 : decode cX4_seams 13 = .ok (.iconst 0, 1) := by decide +kernel
theorem dX4_seams_14 : decode cX4_seams 14 = .ok (.istore_n 1, 1) := by decide +kernel
theorem dX4_seams_15 : decode cX4_seams 15 = .ok (.iconst 1, 1) := by decide +kernel
theorem dX4_seams_16 : decode cX4_seams 16 = .ok (.istore_n 2, 1) := by decide +kernel
theorem dX4_seams_17 : decode cX4_seams 17 = .ok (.iload_n 2, 1) := by decide +kernel
theorem dX4_seams_18 : decode cX4_seams 18 = .ok (.bipush 14, 2) := by decide +kernel
theorem dX4_seams_20 : decode cX4_seams 20 = .ok (.if_icmp .ge 45, 3) := by decide +kernel
theorem dX4_seams_23 : decode cX4_seams 23 = .ok (.aload_n 0, 1) := by decide +kernel
theorem dX4_seams_24 : decode cX4_seams 24 = .ok (.getfield 48, 3) := by decide +kernel
theorem dX4_seams_27 : decode cX4_seams 27 = .ok (.aload_n 0, 1) := by decide +kernel
theorem dX4_seams_28 : decode cX4_seams 28 = .ok (.getfield 32, 3) := by decide +kernel
theorem dX4_seams_31 : decode cX4_seams 31 = .ok (.aload_n 0, 1) := by decide +kernel
theorem dX4_seams_32 : decode cX4_seams 32 = .ok (.getfield 51, 3) := by decide +kernel
theorem dX4_seams_35 : decode cX4_seams 35 = .ok (.invokevirtual 160, 3) := by decide +kernel
theorem dX4_seams_38 : decode cX4_seams 38 = .ok (.aload_n 0, 1) := by decide +kernel
theorem dX4_seams_39 : decode cX4_seams 39 = .ok (.getfield 48, 3) := by decide +kernel
theorem dX4_seams_42 : decode cX4_seams 42 = .ok (.iload_n 2, 1) := by decide +kernel
theorem dX4_seams_43 : decode cX4_seams 43 = .ok (.putfield 164, 3) := by decide +kernel
theorem dX4_seams_46 : decode cX4_seams 46 = .ok (.aload_n 0, 1) := by decide +kernel
theorem dX4_seams_47 : decode cX4_seams 47 = .ok (.invokevirtual 208, 3) := by decide +kernel
theorem dX4_seams_50 : decode cX4_seams 50 = .ok (.ifCond .eq 9, 3) := by decide +kernel
theorem dX4_seams_53 : decode cX4_seams 53 = .ok (.iload_n 1, 1) := by decide +kernel
theorem dX4_seams_54 : decode cX4_seams 54 = .ok (.iconst 1, 1) := by decide +kernel
theorem dX4_seams_55 : decode cX4_seams 55 = .ok (.iload_n 2, 1) := by decide +kernel
theorem dX4_seams_56 : decode cX4_seams 56 = .ok (.ishl, 1) := by decide +kernel
theorem dX4_seams_57 : decode cX4_seams 57 = .ok (.ior, 1) := by decide +kernel
theorem dX4_seams_58 : decode cX4_seams 58 = .ok (.istore_n 1, 1) := by decide +kernel
theorem dX4_seams_59 : decode cX4_seams 59 = .ok (.iinc 2 1, 3) := by decide +kernel
theorem dX4_seams_62 : decode cX4_seams 62 = .ok (.goto (-45), 3) := by decide +kernel
theorem dX4_seams_65 : decode cX4_seams 65 = .ok (.iload_n 1, 1) := by decide +kernel
theorem dX4_seams_66 : decode cX4_seams 66 = .ok (.ireturn, 1) := by decide +kernel
theorem dX4_kinds_0 : decode cX4_kinds 0 = .ok (.aload_n 0, 1) := by decide +kernel
theorem dX4_kinds_1 : decode cX4_kinds 1 = .ok (.iload_n 1, 1) := by decide +kernel
theorem dX4_kinds_2 : decode cX4_kinds 2 = .ok (.invokevirtual 91, 3) := by decide +kernel
theorem dX4_kinds_5 : decode cX4_kinds 5 = .ok (.ifCond .ne 5, 3) := by decide +kernel
theorem dX4_kinds_8 : decode cX4_kinds 8 = .ok (.iconst (-1), 1) := by decide +kernel
theorem dX4_kinds_9 : decode cX4_kinds 9 = .ok (.ireturn, 1) := by decide +kernel
theorem dX4_kinds_10 : decode cX4_kinds 10 = .ok (.iconst 0, 1) := by decide +kernel
theorem dX4_kinds_11 : decode cX4_kinds 11 = .ok (.istore_n 2, 1) := by decide +kernel
theorem dX4_kinds_12 : decode cX4_kinds 12 = .ok (.iconst 0, 1) := by decide +kernel
theorem dX4_kinds_13 : decode cX4_kinds 13 = .ok (.istore_n 3, 1) := by decide +kernel
theorem dX4_kinds_14 : decode cX4_kinds 14 = .ok (.iload_n 3, 1) := by decide +kernel
theorem dX4_kinds_15 : decode cX4_kinds 15 = .ok (.iconst 3, 1) := by decide +kernel
theorem dX4_kinds_16 : decode cX4_kinds 16 = .ok (.if_icmp .ge 59, 3) := by decide +kernel
theorem dX4_kinds_19 : decode cX4_kinds 19 = .ok (.aload_n 0, 1) := by decide +kernel
theorem dX4_kinds_20 : decode cX4_kinds 20 = .ok (.getfield 48, 3) := by decide +kernel
theorem dX4_kinds_23 : decode cX4_kinds 23 = .ok (.aload_n 0, 1) := by decide +kernel
theorem dX4_kinds_24 : decode cX4_kinds 24 = .ok (.getfield 32, 3) := by decide +kernel
theorem dX4_kinds_27 : decode cX4_kinds 27 = .ok (.aload_n 0, 1) := by decide +kernel
theorem dX4_kinds_28 : decode cX4_kinds 28 = .ok (.getfield 51, 3) := by decide +kernel
theorem dX4_kinds_31 : decode cX4_kinds 31 = .ok (.invokevirtual 160, 3) := by decide +kernel
theorem dX4_kinds_34 : decode cX4_kinds 34 = .ok (.aload_n 0, 1) := by decide +kernel
theorem dX4_kinds_35 : decode cX4_kinds 35 = .ok (.getfield 48, 3) := by decide +kernel
theorem dX4_kinds_38 : decode cX4_kinds 38 = .ok (.getfield 212, 3) := by decide +kernel
theorem dX4_kinds_41 : decode cX4_kinds 41 = .ok (.iload_n 1, 1) := by decide +kernel
theorem dX4_kinds_42 : decode cX4_kinds 42 = .ok (.iload_n 3, 1) := by decide +kernel
theorem dX4_kinds_43 : decode cX4_kinds 43 = .ok (.aload_n 0, 1) := by decide +kernel
theorem dX4_kinds_44 : decode cX4_kinds 44 = .ok (.getfield 32, 3) := by decide +kernel
theorem dX4_kinds_47 : decode cX4_kinds 47 = .ok (.getfield 103, 3) := by decide +kernel
theorem dX4_kinds_50 : decode cX4_kinds 50 = .ok (.iload_n 1, 1) := by decide +kernel
theorem dX4_kinds_51 : decode cX4_kinds 51 = .ok (.iaload, 1) := by decide +kernel
theorem dX4_kinds_52 : decode cX4_kinds 52 = .ok (.invokestatic 109, 3) := by decide +kernel
theorem dX4_kinds_55 : decode cX4_kinds 55 = .ok (.iastore, 1) := by decide +kernel
theorem dX4_kinds_56 : decode cX4_kinds 56 = .ok (.aload_n 0, 1) := by decide +kernel
theorem dX4_kinds_57 : decode cX4_kinds 57 = .ok (.invokevirtual 208, 3) := by decide +kernel
theorem dX4_kinds_60 : decode cX4_kinds 60 = .ok (.ifCond .eq 9, 3) := by decide +kernel
theorem dX4_kinds_63 : decode cX4_kinds 63 = .ok (.iload_n 2, 1) := by decide +kernel
theorem dX4_kinds_64 : decode cX4_kinds 64 = .ok (.iconst 1, 1) := by decide +kernel
theorem dX4_kinds_65 : decode cX4_kinds 65 = .ok (.iload_n 3, 1) := by decide +kernel
theorem dX4_kinds_66 : decode cX4_kinds 66 = .ok (.ishl, 1) := by decide +kernel
theorem dX4_kinds_67 : decode cX4_kinds 67 = .ok (.ior, 1) := by decide +kernel
theorem dX4_kinds_68 : decode cX4_kinds 68 = .ok (.istore_n 2, 1) := by decide +kernel
theorem dX4_kinds_69 : decode cX4_kinds 69 = .ok (.iinc 3 1, 3) := by decide +kernel
theorem dX4_kinds_72 : decode cX4_kinds 72 = .ok (.goto (-58), 3) := by decide +kernel
theorem dX4_kinds_75 : decode cX4_kinds 75 = .ok (.iload_n 2, 1) := by decide +kernel
theorem dX4_kinds_76 : decode cX4_kinds 76 = .ok (.ireturn, 1) := by decide +kernel
theorem dX4_odds_0 : decode cX4_odds 0 = .ok (.iload_n 1, 1) := by decide +kernel
theorem dX4_odds_1 : decode cX4_odds 1 = .ok (.invokestatic 119, 3) := by decide +kernel
theorem dX4_odds_4 : decode cX4_odds 4 = .ok (.ifCond .eq 20, 3) := by decide +kernel
theorem dX4_odds_7 : decode cX4_odds 7 = .ok (.iload_n 2, 1) := by decide +kernel
theorem dX4_odds_8 : decode cX4_odds 8 = .ok (.invokestatic 182, 3) := by decide +kernel
theorem dX4_odds_11 : decode cX4_odds 11 = .ok (.ifCond .eq 13, 3) := by decide +kernel
theorem dX4_odds_14 : decode cX4_odds 14 = .ok (.aload_n 0, 1) := by decide +kernel
theorem dX4_odds_15 : decode cX4_odds 15 = .ok (.getfield 32, 3) := by decide +kernel
theorem dX4_odds_18 : decode cX4_odds 18 = .ok (.getfield 77, 3) := by decide +kernel
theorem dX4_odds_21 : decode cX4_odds 21 = .ok (.ifCond .ne 7, 3) := by decide +kernel
theorem dX4_odds_24 : decode cX4_odds 24 = .ok (.ldc2_w 185, 3) := by decide +kernel
theorem dX4_odds_27 : decode cX4_odds 27 = .ok (.lreturn, 1) := by decide +kernel
theorem dX4_odds_28 : decode cX4_odds 28 = .ok (.iconst 0, 1) := by decide +kernel
theorem dX4_odds_29 : decode cX4_odds 29 = .ok (.istore_n 3, 1) := by decide +kernel
theorem dX4_odds_30 : decode cX4_odds 30 = .ok (.iconst 0, 1) := by decide +kernel
theorem dX4_odds_31 : decode cX4_odds 31 = .ok (.istore 4, 2) := by decide +kernel
theorem dX4_odds_33 : decode cX4_odds 33 = .ok (.iload 4, 2) := by decide +kernel
theorem dX4_odds_35 : decode cX4_odds 35 = .ok (.aload_n 0, 1) := by decide +kernel
theorem dX4_odds_36 : decode cX4_odds 36 = .ok (.invokevirtual 153, 3) := by decide +kernel
theorem dX4_odds_39 : decode cX4_odds 39 = .ok (.if_icmp .gt 42, 3) := by decide +kernel
theorem dX4_odds_42 : decode cX4_odds 42 = .ok (.aload_n 0, 1) := by decide +kernel
theorem dX4_odds_43 : decode cX4_odds 43 = .ok (.getfield 48, 3) := by decide +kernel
theorem dX4_odds_46 : decode cX4_odds 46 = .ok (.aload_n 0, 1) := by decide +kernel
theorem dX4_odds_47 : decode cX4_odds 47 = .ok (.getfield 32, 3) := by decide +kernel
theorem dX4_odds_50 : decode cX4_odds 50 = .ok (.iload 4, 2) := by decide +kernel
theorem dX4_odds_52 : decode cX4_odds 52 = .ok (.invokevirtual 160, 3) := by decide +kernel
theorem dX4_odds_55 : decode cX4_odds 55 = .ok (.aload_n 0, 1) := by decide +kernel
theorem dX4_odds_56 : decode cX4_odds 56 = .ok (.getfield 48, 3) := by decide +kernel
theorem dX4_odds_59 : decode cX4_odds 59 = .ok (.iload_n 1, 1) := by decide +kernel
theorem dX4_odds_60 : decode cX4_odds 60 = .ok (.iconst 1, 1) := by decide +kernel
theorem dX4_odds_61 : decode cX4_odds 61 = .ok (.iadd, 1) := by decide +kernel
theorem dX4_odds_62 : decode cX4_odds 62 = .ok (.aload_n 0, 1) := by decide +kernel
theorem dX4_odds_63 : decode cX4_odds 63 = .ok (.invokevirtual 153, 3) := by decide +kernel
theorem dX4_odds_66 : decode cX4_odds 66 = .ok (.invokevirtual 165, 3) := by decide +kernel
theorem dX4_odds_69 : decode cX4_odds 69 = .ok (.ifCond .eq 6, 3) := by decide +kernel
theorem dX4_odds_72 : decode cX4_odds 72 = .ok (.iinc 3 1, 3) := by decide +kernel
theorem dX4_odds_75 : decode cX4_odds 75 = .ok (.iinc 4 1, 3) := by decide +kernel
theorem dX4_odds_78 : decode cX4_odds 78 = .ok (.goto (-45), 3) := by decide +kernel
theorem dX4_odds_81 : decode cX4_odds 81 = .ok (.iload_n 3, 1) := by decide +kernel
theorem dX4_odds_82 : decode cX4_odds 82 = .ok (.aload_n 0, 1) := by decide +kernel
theorem dX4_odds_83 : decode cX4_odds 83 = .ok (.invokevirtual 153, 3) := by decide +kernel
theorem dX4_odds_86 : decode cX4_odds 86 = .ok (.iconst 1, 1) := by decide +kernel
theorem dX4_odds_87 : decode cX4_odds 87 = .ok (.iadd, 1) := by decide +kernel
theorem dX4_odds_88 : decode cX4_odds 88 = .ok (.iload_n 2, 1) := by decide +kernel
theorem dX4_odds_89 : decode cX4_odds 89 = .ok (.invokestatic 193, 3) := by decide +kernel
theorem dX4_odds_92 : decode cX4_odds 92 = .ok (.lreturn, 1) := by decide +kernel
theorem dX4_sheet_0 : decode cX4_sheet 0 = .ok (.aload_n 0, 1) := by decide +kernel
theorem dX4_sheet_1 : decode cX4_sheet 1 = .ok (.iconst 0, 1) := by decide +kernel
theorem dX4_sheet_2 : decode cX4_sheet 2 = .ok (.putfield 62, 3) := by decide +kernel
theorem dX4_sheet_5 : decode cX4_sheet 5 = .ok (.iload_n 1, 1) := by decide +kernel
theorem dX4_sheet_6 : decode cX4_sheet 6 = .ok (.invokestatic 215, 3) := by decide +kernel
theorem dX4_sheet_9 : decode cX4_sheet 9 = .ok (.ifCond .ne 5, 3) := by decide +kernel
theorem dX4_sheet_12 : decode cX4_sheet 12 = .ok (.iconst (-1), 1) := by decide +kernel
theorem dX4_sheet_13 : decode cX4_sheet 13 = .ok (.ireturn, 1) := by decide +kernel
theorem dX4_sheet_14 : decode cX4_sheet 14 = .ok (.iload_n 2, 1) := by decide +kernel
theorem dX4_sheet_15 : decode cX4_sheet 15 = .ok (.invokestatic 218, 3) := by decide +kernel
theorem dX4_sheet_18 : decode cX4_sheet 18 = .ok (.ifCond .eq 9, 3) := by decide +kernel
theorem dX4_sheet_21 : decode cX4_sheet 21 = .ok (.iload_n 3, 1) := by decide +kernel
theorem dX4_sheet_22 : decode cX4_sheet 22 = .ok (.bipush 60, 2) := by decide +kernel
theorem dX4_sheet_24 : decode cX4_sheet 24 = .ok (.if_icmp .le 6, 3) := by decide +kernel
theorem dX4_sheet_27 : decode cX4_sheet 27 = .ok (.bipush (-2), 2) := by decide +kernel
theorem dX4_sheet_29 : decode cX4_sheet 29 = .ok (.ireturn, 1) := by decide +kernel
theorem dX4_sheet_30 : decode cX4_sheet 30 = .ok (.iload_n 3, 1) := by decide +kernel
theorem dX4_sheet_31 : decode cX4_sheet 31 = .ok (.ifCond .ge 9, 3) := by decide +kernel
theorem dX4_sheet_34 : decode cX4_sheet 34 = .ok (.aload_n 0, 1) := by decide +kernel
theorem dX4_sheet_35 : decode cX4_sheet 35 = .ok (.iconst 4, 1) := by decide +kernel
theorem dX4_sheet_36 : decode cX4_sheet 36 = .ok (.invokevirtual 221, 3) := by decide +kernel
theorem dX4_sheet_39 : decode cX4_sheet 39 = .ok (.ireturn, 1) := by decide +kernel
theorem dX4_sheet_40 : decode cX4_sheet 40 = .ok (.aload_n 0, 1) := by decide +kernel
theorem dX4_sheet_41 : decode cX4_sheet 41 = .ok (.getfield 13, 3) := by decide +kernel
theorem dX4_sheet_44 : decode cX4_sheet 44 = .ok (.iload_n 1, 1) := by decide +kernel
theorem dX4_sheet_45 : decode cX4_sheet 45 = .ok (.aaload, 1) := by decide +kernel
theorem dX4_sheet_46 : decode cX4_sheet 46 = .ok (.iload_n 2, 1) := by decide +kernel
theorem dX4_sheet_47 : decode cX4_sheet 47 = .ok (.iload_n 3, 1) := by decide +kernel
theorem dX4_sheet_48 : decode cX4_sheet 48 = .ok (.invokevirtual 224, 3) := by decide +kernel
theorem dX4_sheet_51 : decode cX4_sheet 51 = .ok (.iconst 1, 1) := by decide +kernel
theorem dX4_sheet_52 : decode cX4_sheet 52 = .ok (.ireturn, 1) := by decide +kernel
theorem dX4_lose_0 : decode cX4_lose 0 = .ok (.iload_n 1, 1) := by decide +kernel
theorem dX4_lose_1 : decode cX4_lose 1 = .ok (.invokestatic 215, 3) := by decide +kernel
theorem dX4_lose_4 : decode cX4_lose 4 = .ok (.ifCond .ne 5, 3) := by decide +kernel
theorem dX4_lose_7 : decode cX4_lose 7 = .ok (.iconst (-1), 1) := by decide +kernel
theorem dX4_lose_8 : decode cX4_lose 8 = .ok (.ireturn, 1) := by decide +kernel
theorem dX4_lose_9 : decode cX4_lose 9 = .ok (.aload_n 0, 1) := by decide +kernel
theorem dX4_lose_10 : decode cX4_lose 10 = .ok (.getfield 13, 3) := by decide +kernel
theorem dX4_lose_13 : decode cX4_lose 13 = .ok (.iload_n 1, 1) := by decide +kernel
theorem dX4_lose_14 : decode cX4_lose 14 = .ok (.aaload, 1) := by decide +kernel
theorem dX4_lose_15 : decode cX4_lose 15 = .ok (.invokevirtual 228, 3) := by decide +kernel
theorem dX4_lose_18 : decode cX4_lose 18 = .ok (.ifCond .eq 5, 3) := by decide +kernel
theorem dX4_lose_21 : decode cX4_lose 21 = .ok (.iconst 0, 1) := by decide +kernel
theorem dX4_lose_22 : decode cX4_lose 22 = .ok (.ireturn, 1) := by decide +kernel
theorem dX4_lose_23 : decode cX4_lose 23 = .ok (.aload_n 0, 1) := by decide +kernel
theorem dX4_lose_24 : decode cX4_lose 24 = .ok (.getfield 13, 3) := by decide +kernel
theorem dX4_lose_27 : decode cX4_lose 27 = .ok (.iload_n 1, 1) := by decide +kernel
theorem dX4_lose_28 : decode cX4_lose 28 = .ok (.aaload, 1) := by decide +kernel
theorem dX4_lose_29 : decode cX4_lose 29 = .ok (.iconst (-1), 1) := by decide +kernel
theorem dX4_lose_30 : decode cX4_lose 30 = .ok (.iconst 0, 1) := by decide +kernel
theorem dX4_lose_31 : decode cX4_lose 31 = .ok (.invokevirtual 224, 3) := by decide +kernel
theorem dX4_lose_34 : decode cX4_lose 34 = .ok (.iconst 1, 1) := by decide +kernel
theorem dX4_lose_35 : decode cX4_lose 35 = .ok (.ireturn, 1) := by decide +kernel
theorem dX4_put_0 : decode cX4_put 0 = .ok (.aload_n 0, 1) := by decide +kernel
theorem dX4_put_1 : decode cX4_put 1 = .ok (.iconst 0, 1) := by decide +kernel
theorem dX4_put_2 : decode cX4_put 2 = .ok (.putfield 62, 3) := by decide +kernel
theorem dX4_put_5 : decode cX4_put 5 = .ok (.iload_n 1, 1) := by decide +kernel
theorem dX4_put_6 : decode cX4_put 6 = .ok (.invokestatic 215, 3) := by decide +kernel
theorem dX4_put_9 : decode cX4_put 9 = .ok (.ifCond .ne 5, 3) := by decide +kernel
theorem dX4_put_12 : decode cX4_put 12 = .ok (.iconst (-1), 1) := by decide +kernel
theorem dX4_put_13 : decode cX4_put 13 = .ok (.ireturn, 1) := by decide +kernel
theorem dX4_put_14 : decode cX4_put 14 = .ok (.aload_n 0, 1) := by decide +kernel
theorem dX4_put_15 : decode cX4_put 15 = .ok (.getfield 13, 3) := by decide +kernel
theorem dX4_put_18 : decode cX4_put 18 = .ok (.iload_n 1, 1) := by decide +kernel
theorem dX4_put_19 : decode cX4_put 19 = .ok (.aaload, 1) := by decide +kernel
theorem dX4_put_20 : decode cX4_put 20 = .ok (.invokevirtual 228, 3) := by decide +kernel
theorem dX4_put_23 : decode cX4_put 23 = .ok (.ifCond .eq 9, 3) := by decide +kernel
theorem dX4_put_26 : decode cX4_put 26 = .ok (.aload_n 0, 1) := by decide +kernel
theorem dX4_put_27 : decode cX4_put 27 = .ok (.iconst 1, 1) := by decide +kernel
theorem dX4_put_28 : decode cX4_put 28 = .ok (.invokevirtual 221, 3) := by decide +kernel
theorem dX4_put_31 : decode cX4_put 31 = .ok (.ireturn, 1) := by decide +kernel
theorem dX4_put_32 : decode cX4_put 32 = .ok (.aload_n 0, 1) := by decide +kernel
theorem dX4_put_33 : decode cX4_put 33 = .ok (.getfield 13, 3) := by decide +kernel
theorem dX4_put_36 : decode cX4_put 36 = .ok (.iload_n 1, 1) := by decide +kernel
theorem dX4_put_37 : decode cX4_put 37 = .ok (.aaload, 1) := by decide +kernel
theorem dX4_put_38 : decode cX4_put 38 = .ok (.iload_n 2, 1) := by decide +kernel
theorem dX4_put_39 : decode cX4_put 39 = .ok (.invokevirtual 231, 3) := by decide +kernel
theorem dX4_put_42 : decode cX4_put 42 = .ok (.ifCond .ne 9, 3) := by decide +kernel
theorem dX4_put_45 : decode cX4_put 45 = .ok (.aload_n 0, 1) := by decide +kernel
theorem dX4_put_46 : decode cX4_put 46 = .ok (.iconst 3, 1) := by decide +kernel
theorem dX4_put_47 : decode cX4_put 47 = .ok (.invokevirtual 221, 3) := by decide +kernel
theorem dX4_put_50 : decode cX4_put 50 = .ok (.ireturn, 1) := by decide +kernel
theorem dX4_put_51 : decode cX4_put 51 = .ok (.aload_n 0, 1) := by decide +kernel
theorem dX4_put_52 : decode cX4_put 52 = .ok (.getfield 13, 3) := by decide +kernel
theorem dX4_put_55 : decode cX4_put 55 = .ok (.iload_n 1, 1) := by decide +kernel
theorem dX4_put_56 : decode cX4_put 56 = .ok (.aaload, 1) := by decide +kernel
theorem dX4_put_57 : decode cX4_put 57 = .ok (.iload_n 2, 1) := by decide +kernel
theorem dX4_put_58 : decode cX4_put 58 = .ok (.iload_n 3, 1) := by decide +kernel
theorem dX4_put_59 : decode cX4_put 59 = .ok (.invokevirtual 234, 3) := by decide +kernel
theorem dX4_put_62 : decode cX4_put 62 = .ok (.iconst 1, 1) := by decide +kernel
theorem dX4_put_63 : decode cX4_put 63 = .ok (.ireturn, 1) := by decide +kernel
theorem dX4_cell_0 : decode cX4_cell 0 = .ok (.aload_n 0, 1) := by decide +kernel
theorem dX4_cell_1 : decode cX4_cell 1 = .ok (.iload_n 1, 1) := by decide +kernel
theorem dX4_cell_2 : decode cX4_cell 2 = .ok (.iload_n 3, 1) := by decide +kernel
theorem dX4_cell_3 : decode cX4_cell 3 = .ok (.invokevirtual 237, 3) := by decide +kernel
theorem dX4_cell_6 : decode cX4_cell 6 = .ok (.ifCond .eq 7, 3) := by decide +kernel
theorem dX4_cell_9 : decode cX4_cell 9 = .ok (.ldc2_w 185, 3) := by decide +kernel
theorem dX4_cell_12 : decode cX4_cell 12 = .ok (.lreturn, 1) := by decide +kernel
theorem dX4_cell_13 : decode cX4_cell 13 = .ok (.aload_n 0, 1) := by decide +kernel
theorem dX4_cell_14 : decode cX4_cell 14 = .ok (.getfield 13, 3) := by decide +kernel
theorem dX4_cell_17 : decode cX4_cell 17 = .ok (.iload_n 1, 1) := by decide +kernel
theorem dX4_cell_18 : decode cX4_cell 18 = .ok (.aaload, 1) := by decide +kernel
theorem dX4_cell_19 : decode cX4_cell 19 = .ok (.iload_n 2, 1) := by decide +kernel
theorem dX4_cell_20 : decode cX4_cell 20 = .ok (.invokevirtual 231, 3) := by decide +kernel
theorem dX4_cell_23 : decode cX4_cell 23 = .ok (.ifCond .ne 13, 3) := by decide +kernel
theorem dX4_cell_26 : decode cX4_cell 26 = .ok (.aload_n 0, 1) := by decide +kernel
theorem dX4_cell_27 : decode cX4_cell 27 = .ok (.iconst 3, 1) := by decide +kernel
theorem dX4_cell_28 : decode cX4_cell 28 = .ok (.invokevirtual 221, 3) := by decide +kernel
theorem dX4_cell_31 : decode cX4_cell 31 = .ok (.pop, 1) := by decide +kernel
theorem dX4_cell_32 : decode cX4_cell 32 = .ok (.ldc2_w 185, 3) := by decide +kernel
theorem dX4_cell_35 : decode cX4_cell 35 = .ok (.lreturn, 1) := by decide +kernel
theorem dX4_cell_36 : decode cX4_cell 36 = .ok (.aload_n 0, 1) := by decide +kernel
theorem dX4_cell_37 : decode cX4_cell 37 = .ok (.getfield 13, 3) := by decide +kernel
theorem dX4_cell_40 : decode cX4_cell 40 = .ok (.iload_n 1, 1) := by decide +kernel
theorem dX4_cell_41 : decode cX4_cell 41 = .ok (.aaload, 1) := by decide +kernel
theorem dX4_cell_42 : decode cX4_cell 42 = .ok (.iload_n 2, 1) := by decide +kernel
theorem dX4_cell_43 : decode cX4_cell 43 = .ok (.invokevirtual 205, 3) := by decide +kernel
theorem dX4_cell_46 : decode cX4_cell 46 = .ok (.i2l, 1) := by decide +kernel
theorem dX4_cell_47 : decode cX4_cell 47 = .ok (.lreturn, 1) := by decide +kernel
theorem dX4_copy_0 : decode cX4_copy 0 = .ok (.aload_n 0, 1) := by decide +kernel
theorem dX4_copy_1 : decode cX4_copy 1 = .ok (.iconst 0, 1) := by decide +kernel
theorem dX4_copy_2 : decode cX4_copy 2 = .ok (.putfield 62, 3) := by decide +kernel
theorem dX4_copy_5 : decode cX4_copy 5 = .ok (.iload_n 1, 1) := by decide +kernel
theorem dX4_copy_6 : decode cX4_copy 6 = .ok (.invokestatic 215, 3) := by decide +kernel
theorem dX4_copy_9 : decode cX4_copy 9 = .ok (.ifCond .eq 10, 3) := by decide +kernel
theorem dX4_copy_12 : decode cX4_copy 12 = .ok (.iload_n 3, 1) := by decide +kernel
theorem dX4_copy_13 : decode cX4_copy 13 = .ok (.invokestatic 215, 3) := by decide +kernel
theorem dX4_copy_16 : decode cX4_copy 16 = .ok (.ifCond .ne 5, 3) := by decide +kernel
theorem dX4_copy_19 : decode cX4_copy 19 = .ok (.iconst (-1), 1) := by decide +kernel
theorem dX4_copy_20 : decode cX4_copy 20 = .ok (.ireturn, 1) := by decide +kernel
theorem dX4_copy_21 : decode cX4_copy 21 = .ok (.aload_n 0, 1) := by decide +kernel
theorem dX4_copy_22 : decode cX4_copy 22 = .ok (.getfield 13, 3) := by decide +kernel
theorem dX4_copy_25 : decode cX4_copy 25 = .ok (.iload_n 1, 1) := by decide +kernel
theorem dX4_copy_26 : decode cX4_copy 26 = .ok (.aaload, 1) := by decide +kernel
theorem dX4_copy_27 : decode cX4_copy 27 = .ok (.astore 6, 2) := by decide +kernel
theorem dX4_copy_29 : decode cX4_copy 29 = .ok (.aload_n 0, 1) := by decide +kernel
theorem dX4_copy_30 : decode cX4_copy 30 = .ok (.getfield 13, 3) := by decide +kernel
theorem dX4_copy_33 : decode cX4_copy 33 = .ok (.iload_n 3, 1) := by decide +kernel
theorem dX4_copy_34 : decode cX4_copy 34 = .ok (.aaload, 1) := by decide +kernel
theorem dX4_copy_35 : decode cX4_copy 35 = .ok (.astore 7, 2) := by decide +kernel
theorem dX4_copy_37 : decode cX4_copy 37 = .ok (.aload 6, 2) := by decide +kernel
theorem dX4_copy_39 : decode cX4_copy 39 = .ok (.invokevirtual 228, 3) := by decide +kernel
theorem dX4_copy_42 : decode cX4_copy 42 = .ok (.ifCond .ne 11, 3) := by decide +kernel
theorem dX4_copy_45 : decode cX4_copy 45 = .ok (.aload 7, 2) := by decide +kernel
theorem dX4_copy_47 : decode cX4_copy 47 = .ok (.invokevirtual 228, 3) := by decide +kernel
theorem dX4_copy_50 : decode cX4_copy 50 = .ok (.ifCond .eq 9, 3) := by decide +kernel
theorem dX4_copy_53 : decode cX4_copy 53 = .ok (.aload_n 0, 1) := by decide +kernel
theorem dX4_copy_54 : decode cX4_copy 54 = .ok (.iconst 1, 1) := by decide +kernel
theorem dX4_copy_55 : decode cX4_copy 55 = .ok (.invokevirtual 221, 3) := by decide +kernel
theorem dX4_copy_58 : decode cX4_copy 58 = .ok (.ireturn, 1) := by decide +kernel
theorem dX4_copy_59 : decode cX4_copy 59 = .ok (.aload 6, 2) := by decide +kernel
theorem dX4_copy_61 : decode cX4_copy 61 = .ok (.getfield 240, 3) := by decide +kernel
theorem dX4_copy_64 : decode cX4_copy 64 = .ok (.aload 7, 2) := by decide +kernel
theorem dX4_copy_66 : decode cX4_copy 66 = .ok (.getfield 240, 3) := by decide +kernel
theorem dX4_copy_69 : decode cX4_copy 69 = .ok (.if_icmp .eq 9, 3) := by decide +kernel
theorem dX4_copy_72 : decode cX4_copy 72 = .ok (.aload_n 0, 1) := by decide +kernel
theorem dX4_copy_73 : decode cX4_copy 73 = .ok (.iconst 2, 1) := by decide +kernel
theorem dX4_copy_74 : decode cX4_copy 74 = .ok (.invokevirtual 221, 3) := by decide +kernel
theorem dX4_copy_77 : decode cX4_copy 77 = .ok (.ireturn, 1) := by decide +kernel
theorem dX4_copy_78 : decode cX4_copy 78 = .ok (.aload 6, 2) := by decide +kernel
theorem dX4_copy_80 : decode cX4_copy 80 = .ok (.iload_n 2, 1) := by decide +kernel
theorem dX4_copy_81 : decode cX4_copy 81 = .ok (.iload 5, 2) := by decide +kernel
theorem dX4_copy_83 : decode cX4_copy 83 = .ok (.invokevirtual 243, 3) := by decide +kernel
theorem dX4_copy_86 : decode cX4_copy 86 = .ok (.ifCond .eq 15, 3) := by decide +kernel
theorem dX4_copy_89 : decode cX4_copy 89 = .ok (.aload 7, 2) := by decide +kernel
theorem dX4_copy_91 : decode cX4_copy 91 = .ok (.iload 4, 2) := by decide +kernel
theorem dX4_copy_93 : decode cX4_copy 93 = .ok (.iload 5, 2) := by decide +kernel
theorem dX4_copy_95 : decode cX4_copy 95 = .ok (.invokevirtual 243, 3) := by decide +kernel
theorem dX4_copy_98 : decode cX4_copy 98 = .ok (.ifCond .ne 9, 3) := by decide +kernel
theorem dX4_copy_101 : decode cX4_copy 101 = .ok (.aload_n 0, 1) := by decide +kernel
theorem dX4_copy_102 : decode cX4_copy 102 = .ok (.iconst 3, 1) := by decide +kernel
theorem dX4_copy_103 : decode cX4_copy 103 = .ok (.invokevirtual 221, 3) := by decide +kernel
theorem dX4_copy_106 : decode cX4_copy 106 = .ok (.ireturn, 1) := by decide +kernel
theorem dX4_copy_107 : decode cX4_copy 107 = .ok (.aload 6, 2) := by decide +kernel
theorem dX4_copy_109 : decode cX4_copy 109 = .ok (.getfield 246, 3) := by decide +kernel
theorem dX4_copy_112 : decode cX4_copy 112 = .ok (.iload_n 2, 1) := by decide +kernel
theorem dX4_copy_113 : decode cX4_copy 113 = .ok (.aload 7, 2) := by decide +kernel
theorem dX4_copy_115 : decode cX4_copy 115 = .ok (.getfield 246, 3) := by decide +kernel
theorem dX4_copy_118 : decode cX4_copy 118 = .ok (.iload 4, 2) := by decide +kernel
theorem dX4_copy_120 : decode cX4_copy 120 = .ok (.iload 5, 2) := by decide +kernel
theorem dX4_copy_122 : decode cX4_copy 122 = .ok (.invokestatic 249, 3) := by decide +kernel
theorem dX4_copy_125 : decode cX4_copy 125 = .ok (.iload 5, 2) := by decide +kernel
theorem dX4_copy_127 : decode cX4_copy 127 = .ok (.ireturn, 1) := by decide +kernel
theorem dX4_tell_0 : decode cX4_tell 0 = .ok (.aload_n 0, 1) := by decide +kernel
theorem dX4_tell_1 : decode cX4_tell 1 = .ok (.iload_n 1, 1) := by decide +kernel
theorem dX4_tell_2 : decode cX4_tell 2 = .ok (.invokevirtual 91, 3) := by decide +kernel
theorem dX4_tell_5 : decode cX4_tell 5 = .ok (.ifCond .ne 5, 3) := by decide +kernel
theorem dX4_tell_8 : decode cX4_tell 8 = .ok (.iconst (-1), 1) := by decide +kernel
theorem dX4_tell_9 : decode cX4_tell 9 = .ok (.ireturn, 1) := by decide +kernel
theorem dX4_tell_10 : decode cX4_tell 10 = .ok (.aload_n 0, 1) := by decide +kernel
theorem dX4_tell_11 : decode cX4_tell 11 = .ok (.getfield 32, 3) := by decide +kernel
theorem dX4_tell_14 : decode cX4_tell 14 = .ok (.getfield 94, 3) := by decide +kernel
theorem dX4_tell_17 : decode cX4_tell 17 = .ok (.iload_n 1, 1) := by decide +kernel
theorem dX4_tell_18 : decode cX4_tell 18 = .ok (.iaload, 1) := by decide +kernel
theorem dX4_tell_19 : decode cX4_tell 19 = .ok (.lookupswitch 37 #[(0, 25), (1, 31)], 25) := by decide +kernel
theorem dX4_tell_44 : decode cX4_tell 44 = .ok (.aload_n 0, 1) := by decide +kernel
theorem dX4_tell_45 : decode cX4_tell 45 = .ok (.iload_n 1, 1) := by decide +kernel
theorem dX4_tell_46 : decode cX4_tell 46 = .ok (.invokevirtual 255, 3) := by decide +kernel
theorem dX4_tell_49 : decode cX4_tell 49 = .ok (.ireturn, 1) := by decide +kernel
theorem dX4_tell_50 : decode cX4_tell 50 = .ok (.aload_n 0, 1) := by decide +kernel
theorem dX4_tell_51 : decode cX4_tell 51 = .ok (.iload_n 1, 1) := by decide +kernel
theorem dX4_tell_52 : decode cX4_tell 52 = .ok (.invokevirtual 258, 3) := by decide +kernel
theorem dX4_tell_55 : decode cX4_tell 55 = .ok (.ireturn, 1) := by decide +kernel
theorem dX4_tell_56 : decode cX4_tell 56 = .ok (.aload_n 0, 1) := by decide +kernel
theorem dX4_tell_57 : decode cX4_tell 57 = .ok (.iload_n 1, 1) := by decide +kernel
theorem dX4_tell_58 : decode cX4_tell 58 = .ok (.invokevirtual 261, 3) := by decide +kernel
theorem dX4_tell_61 : decode cX4_tell 61 = .ok (.ireturn, 1) := by decide +kernel
theorem dX4_knock_0 : decode cX4_knock 0 = .ok (.aload_n 0, 1) := by decide +kernel
theorem dX4_knock_1 : decode cX4_knock 1 = .ok (.iload_n 1, 1) := by decide +kernel
theorem dX4_knock_2 : decode cX4_knock 2 = .ok (.invokevirtual 91, 3) := by decide +kernel
theorem dX4_knock_5 : decode cX4_knock 5 = .ok (.ifCond .ne 5, 3) := by decide +kernel
theorem dX4_knock_8 : decode cX4_knock 8 = .ok (.iconst (-1), 1) := by decide +kernel
theorem dX4_knock_9 : decode cX4_knock 9 = .ok (.ireturn, 1) := by decide +kernel
theorem dX4_knock_10 : decode cX4_knock 10 = .ok (.aload_n 0, 1) := by decide +kernel
theorem dX4_knock_11 : decode cX4_knock 11 = .ok (.getfield 32, 3) := by decide +kernel
theorem dX4_knock_14 : decode cX4_knock 14 = .ok (.getfield 94, 3) := by decide +kernel
theorem dX4_knock_17 : decode cX4_knock 17 = .ok (.iload_n 1, 1) := by decide +kernel
theorem dX4_knock_18 : decode cX4_knock 18 = .ok (.iaload, 1) := by decide +kernel
theorem dX4_knock_19 : decode cX4_knock 19 = .ok (.iconst 2, 1) := by decide +kernel
theorem dX4_knock_20 : decode cX4_knock 20 = .ok (.if_icmp .ne 11, 3) := by decide +kernel
theorem dX4_knock_23 : decode cX4_knock 23 = .ok (.aload_n 0, 1) := by decide +kernel
theorem dX4_knock_24 : decode cX4_knock 24 = .ok (.iconst 5, 1) := by decide +kernel
theorem dX4_knock_25 : decode cX4_knock 25 = .ok (.invokevirtual 264, 3) := by decide +kernel
theorem dX4_knock_28 : decode cX4_knock 28 = .ok (.bipush 50, 2) := by decide +kernel
theorem dX4_knock_30 : decode cX4_knock 30 = .ok (.ireturn, 1) := by decide +kernel
theorem dX4_knock_31 : decode cX4_knock 31 = .ok (.aload_n 0, 1) := by decide +kernel
theorem dX4_knock_32 : decode cX4_knock 32 = .ok (.iconst 4, 1) := by decide +kernel
theorem dX4_knock_33 : decode cX4_knock 33 = .ok (.invokevirtual 264, 3) := by decide +kernel
theorem dX4_knock_36 : decode cX4_knock 36 = .ok (.iload_n 1, 1) := by decide +kernel
theorem dX4_knock_37 : decode cX4_knock 37 = .ok (.ireturn, 1) := by decide +kernel
theorem dX4_as_0 : decode cX4_as 0 = .ok (.aload_n 0, 1) := by decide +kernel
theorem dX4_as_1 : decode cX4_as 1 = .ok (.iconst 0, 1) := by decide +kernel
theorem dX4_as_2 : decode cX4_as 2 = .ok (.putfield 62, 3) := by decide +kernel
theorem dX4_as_5 : decode cX4_as 5 = .ok (.aload_n 0, 1) := by decide +kernel
theorem dX4_as_6 : decode cX4_as 6 = .ok (.iload_n 1, 1) := by decide +kernel
theorem dX4_as_7 : decode cX4_as 7 = .ok (.invokevirtual 91, 3) := by decide +kernel
theorem dX4_as_10 : decode cX4_as 10 = .ok (.ifCond .ne 5, 3) := by decide +kernel
theorem dX4_as_13 : decode cX4_as 13 = .ok (.iconst (-1), 1) := by decide +kernel
theorem dX4_as_14 : decode cX4_as 14 = .ok (.ireturn, 1) := by decide +kernel
theorem dX4_as_15 : decode cX4_as 15 = .ok (.iload_n 2, 1) := by decide +kernel
theorem dX4_as_16 : decode cX4_as 16 = .ok (.ifCond .lt 8, 3) := by decide +kernel
theorem dX4_as_19 : decode cX4_as 19 = .ok (.iload_n 2, 1) := by decide +kernel
theorem dX4_as_20 : decode cX4_as 20 = .ok (.iconst 3, 1) := by decide +kernel
theorem dX4_as_21 : decode cX4_as 21 = .ok (.if_icmp .lt 6, 3) := by decide +kernel
theorem dX4_as_24 : decode cX4_as 24 = .ok (.bipush (-2), 2) := by decide +kernel
theorem dX4_as_26 : decode cX4_as 26 = .ok (.ireturn, 1) := by decide +kernel
theorem dX4_as_27 : decode cX4_as 27 = .ok (.aload_n 0, 1) := by decide +kernel
theorem dX4_as_28 : decode cX4_as 28 = .ok (.getfield 32, 3) := by decide +kernel
theorem dX4_as_31 : decode cX4_as 31 = .ok (.getfield 94, 3) := by decide +kernel
theorem dX4_as_34 : decode cX4_as 34 = .ok (.iload_n 1, 1) := by decide +kernel
theorem dX4_as_35 : decode cX4_as 35 = .ok (.iaload, 1) := by decide +kernel
theorem dX4_as_36 : decode cX4_as 36 = .ok (.iload_n 2, 1) := by decide +kernel
theorem dX4_as_37 : decode cX4_as 37 = .ok (.if_icmp .ge 11, 3) := by decide +kernel
theorem dX4_as_40 : decode cX4_as 40 = .ok (.aload_n 0, 1) := by decide +kernel
theorem dX4_as_41 : decode cX4_as 41 = .ok (.iconst 2, 1) := by decide +kernel
theorem dX4_as_42 : decode cX4_as 42 = .ok (.invokevirtual 221, 3) := by decide +kernel
theorem dX4_as_45 : decode cX4_as 45 = .ok (.goto 4, 3) := by decide +kernel
theorem dX4_as_48 : decode cX4_as 48 = .ok (.iconst 1, 1) := by decide +kernel
theorem dX4_as_49 : decode cX4_as 49 = .ok (.ireturn, 1) := by decide +kernel
theorem dX4_trace_0 : decode cX4_trace 0 = .ok (.aload_n 0, 1) := by decide +kernel
theorem dX4_trace_1 : decode cX4_trace 1 = .ok (.getfield 59, 3) := by decide +kernel
theorem dX4_trace_4 : decode cX4_trace 4 = .ok (.ireturn, 1) := by decide +kernel
theorem dX4_fault_0 : decode cX4_fault 0 = .ok (.aload_n 0, 1) := by decide +kernel
theorem dX4_fault_1 : decode cX4_fault 1 = .ok (.getfield 62, 3) := by decide +kernel
theorem dX4_fault_4 : decode cX4_fault 4 = .ok (.ireturn, 1) := by decide +kernel
theorem dX4_many_0 : decode cX4_many 0 = .ok (.iload_n 1, 1) := by decide +kernel
theorem dX4_many_1 : decode cX4_many 1 = .ok (.tableswitch 75 0 4 #[35, 43, 51, 59, 67], 35) := by decide +kernel
theorem dX4_many_36 : decode cX4_many 36 = .ok (.aload_n 0, 1) := by decide +kernel
theorem dX4_many_37 : decode cX4_many 37 = .ok (.getfield 32, 3) := by decide +kernel
theorem dX4_many_40 : decode cX4_many 40 = .ok (.getfield 77, 3) := by decide +kernel
theorem dX4_many_43 : decode cX4_many 43 = .ok (.ireturn, 1) := by decide +kernel
theorem dX4_many_44 : decode cX4_many 44 = .ok (.aload_n 0, 1) := by decide +kernel
theorem dX4_many_45 : decode cX4_many 45 = .ok (.getfield 32, 3) := by decide +kernel
theorem dX4_many_48 : decode cX4_many 48 = .ok (.getfield 187, 3) := by decide +kernel
theorem dX4_many_51 : decode cX4_many 51 = .ok (.ireturn, 1) := by decide +kernel
theorem dX4_many_52 : decode cX4_many 52 = .ok (.aload_n 0, 1) := by decide +kernel
theorem dX4_many_53 : decode cX4_many 53 = .ok (.getfield 32, 3) := by decide +kernel
theorem dX4_many_56 : decode cX4_many 56 = .ok (.getfield 116, 3) := by decide +kernel
theorem dX4_many_59 : decode cX4_many 59 = .ok (.ireturn, 1) := by decide +kernel
theorem dX4_many_60 : decode cX4_many 60 = .ok (.aload_n 0, 1) := by decide +kernel
theorem dX4_many_61 : decode cX4_many 61 = .ok (.getfield 22, 3) := by decide +kernel
theorem dX4_many_64 : decode cX4_many 64 = .ok (.getfield 74, 3) := by decide +kernel
theorem dX4_many_67 : decode cX4_many 67 = .ok (.ireturn, 1) := by decide +kernel
theorem dX4_many_68 : decode cX4_many 68 = .ok (.aload_n 0, 1) := by decide +kernel
theorem dX4_many_69 : decode cX4_many 69 = .ok (.getfield 26, 3) := by decide +kernel
theorem dX4_many_72 : decode cX4_many 72 = .ok (.getfield 74, 3) := by decide +kernel
theorem dX4_many_75 : decode cX4_many 75 = .ok (.ireturn, 1) := by decide +kernel
theorem dX4_many_76 : decode cX4_many 76 = .ok (.bipush (-2), 2) := by decide +kernel
theorem dX4_many_78 : decode cX4_many 78 = .ok (.ireturn, 1) := by decide +kernel
theorem dX4_isHouse_0 : decode cX4_isHouse 0 = .ok (.iload_n 1, 1) := by decide +kernel
theorem dX4_isHouse_1 : decode cX4_isHouse 1 = .ok (.ifCond .lt 18, 3) := by decide +kernel
theorem dX4_isHouse_4 : decode cX4_isHouse 4 = .ok (.iload_n 1, 1) := by decide +kernel
theorem dX4_isHouse_5 : decode cX4_isHouse 5 = .ok (.aload_n 0, 1) := by decide +kernel
theorem dX4_isHouse_6 : decode cX4_isHouse 6 = .ok (.getfield 32, 3) := by decide +kernel
theorem dX4_isHouse_9 : decode cX4_isHouse 9 = .ok (.getfield 77, 3) := by decide +kernel
theorem dX4_isHouse_12 : decode cX4_isHouse 12 = .ok (.if_icmp .ge 7, 3) := by decide +kernel
theorem dX4_isHouse_15 : decode cX4_isHouse 15 = .ok (.iconst 1, 1) := by decide +kernel
theorem dX4_isHouse_16 : decode cX4_isHouse 16 = .ok (.goto 4, 3) := by decide +kernel
theorem dX4_isHouse_19 : decode cX4_isHouse 19 = .ok (.iconst 0, 1) := by decide +kernel
theorem dX4_isHouse_20 : decode cX4_isHouse 20 = .ok (.ireturn, 1) := by decide +kernel
theorem dX4_isPerson_0 : decode cX4_isPerson 0 = .ok (.iload_n 1, 1) := by decide +kernel
theorem dX4_isPerson_1 : decode cX4_isPerson 1 = .ok (.ifCond .lt 18, 3) := by decide +kernel
theorem dX4_isPerson_4 : decode cX4_isPerson 4 = .ok (.iload_n 1, 1) := by decide +kernel
theorem dX4_isPerson_5 : decode cX4_isPerson 5 = .ok (.aload_n 0, 1) := by decide +kernel
theorem dX4_isPerson_6 : decode cX4_isPerson 6 = .ok (.getfield 32, 3) := by decide +kernel
theorem dX4_isPerson_9 : decode cX4_isPerson 9 = .ok (.getfield 187, 3) := by decide +kernel
theorem dX4_isPerson_12 : decode cX4_isPerson 12 = .ok (.if_icmp .ge 7, 3) := by decide +kernel
theorem dX4_isPerson_15 : decode cX4_isPerson 15 = .ok (.iconst 1, 1) := by decide +kernel
theorem dX4_isPerson_16 : decode cX4_isPerson 16 = .ok (.goto 4, 3) := by decide +kernel
theorem dX4_isPerson_19 : decode cX4_isPerson 19 = .ok (.iconst 0, 1) := by decide +kernel
theorem dX4_isPerson_20 : decode cX4_isPerson 20 = .ok (.ireturn, 1) := by decide +kernel
theorem dX4_isAway_0 : decode cX4_isAway 0 = .ok (.aload_n 0, 1) := by decide +kernel
theorem dX4_isAway_1 : decode cX4_isAway 1 = .ok (.getfield 51, 3) := by decide +kernel
theorem dX4_isAway_4 : decode cX4_isAway 4 = .ok (.iload_n 1, 1) := by decide +kernel
theorem dX4_isAway_5 : decode cX4_isAway 5 = .ok (.ishr, 1) := by decide +kernel
theorem dX4_isAway_6 : decode cX4_isAway 6 = .ok (.iconst 1, 1) := by decide +kernel
theorem dX4_isAway_7 : decode cX4_isAway 7 = .ok (.iand, 1) := by decide +kernel
theorem dX4_isAway_8 : decode cX4_isAway 8 = .ok (.iconst 1, 1) := by decide +kernel
theorem dX4_isAway_9 : decode cX4_isAway 9 = .ok (.if_icmp .ne 7, 3) := by decide +kernel
theorem dX4_isAway_12 : decode cX4_isAway 12 = .ok (.iconst 1, 1) := by decide +kernel
theorem dX4_isAway_13 : decode cX4_isAway 13 = .ok (.goto 4, 3) := by decide +kernel
theorem dX4_isAway_16 : decode cX4_isAway 16 = .ok (.iconst 0, 1) := by decide +kernel
theorem dX4_isAway_17 : decode cX4_isAway 17 = .ok (.ireturn, 1) := by decide +kernel
theorem dX4_isSheet_0 : decode cX4_isSheet 0 = .ok (.iload_n 0, 1) := by decide +kernel
theorem dX4_isSheet_1 : decode cX4_isSheet 1 = .ok (.ifCond .lt 12, 3) := by decide +kernel
theorem dX4_isSheet_4 : decode cX4_isSheet 4 = .ok (.iload_n 0, 1) := by decide +kernel
theorem dX4_isSheet_5 : decode cX4_isSheet 5 = .ok (.iconst 4, 1) := by decide +kernel
theorem dX4_isSheet_6 : decode cX4_isSheet 6 = .ok (.if_icmp .ge 7, 3) := by decide +kernel
theorem dX4_isSheet_9 : decode cX4_isSheet 9 = .ok (.iconst 1, 1) := by decide +kernel
theorem dX4_isSheet_10 : decode cX4_isSheet 10 = .ok (.goto 4, 3) := by decide +kernel
theorem dX4_isSheet_13 : decode cX4_isSheet 13 = .ok (.iconst 0, 1) := by decide +kernel
theorem dX4_isSheet_14 : decode cX4_isSheet 14 = .ok (.ireturn, 1) := by decide +kernel
theorem dX4_isLane_0 : decode cX4_isLane 0 = .ok (.iload_n 0, 1) := by decide +kernel
theorem dX4_isLane_1 : decode cX4_isLane 1 = .ok (.ifCond .lt 12, 3) := by decide +kernel
theorem dX4_isLane_4 : decode cX4_isLane 4 = .ok (.iload_n 0, 1) := by decide +kernel
theorem dX4_isLane_5 : decode cX4_isLane 5 = .ok (.iconst 3, 1) := by decide +kernel
theorem dX4_isLane_6 : decode cX4_isLane 6 = .ok (.if_icmp .ge 7, 3) := by decide +kernel
theorem dX4_isLane_9 : decode cX4_isLane 9 = .ok (.iconst 1, 1) := by decide +kernel
theorem dX4_isLane_10 : decode cX4_isLane 10 = .ok (.goto 4, 3) := by decide +kernel
theorem dX4_isLane_13 : decode cX4_isLane 13 = .ok (.iconst 0, 1) := by decide +kernel
theorem dX4_isLane_14 : decode cX4_isLane 14 = .ok (.ireturn, 1) := by decide +kernel
theorem dX4_isWeek_0 : decode cX4_isWeek 0 = .ok (.iload_n 0, 1) := by decide +kernel
theorem dX4_isWeek_1 : decode cX4_isWeek 1 = .ok (.ifCond .lt 13, 3) := by decide +kernel
theorem dX4_isWeek_4 : decode cX4_isWeek 4 = .ok (.iload_n 0, 1) := by decide +kernel
theorem dX4_isWeek_5 : decode cX4_isWeek 5 = .ok (.bipush 10, 2) := by decide +kernel
theorem dX4_isWeek_7 : decode cX4_isWeek 7 = .ok (.if_icmp .ge 7, 3) := by decide +kernel
theorem dX4_isWeek_10 : decode cX4_isWeek 10 = .ok (.iconst 1, 1) := by decide +kernel
theorem dX4_isWeek_11 : decode cX4_isWeek 11 = .ok (.goto 4, 3) := by decide +kernel
theorem dX4_isWeek_14 : decode cX4_isWeek 14 = .ok (.iconst 0, 1) := by decide +kernel
theorem dX4_isWeek_15 : decode cX4_isWeek 15 = .ok (.ireturn, 1) := by decide +kernel
theorem dX4_isTime_0 : decode cX4_isTime 0 = .ok (.iload_n 0, 1) := by decide +kernel
theorem dX4_isTime_1 : decode cX4_isTime 1 = .ok (.invokestatic 119, 3) := by decide +kernel
theorem dX4_isTime_4 : decode cX4_isTime 4 = .ok (.ifCond .eq 17, 3) := by decide +kernel
theorem dX4_isTime_7 : decode cX4_isTime 7 = .ok (.iload_n 1, 1) := by decide +kernel
theorem dX4_isTime_8 : decode cX4_isTime 8 = .ok (.ifCond .lt 13, 3) := by decide +kernel
theorem dX4_isTime_11 : decode cX4_isTime 11 = .ok (.iload_n 1, 1) := by decide +kernel
theorem dX4_isTime_12 : decode cX4_isTime 12 = .ok (.bipush 14, 2) := by decide +kernel
theorem dX4_isTime_14 : decode cX4_isTime 14 = .ok (.if_icmp .ge 7, 3) := by decide +kernel
theorem dX4_isTime_17 : decode cX4_isTime 17 = .ok (.iconst 1, 1) := by decide +kernel
theorem dX4_isTime_18 : decode cX4_isTime 18 = .ok (.goto 4, 3) := by decide +kernel
theorem dX4_isTime_21 : decode cX4_isTime 21 = .ok (.iconst 0, 1) := by decide +kernel
theorem dX4_isTime_22 : decode cX4_isTime 22 = .ok (.ireturn, 1) := by decide +kernel
theorem dX4_isWhich_0 : decode cX4_isWhich 0 = .ok (.iload_n 0, 1) := by decide +kernel
theorem dX4_isWhich_1 : decode cX4_isWhich 1 = .ok (.ifCond .eq 8, 3) := by decide +kernel
theorem dX4_isWhich_4 : decode cX4_isWhich 4 = .ok (.iload_n 0, 1) := by decide +kernel
theorem dX4_isWhich_5 : decode cX4_isWhich 5 = .ok (.iconst 1, 1) := by decide +kernel
theorem dX4_isWhich_6 : decode cX4_isWhich 6 = .ok (.if_icmp .ne 7, 3) := by decide +kernel
theorem dX4_isWhich_9 : decode cX4_isWhich 9 = .ok (.iconst 1, 1) := by decide +kernel
theorem dX4_isWhich_10 : decode cX4_isWhich 10 = .ok (.goto 4, 3) := by decide +kernel
theorem dX4_isWhich_13 : decode cX4_isWhich 13 = .ok (.iconst 0, 1) := by decide +kernel
theorem dX4_isWhich_14 : decode cX4_isWhich 14 = .ok (.ireturn, 1) := by decide +kernel
theorem dX4_timeOf_0 : decode cX4_timeOf 0 = .ok (.iload_n 0, 1) := by decide +kernel
theorem dX4_timeOf_1 : decode cX4_timeOf 1 = .ok (.bipush 14, 2) := by decide +kernel
theorem dX4_timeOf_3 : decode cX4_timeOf 3 = .ok (.imul, 1) := by decide +kernel
theorem dX4_timeOf_4 : decode cX4_timeOf 4 = .ok (.iload_n 1, 1) := by decide +kernel
theorem dX4_timeOf_5 : decode cX4_timeOf 5 = .ok (.iadd, 1) := by decide +kernel
theorem dX4_timeOf_6 : decode cX4_timeOf 6 = .ok (.ireturn, 1) := by decide +kernel
theorem dX4_everybody_0 : decode cX4_everybody 0 = .ok (.iconst 1, 1) := by decide +kernel
theorem dX4_everybody_1 : decode cX4_everybody 1 = .ok (.aload_n 0, 1) := by decide +kernel
theorem dX4_everybody_2 : decode cX4_everybody 2 = .ok (.getfield 32, 3) := by decide +kernel
theorem dX4_everybody_5 : decode cX4_everybody 5 = .ok (.getfield 187, 3) := by decide +kernel
theorem dX4_everybody_8 : decode cX4_everybody 8 = .ok (.ishl, 1) := by decide +kernel
theorem dX4_everybody_9 : decode cX4_everybody 9 = .ok (.iconst 1, 1) := by decide +kernel
theorem dX4_everybody_10 : decode cX4_everybody 10 = .ok (.isub, 1) := by decide +kernel
theorem dX4_everybody_11 : decode cX4_everybody 11 = .ok (.ireturn, 1) := by decide +kernel
theorem dX4_whoIsIn_0 : decode cX4_whoIsIn 0 = .ok (.aload_n 0, 1) := by decide +kernel
theorem dX4_whoIsIn_1 : decode cX4_whoIsIn 1 = .ok (.getfield 32, 3) := by decide +kernel
theorem dX4_whoIsIn_4 : decode cX4_whoIsIn 4 = .ok (.iload_n 1, 1) := by decide +kernel
theorem dX4_whoIsIn_5 : decode cX4_whoIsIn 5 = .ok (.aload_n 0, 1) := by decide +kernel
theorem dX4_whoIsIn_6 : decode cX4_whoIsIn 6 = .ok (.getfield 32, 3) := by decide +kernel
theorem dX4_whoIsIn_9 : decode cX4_whoIsIn 9 = .ok (.getfield 116, 3) := by decide +kernel
theorem dX4_whoIsIn_12 : decode cX4_whoIsIn 12 = .ok (.invokevirtual 267, 3) := by decide +kernel
theorem dX4_whoIsIn_15 : decode cX4_whoIsIn 15 = .ok (.aload_n 0, 1) := by decide +kernel
theorem dX4_whoIsIn_16 : decode cX4_whoIsIn 16 = .ok (.getfield 51, 3) := by decide +kernel
theorem dX4_whoIsIn_19 : decode cX4_whoIsIn 19 = .ok (.iconst (-1), 1) := by decide +kernel
theorem dX4_whoIsIn_20 : decode cX4_whoIsIn 20 = .ok (.ixor, 1) := by decide +kernel
theorem dX4_whoIsIn_21 : decode cX4_whoIsIn 21 = .ok (.iand, 1) := by decide +kernel
theorem dX4_whoIsIn_22 : decode cX4_whoIsIn 22 = .ok (.ireturn, 1) := by decide +kernel
theorem dX4_faultBy_0 : decode cX4_faultBy 0 = .ok (.aload_n 0, 1) := by decide +kernel
theorem dX4_faultBy_1 : decode cX4_faultBy 1 = .ok (.iload_n 1, 1) := by decide +kernel
theorem dX4_faultBy_2 : decode cX4_faultBy 2 = .ok (.putfield 62, 3) := by decide +kernel
theorem dX4_faultBy_5 : decode cX4_faultBy 5 = .ok (.bipush (-10), 2) := by decide +kernel
theorem dX4_faultBy_7 : decode cX4_faultBy 7 = .ok (.iload_n 1, 1) := by decide +kernel
theorem dX4_faultBy_8 : decode cX4_faultBy 8 = .ok (.isub, 1) := by decide +kernel
theorem dX4_faultBy_9 : decode cX4_faultBy 9 = .ok (.ireturn, 1) := by decide +kernel
theorem dX4_refusalOfLane_0 : decode cX4_refusalOfLane 0 = .ok (.aload_n 0, 1) := by decide +kernel
theorem dX4_refusalOfLane_1 : decode cX4_refusalOfLane 1 = .ok (.iconst 0, 1) := by decide +kernel
theorem dX4_refusalOfLane_2 : decode cX4_refusalOfLane 2 = .ok (.putfield 62, 3) := by decide +kernel
theorem dX4_refusalOfLane_5 : decode cX4_refusalOfLane 5 = .ok (.iload_n 1, 1) := by decide +kernel
theorem dX4_refusalOfLane_6 : decode cX4_refusalOfLane 6 = .ok (.invokestatic 215, 3) := by decide +kernel
theorem dX4_refusalOfLane_9 : decode cX4_refusalOfLane 9 = .ok (.ifCond .ne 5, 3) := by decide +kernel
theorem dX4_refusalOfLane_12 : decode cX4_refusalOfLane 12 = .ok (.iconst (-1), 1) := by decide +kernel
theorem dX4_refusalOfLane_13 : decode cX4_refusalOfLane 13 = .ok (.ireturn, 1) := by decide +kernel
theorem dX4_refusalOfLane_14 : decode cX4_refusalOfLane 14 = .ok (.iload_n 2, 1) := by decide +kernel
theorem dX4_refusalOfLane_15 : decode cX4_refusalOfLane 15 = .ok (.invokestatic 218, 3) := by decide +kernel
theorem dX4_refusalOfLane_18 : decode cX4_refusalOfLane 18 = .ok (.ifCond .ne 6, 3) := by decide +kernel
theorem dX4_refusalOfLane_21 : decode cX4_refusalOfLane 21 = .ok (.bipush (-2), 2) := by decide +kernel
theorem dX4_refusalOfLane_23 : decode cX4_refusalOfLane 23 = .ok (.ireturn, 1) := by decide +kernel
theorem dX4_refusalOfLane_24 : decode cX4_refusalOfLane 24 = .ok (.aload_n 0, 1) := by decide +kernel
theorem dX4_refusalOfLane_25 : decode cX4_refusalOfLane 25 = .ok (.getfield 13, 3) := by decide +kernel
theorem dX4_refusalOfLane_28 : decode cX4_refusalOfLane 28 = .ok (.iload_n 1, 1) := by decide +kernel
theorem dX4_refusalOfLane_29 : decode cX4_refusalOfLane 29 = .ok (.aaload, 1) := by decide +kernel
theorem dX4_refusalOfLane_30 : decode cX4_refusalOfLane 30 = .ok (.invokevirtual 228, 3) := by decide +kernel
theorem dX4_refusalOfLane_33 : decode cX4_refusalOfLane 33 = .ok (.ifCond .eq 9, 3) := by decide +kernel
theorem dX4_refusalOfLane_36 : decode cX4_refusalOfLane 36 = .ok (.aload_n 0, 1) := by decide +kernel
theorem dX4_refusalOfLane_37 : decode cX4_refusalOfLane 37 = .ok (.iconst 1, 1) := by decide +kernel
theorem dX4_refusalOfLane_38 : decode cX4_refusalOfLane 38 = .ok (.invokevirtual 221, 3) := by decide +kernel
theorem dX4_refusalOfLane_41 : decode cX4_refusalOfLane 41 = .ok (.ireturn, 1) := by decide +kernel
theorem dX4_refusalOfLane_42 : decode cX4_refusalOfLane 42 = .ok (.aload_n 0, 1) := by decide +kernel
theorem dX4_refusalOfLane_43 : decode cX4_refusalOfLane 43 = .ok (.getfield 13, 3) := by decide +kernel
theorem dX4_refusalOfLane_46 : decode cX4_refusalOfLane 46 = .ok (.iload_n 1, 1) := by decide +kernel
theorem dX4_refusalOfLane_47 : decode cX4_refusalOfLane 47 = .ok (.aaload, 1) := by decide +kernel
theorem dX4_refusalOfLane_48 : decode cX4_refusalOfLane 48 = .ok (.getfield 240, 3) := by decide +kernel
theorem dX4_refusalOfLane_51 : decode cX4_refusalOfLane 51 = .ok (.iload_n 2, 1) := by decide +kernel
theorem dX4_refusalOfLane_52 : decode cX4_refusalOfLane 52 = .ok (.if_icmp .ne 7, 3) := by decide +kernel
theorem dX4_refusalOfLane_55 : decode cX4_refusalOfLane 55 = .ok (.iconst 0, 1) := by decide +kernel
theorem dX4_refusalOfLane_56 : decode cX4_refusalOfLane 56 = .ok (.goto 8, 3) := by decide +kernel
theorem dX4_refusalOfLane_59 : decode cX4_refusalOfLane 59 = .ok (.aload_n 0, 1) := by decide +kernel
theorem dX4_refusalOfLane_60 : decode cX4_refusalOfLane 60 = .ok (.iconst 2, 1) := by decide +kernel
theorem dX4_refusalOfLane_61 : decode cX4_refusalOfLane 61 = .ok (.invokevirtual 221, 3) := by decide +kernel
theorem dX4_refusalOfLane_64 : decode cX4_refusalOfLane 64 = .ok (.ireturn, 1) := by decide +kernel
theorem dX4_refusalOfCells_0 : decode cX4_refusalOfCells 0 = .ok (.aload_n 0, 1) := by decide +kernel
theorem dX4_refusalOfCells_1 : decode cX4_refusalOfCells 1 = .ok (.iload_n 1, 1) := by decide +kernel
theorem dX4_refusalOfCells_2 : decode cX4_refusalOfCells 2 = .ok (.iload_n 2, 1) := by decide +kernel
theorem dX4_refusalOfCells_3 : decode cX4_refusalOfCells 3 = .ok (.invokevirtual 237, 3) := by decide +kernel
theorem dX4_refusalOfCells_6 : decode cX4_refusalOfCells 6 = .ok (.istore 5, 2) := by decide +kernel
theorem dX4_refusalOfCells_8 : decode cX4_refusalOfCells 8 = .ok (.iload 5, 2) := by decide +kernel
theorem dX4_refusalOfCells_10 : decode cX4_refusalOfCells 10 = .ok (.ifCond .eq 6, 3) := by decide +kernel
theorem dX4_refusalOfCells_13 : decode cX4_refusalOfCells 13 = .ok (.iload 5, 2) := by decide +kernel
theorem dX4_refusalOfCells_15 : decode cX4_refusalOfCells 15 = .ok (.ireturn, 1) := by decide +kernel
theorem dX4_refusalOfCells_16 : decode cX4_refusalOfCells 16 = .ok (.iload 4, 2) := by decide +kernel
theorem dX4_refusalOfCells_18 : decode cX4_refusalOfCells 18 = .ok (.ifCond .ge 9, 3) := by decide +kernel
theorem dX4_refusalOfCells_21 : decode cX4_refusalOfCells 21 = .ok (.aload_n 0, 1) := by decide +kernel
theorem dX4_refusalOfCells_22 : decode cX4_refusalOfCells 22 = .ok (.iconst 4, 1) := by decide +kernel
theorem dX4_refusalOfCells_23 : decode cX4_refusalOfCells 23 = .ok (.invokevirtual 221, 3) := by decide +kernel
theorem dX4_refusalOfCells_26 : decode cX4_refusalOfCells 26 = .ok (.ireturn, 1) := by decide +kernel
theorem dX4_refusalOfCells_27 : decode cX4_refusalOfCells 27 = .ok (.aload_n 0, 1) := by decide +kernel
theorem dX4_refusalOfCells_28 : decode cX4_refusalOfCells 28 = .ok (.getfield 13, 3) := by decide +kernel
theorem dX4_refusalOfCells_31 : decode cX4_refusalOfCells 31 = .ok (.iload_n 1, 1) := by decide +kernel
theorem dX4_refusalOfCells_32 : decode cX4_refusalOfCells 32 = .ok (.aaload, 1) := by decide +kernel
theorem dX4_refusalOfCells_33 : decode cX4_refusalOfCells 33 = .ok (.iload_n 3, 1) := by decide +kernel
theorem dX4_refusalOfCells_34 : decode cX4_refusalOfCells 34 = .ok (.iload 4, 2) := by decide +kernel
theorem dX4_refusalOfCells_36 : decode cX4_refusalOfCells 36 = .ok (.invokevirtual 243, 3) := by decide +kernel
theorem dX4_refusalOfCells_39 : decode cX4_refusalOfCells 39 = .ok (.ifCond .eq 7, 3) := by decide +kernel
