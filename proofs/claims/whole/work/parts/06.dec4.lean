theorem dX5_init_0 : decode cX5_init 0 = .ok (.aload_n 0, 1) := by decide +kernel
theorem dX5_init_1 : decode cX5_init 1 = .ok (.invokespecial 1, 3) := by decide +kernel
theorem dX5_init_4 : decode cX5_init 4 = .ok (.aload_n 0, 1) := by decide +kernel
theorem dX5_init_5 : decode cX5_init 5 = .ok (.iconst 4, 1) := by decide +kernel
theorem dX5_init_6 : decode cX5_init 6 = .ok (.newarray .int, 2) := by decide +kernel
theorem dX5_init_8 : decode cX5_init 8 = .ok (.dup, 1) := by decide +kernel
theorem dX5_init_9 : decode cX5_init 9 = .ok (.iconst 0, 1) := by decide +kernel
theorem dX5_init_10 : decode cX5_init 10 = .ok (.bipush (-9), 2) := by decide +kernel
theorem dX5_init_12 : decode cX5_init 12 = .ok (.iastore, 1) := by decide +kernel
theorem dX5_init_13 : decode cX5_init 13 = .ok (.dup, 1) := by decide +kernel
theorem dX5_init_14 : decode cX5_init 14 = .ok (.iconst 1, 1) := by decide +kernel
theorem dX5_init_15 : decode cX5_init 15 = .ok (.bipush (-9), 2) := by decide +kernel
theorem dX5_init_17 : decode cX5_init 17 = .ok (.iastore, 1) := by decide +kernel
theorem dX5_init_18 : decode cX5_init 18 = .ok (.dup, 1) := by decide +kernel
theorem dX5_init_19 : decode cX5_init 19 = .ok (.iconst 2, 1) := by decide +kernel
theorem dX5_init_20 : decode cX5_init 20 = .ok (.bipush (-9), 2) := by decide +kernel
theorem dX5_init_22 : decode cX5_init 22 = .ok (.iastore, 1) := by decide +kernel
theorem dX5_init_23 : decode cX5_init 23 = .ok (.dup, 1) := by decide +kernel
theorem dX5_init_24 : decode cX5_init 24 = .ok (.iconst 3, 1) := by decide +kernel
theorem dX5_init_25 : decode cX5_init 25 = .ok (.bipush (-9), 2) := by decide +kernel
theorem dX5_init_27 : decode cX5_init 27 = .ok (.iastore, 1) := by decide +kernel
theorem dX5_init_28 : decode cX5_init 28 = .ok (.putfield 9, 3) := by decide +kernel
theorem dX5_init_31 : decode cX5_init 31 = .ok (.aload_n 0, 1) := by decide +kernel
theorem dX5_init_32 : decode cX5_init 32 = .ok (.iconst 4, 1) := by decide +kernel
theorem dX5_init_33 : decode cX5_init 33 = .ok (.newarray .int, 2) := by decide +kernel
theorem dX5_init_35 : decode cX5_init 35 = .ok (.putfield 13, 3) := by decide +kernel
theorem dX5_init_38 : decode cX5_init 38 = .ok (.aload_n 0, 1) := by decide +kernel
theorem dX5_init_39 : decode cX5_init 39 = .ok (.sipush 240, 3) := by decide +kernel
theorem dX5_init_42 : decode cX5_init 42 = .ok (.newarray .int, 2) := by decide +kernel
theorem dX5_init_44 : decode cX5_init 44 = .ok (.putfield 16, 3) := by decide +kernel
theorem dX5_init_47 : decode cX5_init 47 = .ok (.aload_n 0, 1) := by decide +kernel
theorem dX5_init_48 : decode cX5_init 48 = .ok (.iconst 4, 1) := by decide +kernel
theorem dX5_init_49 : decode cX5_init 49 = .ok (.newarray .int, 2) := by decide +kernel
theorem dX5_init_51 : decode cX5_init 51 = .ok (.putfield 19, 3) := by decide +kernel
theorem dX5_init_54 : decode cX5_init 54 = .ok (.aload_n 0, 1) := by decide +kernel
theorem dX5_init_55 : decode cX5_init 55 = .ok (.iconst 4, 1) := by decide +kernel
theorem dX5_init_56 : decode cX5_init 56 = .ok (.newarray .int, 2) := by decide +kernel
theorem dX5_init_58 : decode cX5_init 58 = .ok (.putfield 22, 3) := by decide +kernel
theorem dX5_init_61 : decode cX5_init 61 = .ok (.aload_n 0, 1) := by decide +kernel
theorem dX5_init_62 : decode cX5_init 62 = .ok (.bipush 6, 2) := by decide +kernel
theorem dX5_init_64 : decode cX5_init 64 = .ok (.newarray .int, 2) := by decide +kernel
theorem dX5_init_66 : decode cX5_init 66 = .ok (.putfield 25, 3) := by decide +kernel
theorem dX5_init_69 : decode cX5_init 69 = .ok (.aload_n 0, 1) := by decide +kernel
theorem dX5_init_70 : decode cX5_init 70 = .ok (.bipush 6, 2) := by decide +kernel
theorem dX5_init_72 : decode cX5_init 72 = .ok (.newarray .int, 2) := by decide +kernel
theorem dX5_init_74 : decode cX5_init 74 = .ok (.putfield 28, 3) := by decide +kernel
theorem dX5_init_77 : decode cX5_init 77 = .ok (.aload_n 0, 1) := by decide +kernel
theorem dX5_init_78 : decode cX5_init 78 = .ok (.bipush 6, 2) := by decide +kernel
theorem dX5_init_80 : decode cX5_init 80 = .ok (.newarray .int, 2) := by decide +kernel
theorem dX5_init_82 : decode cX5_init 82 = .ok (.putfield 31, 3) := by decide +kernel
theorem dX5_init_85 : decode cX5_init 85 = .ok (.aload_n 0, 1) := by decide +kernel
theorem dX5_init_86 : decode cX5_init 86 = .ok (.bipush 6, 2) := by decide +kernel
theorem dX5_init_88 : decode cX5_init 88 = .ok (.newarray .int, 2) := by decide +kernel
theorem dX5_init_90 : decode cX5_init 90 = .ok (.putfield 34, 3) := by decide +kernel
theorem dX5_init_93 : decode cX5_init 93 = .ok (.aload_n 0, 1) := by decide +kernel
theorem dX5_init_94 : decode cX5_init 94 = .ok (.bipush 6, 2) := by decide +kernel
theorem dX5_init_96 : decode cX5_init 96 = .ok (.newarray .int, 2) := by decide +kernel
theorem dX5_init_98 : decode cX5_init 98 = .ok (.putfield 37, 3) := by decide +kernel
theorem dX5_init_101 : decode cX5_init 101 = .ok (.aload_n 0, 1) := by decide +kernel
theorem dX5_init_102 : decode cX5_init 102 = .ok (.bipush 6, 2) := by decide +kernel
theorem dX5_init_104 : decode cX5_init 104 = .ok (.newarray .boolean, 2) := by decide +kernel
theorem dX5_init_106 : decode cX5_init 106 = .ok (.putfield 40, 3) := by decide +kernel
theorem dX5_init_109 : decode cX5_init 109 = .ok (.aload_n 0, 1) := by decide +kernel
theorem dX5_init_110 : decode cX5_init 110 = .ok (.bipush 8, 2) := by decide +kernel
theorem dX5_init_112 : decode cX5_init 112 = .ok (.newarray .int, 2) := by decide +kernel
theorem dX5_init_114 : decode cX5_init 114 = .ok (.putfield 44, 3) := by decide +kernel
theorem dX5_init_117 : decode cX5_init 117 = .ok (.aload_n 0, 1) := by decide +kernel
theorem dX5_init_118 : decode cX5_init 118 = .ok (.bipush 30, 2) := by decide +kernel
theorem dX5_init_120 : decode cX5_init 120 = .ok (.newarray .int, 2) := by decide +kernel
theorem dX5_init_122 : decode cX5_init 122 = .ok (.putfield 47, 3) := by decide +kernel
theorem dX5_init_125 : decode cX5_init 125 = .ok (.aload_n 0, 1) := by decide +kernel
theorem dX5_init_126 : decode cX5_init 126 = .ok (.bipush 7, 2) := by decide +kernel
theorem dX5_init_128 : decode cX5_init 128 = .ok (.newarray .int, 2) := by decide +kernel
theorem dX5_init_130 : decode cX5_init 130 = .ok (.putfield 50, 3) := by decide +kernel
theorem dX5_init_133 : decode cX5_init 133 = .ok (.aload_n 0, 1) := by decide +kernel
theorem dX5_init_134 : decode cX5_init 134 = .ok (.bipush 7, 2) := by decide +kernel
theorem dX5_init_136 : decode cX5_init 136 = .ok (.newarray .int, 2) := by decide +kernel
theorem dX5_init_138 : decode cX5_init 138 = .ok (.putfield 53, 3) := by decide +kernel
theorem dX5_init_141 : decode cX5_init 141 = .ok (.aload_n 0, 1) := by decide +kernel
theorem dX5_init_142 : decode cX5_init 142 = .ok (.bipush 7, 2) := by decide +kernel
theorem dX5_init_144 : decode cX5_init 144 = .ok (.newarray .int, 2) := by decide +kernel
theorem dX5_init_146 : decode cX5_init 146 = .ok (.putfield 56, 3) := by decide +kernel
theorem dX5_init_149 : decode cX5_init 149 = .ok (.aload_n 0, 1) := by decide +kernel
theorem dX5_init_150 : decode cX5_init 150 = .ok (.iconst 4, 1) := by decide +kernel
theorem dX5_init_151 : decode cX5_init 151 = .ok (.newarray .int, 2) := by decide +kernel
theorem dX5_init_153 : decode cX5_init 153 = .ok (.putfield 59, 3) := by decide +kernel
theorem dX5_init_156 : decode cX5_init 156 = .ok (.aload_n 0, 1) := by decide +kernel
theorem dX5_init_157 : decode cX5_init 157 = .ok (.iconst 4, 1) := by decide +kernel
theorem dX5_init_158 : decode cX5_init 158 = .ok (.newarray .int, 2) := by decide +kernel
theorem dX5_init_160 : decode cX5_init 160 = .ok (.putfield 62, 3) := by decide +kernel
theorem dX5_init_163 : decode cX5_init 163 = .ok (.aload_n 0, 1) := by decide +kernel
theorem dX5_init_164 : decode cX5_init 164 = .ok (.bipush 6, 2) := by decide +kernel
theorem dX5_init_166 : decode cX5_init 166 = .ok (.newarray .int, 2) := by decide +kernel
theorem dX5_init_168 : decode cX5_init 168 = .ok (.putfield 65, 3) := by decide +kernel
theorem dX5_init_171 : decode cX5_init 171 = .ok (.aload_n 0, 1) := by decide +kernel
theorem dX5_init_172 : decode cX5_init 172 = .ok (.iconst 4, 1) := by decide +kernel
theorem dX5_init_173 : decode cX5_init 173 = .ok (.newarray .int, 2) := by decide +kernel
theorem dX5_init_175 : decode cX5_init 175 = .ok (.putfield 68, 3) := by decide +kernel
theorem dX5_init_178 : decode cX5_init 178 = .ok (.aload_n 0, 1) := by decide +kernel
theorem dX5_init_179 : decode cX5_init 179 = .ok (.bipush 8, 2) := by decide +kernel
theorem dX5_init_181 : decode cX5_init 181 = .ok (.newarray .int, 2) := by decide +kernel
theorem dX5_init_183 : decode cX5_init 183 = .ok (.putfield 71, 3) := by decide +kernel
theorem dX5_init_186 : decode cX5_init 186 = .ok (.aload_n 0, 1) := by decide +kernel
theorem dX5_init_187 : decode cX5_init 187 = .ok (.bipush 8, 2) := by decide +kernel
theorem dX5_init_189 : decode cX5_init 189 = .ok (.newarray .int, 2) := by decide +kernel
theorem dX5_init_191 : decode cX5_init 191 = .ok (.putfield 74, 3) := by decide +kernel
theorem dX5_init_194 : decode cX5_init 194 = .ok (.aload_n 0, 1) := by decide +kernel
theorem dX5_init_195 : decode cX5_init 195 = .ok (.bipush 8, 2) := by decide +kernel
theorem dX5_init_197 : decode cX5_init 197 = .ok (.newarray .int, 2) := by decide +kernel
theorem dX5_init_199 : decode cX5_init 199 = .ok (.putfield 77, 3) := by decide +kernel
theorem dX5_init_202 : decode cX5_init 202 = .ok (.aload_n 0, 1) := by decide +kernel
theorem dX5_init_203 : decode cX5_init 203 = .ok (.bipush 8, 2) := by decide +kernel
theorem dX5_init_205 : decode cX5_init 205 = .ok (.newarray .int, 2) := by decide +kernel
theorem dX5_init_207 : decode cX5_init 207 = .ok (.putfield 80, 3) := by decide +kernel
theorem dX5_init_210 : decode cX5_init 210 = .ok (.return_, 1) := by decide +kernel
theorem dX5_fails_0 : decode cX5_fails 0 = .ok (.aload_n 0, 1) := by decide +kernel
theorem dX5_fails_1 : decode cX5_fails 1 = .ok (.iload_n 1, 1) := by decide +kernel
theorem dX5_fails_2 : decode cX5_fails 2 = .ok (.putfield 83, 3) := by decide +kernel
theorem dX5_fails_5 : decode cX5_fails 5 = .ok (.bipush (-10), 2) := by decide +kernel
theorem dX5_fails_7 : decode cX5_fails 7 = .ok (.iload_n 1, 1) := by decide +kernel
theorem dX5_fails_8 : decode cX5_fails 8 = .ok (.isub, 1) := by decide +kernel
theorem dX5_fails_9 : decode cX5_fails 9 = .ok (.ireturn, 1) := by decide +kernel
theorem dX5_lost_0 : decode cX5_lost 0 = .ok (.aload_n 0, 1) := by decide +kernel
theorem dX5_lost_1 : decode cX5_lost 1 = .ok (.iload_n 1, 1) := by decide +kernel
theorem dX5_lost_2 : decode cX5_lost 2 = .ok (.putfield 83, 3) := by decide +kernel
theorem dX5_lost_5 : decode cX5_lost 5 = .ok (.ldc2_w 87, 3) := by decide +kernel
theorem dX5_lost_8 : decode cX5_lost 8 = .ok (.lreturn, 1) := by decide +kernel
theorem dX5_within_0 : decode cX5_within 0 = .ok (.iload_n 0, 1) := by decide +kernel
theorem dX5_within_1 : decode cX5_within 1 = .ok (.iload_n 1, 1) := by decide +kernel
theorem dX5_within_2 : decode cX5_within 2 = .ok (.if_icmp .lt 12, 3) := by decide +kernel
theorem dX5_within_5 : decode cX5_within 5 = .ok (.iload_n 0, 1) := by decide +kernel
theorem dX5_within_6 : decode cX5_within 6 = .ok (.iload_n 2, 1) := by decide +kernel
theorem dX5_within_7 : decode cX5_within 7 = .ok (.if_icmp .gt 7, 3) := by decide +kernel
theorem dX5_within_10 : decode cX5_within 10 = .ok (.iconst 1, 1) := by decide +kernel
theorem dX5_within_11 : decode cX5_within 11 = .ok (.goto 4, 3) := by decide +kernel
theorem dX5_within_14 : decode cX5_within 14 = .ok (.iconst 0, 1) := by decide +kernel
theorem dX5_within_15 : decode cX5_within 15 = .ok (.ireturn, 1) := by decide +kernel
theorem dX5_isSheet_0 : decode cX5_isSheet 0 = .ok (.iload_n 0, 1) := by decide +kernel
theorem dX5_isSheet_1 : decode cX5_isSheet 1 = .ok (.iconst 0, 1) := by decide +kernel
theorem dX5_isSheet_2 : decode cX5_isSheet 2 = .ok (.iconst 3, 1) := by decide +kernel
theorem dX5_isSheet_3 : decode cX5_isSheet 3 = .ok (.invokestatic 89, 3) := by decide +kernel
theorem dX5_isSheet_6 : decode cX5_isSheet 6 = .ok (.ireturn, 1) := by decide +kernel
theorem dX5_isSort_0 : decode cX5_isSort 0 = .ok (.iload_n 0, 1) := by decide +kernel
theorem dX5_isSort_1 : decode cX5_isSort 1 = .ok (.iconst 0, 1) := by decide +kernel
theorem dX5_isSort_2 : decode cX5_isSort 2 = .ok (.iconst 2, 1) := by decide +kernel
theorem dX5_isSort_3 : decode cX5_isSort 3 = .ok (.invokestatic 89, 3) := by decide +kernel
theorem dX5_isSort_6 : decode cX5_isSort 6 = .ok (.ireturn, 1) := by decide +kernel
theorem dX5_against_0 : decode cX5_against 0 = .ok (.aload_n 0, 1) := by decide +kernel
theorem dX5_against_1 : decode cX5_against 1 = .ok (.getfield 9, 3) := by decide +kernel
theorem dX5_against_4 : decode cX5_against 4 = .ok (.iload_n 1, 1) := by decide +kernel
theorem dX5_against_5 : decode cX5_against 5 = .ok (.iaload, 1) := by decide +kernel
theorem dX5_against_6 : decode cX5_against 6 = .ok (.bipush (-9), 2) := by decide +kernel
theorem dX5_against_8 : decode cX5_against 8 = .ok (.if_icmp .eq 15, 3) := by decide +kernel
theorem dX5_against_11 : decode cX5_against 11 = .ok (.aload_n 0, 1) := by decide +kernel
theorem dX5_against_12 : decode cX5_against 12 = .ok (.getfield 9, 3) := by decide +kernel
theorem dX5_against_15 : decode cX5_against 15 = .ok (.iload_n 1, 1) := by decide +kernel
theorem dX5_against_16 : decode cX5_against 16 = .ok (.iaload, 1) := by decide +kernel
theorem dX5_against_17 : decode cX5_against 17 = .ok (.iload_n 2, 1) := by decide +kernel
theorem dX5_against_18 : decode cX5_against 18 = .ok (.if_icmp .eq 5, 3) := by decide +kernel
theorem dX5_against_21 : decode cX5_against 21 = .ok (.iconst 2, 1) := by decide +kernel
theorem dX5_against_22 : decode cX5_against 22 = .ok (.ireturn, 1) := by decide +kernel
theorem dX5_against_23 : decode cX5_against 23 = .ok (.aload_n 0, 1) := by decide +kernel
theorem dX5_against_24 : decode cX5_against 24 = .ok (.getfield 9, 3) := by decide +kernel
theorem dX5_against_27 : decode cX5_against 27 = .ok (.iload_n 1, 1) := by decide +kernel
theorem dX5_against_28 : decode cX5_against 28 = .ok (.iaload, 1) := by decide +kernel
theorem dX5_against_29 : decode cX5_against 29 = .ok (.bipush (-9), 2) := by decide +kernel
theorem dX5_against_31 : decode cX5_against 31 = .ok (.if_icmp .ne 5, 3) := by decide +kernel
theorem dX5_against_34 : decode cX5_against 34 = .ok (.iconst 1, 1) := by decide +kernel
theorem dX5_against_35 : decode cX5_against 35 = .ok (.ireturn, 1) := by decide +kernel
theorem dX5_against_36 : decode cX5_against 36 = .ok (.iload 4, 2) := by decide +kernel
theorem dX5_against_38 : decode cX5_against 38 = .ok (.ifCond .ge 5, 3) := by decide +kernel
theorem dX5_against_41 : decode cX5_against 41 = .ok (.iconst 4, 1) := by decide +kernel
theorem dX5_against_42 : decode cX5_against 42 = .ok (.ireturn, 1) := by decide +kernel
theorem dX5_against_43 : decode cX5_against 43 = .ok (.iload_n 3, 1) := by decide +kernel
theorem dX5_against_44 : decode cX5_against 44 = .ok (.ifCond .lt 26, 3) := by decide +kernel
theorem dX5_against_47 : decode cX5_against 47 = .ok (.iload_n 3, 1) := by decide +kernel
theorem dX5_against_48 : decode cX5_against 48 = .ok (.aload_n 0, 1) := by decide +kernel
theorem dX5_against_49 : decode cX5_against 49 = .ok (.getfield 13, 3) := by decide +kernel
theorem dX5_against_52 : decode cX5_against 52 = .ok (.iload_n 1, 1) := by decide +kernel
theorem dX5_against_53 : decode cX5_against 53 = .ok (.iaload, 1) := by decide +kernel
theorem dX5_against_54 : decode cX5_against 54 = .ok (.if_icmp .gt 16, 3) := by decide +kernel
theorem dX5_against_57 : decode cX5_against 57 = .ok (.iload 4, 2) := by decide +kernel
theorem dX5_against_59 : decode cX5_against 59 = .ok (.aload_n 0, 1) := by decide +kernel
theorem dX5_against_60 : decode cX5_against 60 = .ok (.getfield 13, 3) := by decide +kernel
theorem dX5_against_63 : decode cX5_against 63 = .ok (.iload_n 1, 1) := by decide +kernel
theorem dX5_against_64 : decode cX5_against 64 = .ok (.iaload, 1) := by decide +kernel
theorem dX5_against_65 : decode cX5_against 65 = .ok (.iload_n 3, 1) := by decide +kernel
theorem dX5_against_66 : decode cX5_against 66 = .ok (.isub, 1) := by decide +kernel
theorem dX5_against_67 : decode cX5_against 67 = .ok (.if_icmp .le 7, 3) := by decide +kernel
theorem dX5_against_70 : decode cX5_against 70 = .ok (.iconst 3, 1) := by decide +kernel
theorem dX5_against_71 : decode cX5_against 71 = .ok (.goto 4, 3) := by decide +kernel
theorem dX5_against_74 : decode cX5_against 74 = .ok (.iconst 0, 1) := by decide +kernel
theorem dX5_against_75 : decode cX5_against 75 = .ok (.ireturn, 1) := by decide +kernel
theorem dX5_isHouse_0 : decode cX5_isHouse 0 = .ok (.iload_n 1, 1) := by decide +kernel
theorem dX5_isHouse_1 : decode cX5_isHouse 1 = .ok (.ifCond .lt 15, 3) := by decide +kernel
theorem dX5_isHouse_4 : decode cX5_isHouse 4 = .ok (.iload_n 1, 1) := by decide +kernel
theorem dX5_isHouse_5 : decode cX5_isHouse 5 = .ok (.aload_n 0, 1) := by decide +kernel
theorem dX5_isHouse_6 : decode cX5_isHouse 6 = .ok (.getfield 93, 3) := by decide +kernel
theorem dX5_isHouse_9 : decode cX5_isHouse 9 = .ok (.if_icmp .ge 7, 3) := by decide +kernel
theorem dX5_isHouse_12 : decode cX5_isHouse 12 = .ok (.iconst 1, 1) := by decide +kernel
theorem dX5_isHouse_13 : decode cX5_isHouse 13 = .ok (.goto 4, 3) := by decide +kernel
theorem dX5_isHouse_16 : decode cX5_isHouse 16 = .ok (.iconst 0, 1) := by decide +kernel
theorem dX5_isHouse_17 : decode cX5_isHouse 17 = .ok (.ireturn, 1) := by decide +kernel
theorem dX5_isPerson_0 : decode cX5_isPerson 0 = .ok (.iload_n 1, 1) := by decide +kernel
theorem dX5_isPerson_1 : decode cX5_isPerson 1 = .ok (.ifCond .lt 15, 3) := by decide +kernel
theorem dX5_isPerson_4 : decode cX5_isPerson 4 = .ok (.iload_n 1, 1) := by decide +kernel
theorem dX5_isPerson_5 : decode cX5_isPerson 5 = .ok (.aload_n 0, 1) := by decide +kernel
theorem dX5_isPerson_6 : decode cX5_isPerson 6 = .ok (.getfield 96, 3) := by decide +kernel
theorem dX5_isPerson_9 : decode cX5_isPerson 9 = .ok (.if_icmp .ge 7, 3) := by decide +kernel
theorem dX5_isPerson_12 : decode cX5_isPerson 12 = .ok (.iconst 1, 1) := by decide +kernel
theorem dX5_isPerson_13 : decode cX5_isPerson 13 = .ok (.goto 4, 3) := by decide +kernel
theorem dX5_isPerson_16 : decode cX5_isPerson 16 = .ok (.iconst 0, 1) := by decide +kernel
theorem dX5_isPerson_17 : decode cX5_isPerson 17 = .ok (.ireturn, 1) := by decide +kernel
theorem dX5_isWeek_0 : decode cX5_isWeek 0 = .ok (.iload_n 0, 1) := by decide +kernel
theorem dX5_isWeek_1 : decode cX5_isWeek 1 = .ok (.iconst 0, 1) := by decide +kernel
theorem dX5_isWeek_2 : decode cX5_isWeek 2 = .ok (.bipush 9, 2) := by decide +kernel
theorem dX5_isWeek_4 : decode cX5_isWeek 4 = .ok (.invokestatic 89, 3) := by decide +kernel
theorem dX5_isWeek_7 : decode cX5_isWeek 7 = .ok (.ireturn, 1) := by decide +kernel
theorem dX5_isHalf_0 : decode cX5_isHalf 0 = .ok (.iload_n 0, 1) := by decide +kernel
theorem dX5_isHalf_1 : decode cX5_isHalf 1 = .ok (.iconst 0, 1) := by decide +kernel
theorem dX5_isHalf_2 : decode cX5_isHalf 2 = .ok (.bipush 13, 2) := by decide +kernel
theorem dX5_isHalf_4 : decode cX5_isHalf 4 = .ok (.invokestatic 89, 3) := by decide +kernel
theorem dX5_isHalf_7 : decode cX5_isHalf 7 = .ok (.ireturn, 1) := by decide +kernel
theorem dX5_digit_0 : decode cX5_digit 0 = .ok (.aload_n 0, 1) := by decide +kernel
theorem dX5_digit_1 : decode cX5_digit 1 = .ok (.getfield 99, 3) := by decide +kernel
theorem dX5_digit_4 : decode cX5_digit 4 = .ok (.iload_n 1, 1) := by decide +kernel
theorem dX5_digit_5 : decode cX5_digit 5 = .ok (.if_icmp .ge 26, 3) := by decide +kernel
theorem dX5_digit_8 : decode cX5_digit 8 = .ok (.aload_n 0, 1) := by decide +kernel
theorem dX5_digit_9 : decode cX5_digit 9 = .ok (.getfield 16, 3) := by decide +kernel
theorem dX5_digit_12 : decode cX5_digit 12 = .ok (.aload_n 0, 1) := by decide +kernel
theorem dX5_digit_13 : decode cX5_digit 13 = .ok (.getfield 99, 3) := by decide +kernel
theorem dX5_digit_16 : decode cX5_digit 16 = .ok (.iaload, 1) := by decide +kernel
theorem dX5_digit_17 : decode cX5_digit 17 = .ok (.bipush 48, 2) := by decide +kernel
theorem dX5_digit_19 : decode cX5_digit 19 = .ok (.iload_n 2, 1) := by decide +kernel
theorem dX5_digit_20 : decode cX5_digit 20 = .ok (.iadd, 1) := by decide +kernel
theorem dX5_digit_21 : decode cX5_digit 21 = .ok (.bipush 48, 2) := by decide +kernel
theorem dX5_digit_23 : decode cX5_digit 23 = .ok (.iload_n 3, 1) := by decide +kernel
theorem dX5_digit_24 : decode cX5_digit 24 = .ok (.iadd, 1) := by decide +kernel
theorem dX5_digit_25 : decode cX5_digit 25 = .ok (.invokestatic 89, 3) := by decide +kernel
theorem dX5_digit_28 : decode cX5_digit 28 = .ok (.ifCond .ne 6, 3) := by decide +kernel
theorem dX5_digit_31 : decode cX5_digit 31 = .ok (.bipush (-9), 2) := by decide +kernel
theorem dX5_digit_33 : decode cX5_digit 33 = .ok (.ireturn, 1) := by decide +kernel
theorem dX5_digit_34 : decode cX5_digit 34 = .ok (.aload_n 0, 1) := by decide +kernel
theorem dX5_digit_35 : decode cX5_digit 35 = .ok (.dup, 1) := by decide +kernel
theorem dX5_digit_36 : decode cX5_digit 36 = .ok (.getfield 99, 3) := by decide +kernel
theorem dX5_digit_39 : decode cX5_digit 39 = .ok (.iconst 1, 1) := by decide +kernel
theorem dX5_digit_40 : decode cX5_digit 40 = .ok (.iadd, 1) := by decide +kernel
theorem dX5_digit_41 : decode cX5_digit 41 = .ok (.putfield 99, 3) := by decide +kernel
theorem dX5_digit_44 : decode cX5_digit 44 = .ok (.aload_n 0, 1) := by decide +kernel
theorem dX5_digit_45 : decode cX5_digit 45 = .ok (.getfield 16, 3) := by decide +kernel
theorem dX5_digit_48 : decode cX5_digit 48 = .ok (.aload_n 0, 1) := by decide +kernel
theorem dX5_digit_49 : decode cX5_digit 49 = .ok (.getfield 99, 3) := by decide +kernel
theorem dX5_digit_52 : decode cX5_digit 52 = .ok (.iconst 1, 1) := by decide +kernel
theorem dX5_digit_53 : decode cX5_digit 53 = .ok (.isub, 1) := by decide +kernel
theorem dX5_digit_54 : decode cX5_digit 54 = .ok (.iaload, 1) := by decide +kernel
theorem dX5_digit_55 : decode cX5_digit 55 = .ok (.bipush 48, 2) := by decide +kernel
theorem dX5_digit_57 : decode cX5_digit 57 = .ok (.isub, 1) := by decide +kernel
theorem dX5_digit_58 : decode cX5_digit 58 = .ok (.ireturn, 1) := by decide +kernel
theorem dX5_isSign_0 : decode cX5_isSign 0 = .ok (.aload_n 0, 1) := by decide +kernel
theorem dX5_isSign_1 : decode cX5_isSign 1 = .ok (.getfield 99, 3) := by decide +kernel
theorem dX5_isSign_4 : decode cX5_isSign 4 = .ok (.iload_n 1, 1) := by decide +kernel
theorem dX5_isSign_5 : decode cX5_isSign 5 = .ok (.if_icmp .ge 16, 3) := by decide +kernel
theorem dX5_isSign_8 : decode cX5_isSign 8 = .ok (.aload_n 0, 1) := by decide +kernel
theorem dX5_isSign_9 : decode cX5_isSign 9 = .ok (.getfield 16, 3) := by decide +kernel
theorem dX5_isSign_12 : decode cX5_isSign 12 = .ok (.aload_n 0, 1) := by decide +kernel
theorem dX5_isSign_13 : decode cX5_isSign 13 = .ok (.getfield 99, 3) := by decide +kernel
theorem dX5_isSign_16 : decode cX5_isSign 16 = .ok (.iaload, 1) := by decide +kernel
theorem dX5_isSign_17 : decode cX5_isSign 17 = .ok (.iload_n 2, 1) := by decide +kernel
theorem dX5_isSign_18 : decode cX5_isSign 18 = .ok (.if_icmp .eq 5, 3) := by decide +kernel
theorem dX5_isSign_21 : decode cX5_isSign 21 = .ok (.iconst 0, 1) := by decide +kernel
theorem dX5_isSign_22 : decode cX5_isSign 22 = .ok (.ireturn, 1) := by decide +kernel
theorem dX5_isSign_23 : decode cX5_isSign 23 = .ok (.aload_n 0, 1) := by decide +kernel
theorem dX5_isSign_24 : decode cX5_isSign 24 = .ok (.dup, 1) := by decide +kernel
theorem dX5_isSign_25 : decode cX5_isSign 25 = .ok (.getfield 99, 3) := by decide +kernel
theorem dX5_isSign_28 : decode cX5_isSign 28 = .ok (.iconst 1, 1) := by decide +kernel
theorem dX5_isSign_29 : decode cX5_isSign 29 = .ok (.iadd, 1) := by decide +kernel
theorem dX5_isSign_30 : decode cX5_isSign 30 = .ok (.putfield 99, 3) := by decide +kernel
theorem dX5_isSign_33 : decode cX5_isSign 33 = .ok (.iconst 1, 1) := by decide +kernel
theorem dX5_isSign_34 : decode cX5_isSign 34 = .ok (.ireturn, 1) := by decide +kernel
theorem dX5_houses_0 : decode cX5_houses 0 = .ok (.aload_n 0, 1) := by decide +kernel
theorem dX5_houses_1 : decode cX5_houses 1 = .ok (.iconst 0, 1) := by decide +kernel
theorem dX5_houses_2 : decode cX5_houses 2 = .ok (.putfield 83, 3) := by decide +kernel
theorem dX5_houses_5 : decode cX5_houses 5 = .ok (.iload_n 1, 1) := by decide +kernel
theorem dX5_houses_6 : decode cX5_houses 6 = .ok (.invokestatic 102, 3) := by decide +kernel
theorem dX5_houses_9 : decode cX5_houses 9 = .ok (.ifCond .ne 5, 3) := by decide +kernel
theorem dX5_houses_12 : decode cX5_houses 12 = .ok (.iconst (-1), 1) := by decide +kernel
theorem dX5_houses_13 : decode cX5_houses 13 = .ok (.ireturn, 1) := by decide +kernel
theorem dX5_houses_14 : decode cX5_houses 14 = .ok (.iload_n 2, 1) := by decide +kernel
theorem dX5_houses_15 : decode cX5_houses 15 = .ok (.invokestatic 106, 3) := by decide +kernel
theorem dX5_houses_18 : decode cX5_houses 18 = .ok (.ifCond .ne 6, 3) := by decide +kernel
theorem dX5_houses_21 : decode cX5_houses 21 = .ok (.bipush (-2), 2) := by decide +kernel
theorem dX5_houses_23 : decode cX5_houses 23 = .ok (.ireturn, 1) := by decide +kernel
theorem dX5_houses_24 : decode cX5_houses 24 = .ok (.aload_n 0, 1) := by decide +kernel
theorem dX5_houses_25 : decode cX5_houses 25 = .ok (.iload_n 1, 1) := by decide +kernel
theorem dX5_houses_26 : decode cX5_houses 26 = .ok (.iload_n 2, 1) := by decide +kernel
theorem dX5_houses_27 : decode cX5_houses 27 = .ok (.iload_n 3, 1) := by decide +kernel
theorem dX5_houses_28 : decode cX5_houses 28 = .ok (.iload 4, 2) := by decide +kernel
theorem dX5_houses_30 : decode cX5_houses 30 = .ok (.invokevirtual 109, 3) := by decide +kernel
theorem dX5_houses_33 : decode cX5_houses 33 = .ok (.istore 5, 2) := by decide +kernel
theorem dX5_houses_35 : decode cX5_houses 35 = .ok (.iload 5, 2) := by decide +kernel
theorem dX5_houses_37 : decode cX5_houses 37 = .ok (.ifCond .eq 10, 3) := by decide +kernel
theorem dX5_houses_40 : decode cX5_houses 40 = .ok (.aload_n 0, 1) := by decide +kernel
theorem dX5_houses_41 : decode cX5_houses 41 = .ok (.iload 5, 2) := by decide +kernel
theorem dX5_houses_43 : decode cX5_houses 43 = .ok (.invokevirtual 113, 3) := by decide +kernel
theorem dX5_houses_46 : decode cX5_houses 46 = .ok (.ireturn, 1) := by decide +kernel
theorem dX5_houses_47 : decode cX5_houses 47 = .ok (.bipush 60, 2) := by decide +kernel
theorem dX5_houses_49 : decode cX5_houses 49 = .ok (.iload_n 1, 1) := by decide +kernel
theorem dX5_houses_50 : decode cX5_houses 50 = .ok (.imul, 1) := by decide +kernel
theorem dX5_houses_51 : decode cX5_houses 51 = .ok (.iload_n 3, 1) := by decide +kernel
theorem dX5_houses_52 : decode cX5_houses 52 = .ok (.iadd, 1) := by decide +kernel
theorem dX5_houses_53 : decode cX5_houses 53 = .ok (.istore 6, 2) := by decide +kernel
theorem dX5_houses_55 : decode cX5_houses 55 = .ok (.aload_n 0, 1) := by decide +kernel
theorem dX5_houses_56 : decode cX5_houses 56 = .ok (.iload 6, 2) := by decide +kernel
theorem dX5_houses_58 : decode cX5_houses 58 = .ok (.putfield 99, 3) := by decide +kernel
theorem dX5_houses_61 : decode cX5_houses 61 = .ok (.aload_n 0, 1) := by decide +kernel
theorem dX5_houses_62 : decode cX5_houses 62 = .ok (.iload 6, 2) := by decide +kernel
theorem dX5_houses_64 : decode cX5_houses 64 = .ok (.iload 4, 2) := by decide +kernel
theorem dX5_houses_66 : decode cX5_houses 66 = .ok (.iadd, 1) := by decide +kernel
theorem dX5_houses_67 : decode cX5_houses 67 = .ok (.invokevirtual 117, 3) := by decide +kernel
theorem dX5_houses_70 : decode cX5_houses 70 = .ok (.ifCond .ne 14, 3) := by decide +kernel
theorem dX5_houses_73 : decode cX5_houses 73 = .ok (.bipush (-100), 2) := by decide +kernel
theorem dX5_houses_75 : decode cX5_houses 75 = .ok (.aload_n 0, 1) := by decide +kernel
theorem dX5_houses_76 : decode cX5_houses 76 = .ok (.getfield 99, 3) := by decide +kernel
theorem dX5_houses_79 : decode cX5_houses 79 = .ok (.iload 6, 2) := by decide +kernel
theorem dX5_houses_81 : decode cX5_houses 81 = .ok (.isub, 1) := by decide +kernel
theorem dX5_houses_82 : decode cX5_houses 82 = .ok (.isub, 1) := by decide +kernel
theorem dX5_houses_83 : decode cX5_houses 83 = .ok (.ireturn, 1) := by decide +kernel
theorem dX5_houses_84 : decode cX5_houses 84 = .ok (.aload_n 0, 1) := by decide +kernel
theorem dX5_houses_85 : decode cX5_houses 85 = .ok (.aload_n 0, 1) := by decide +kernel
theorem dX5_houses_86 : decode cX5_houses 86 = .ok (.getfield 120, 3) := by decide +kernel
theorem dX5_houses_89 : decode cX5_houses 89 = .ok (.putfield 123, 3) := by decide +kernel
theorem dX5_houses_92 : decode cX5_houses 92 = .ok (.aload_n 0, 1) := by decide +kernel
theorem dX5_houses_93 : decode cX5_houses 93 = .ok (.aload_n 0, 1) := by decide +kernel
theorem dX5_houses_94 : decode cX5_houses 94 = .ok (.getfield 126, 3) := by decide +kernel
theorem dX5_houses_97 : decode cX5_houses 97 = .ok (.putfield 93, 3) := by decide +kernel
theorem dX5_houses_100 : decode cX5_houses 100 = .ok (.aload_n 0, 1) := by decide +kernel
theorem dX5_houses_101 : decode cX5_houses 101 = .ok (.aload_n 0, 1) := by decide +kernel
theorem dX5_houses_102 : decode cX5_houses 102 = .ok (.getfield 129, 3) := by decide +kernel
theorem dX5_houses_105 : decode cX5_houses 105 = .ok (.putfield 96, 3) := by decide +kernel
theorem dX5_houses_108 : decode cX5_houses 108 = .ok (.iconst 0, 1) := by decide +kernel
theorem dX5_houses_109 : decode cX5_houses 109 = .ok (.istore 7, 2) := by decide +kernel
theorem dX5_houses_111 : decode cX5_houses 111 = .ok (.iload 7, 2) := by decide +kernel
theorem dX5_houses_113 : decode cX5_houses 113 = .ok (.aload_n 0, 1) := by decide +kernel
theorem dX5_houses_114 : decode cX5_houses 114 = .ok (.getfield 93, 3) := by decide +kernel
theorem dX5_houses_117 : decode cX5_houses 117 = .ok (.if_icmp .ge 43, 3) := by decide +kernel
theorem dX5_houses_120 : decode cX5_houses 120 = .ok (.aload_n 0, 1) := by decide +kernel
theorem dX5_houses_121 : decode cX5_houses 121 = .ok (.getfield 19, 3) := by decide +kernel
theorem dX5_houses_124 : decode cX5_houses 124 = .ok (.iload 7, 2) := by decide +kernel
theorem dX5_houses_126 : decode cX5_houses 126 = .ok (.aload_n 0, 1) := by decide +kernel
theorem dX5_houses_127 : decode cX5_houses 127 = .ok (.getfield 44, 3) := by decide +kernel
theorem dX5_houses_130 : decode cX5_houses 130 = .ok (.iconst 2, 1) := by decide +kernel
theorem dX5_houses_131 : decode cX5_houses 131 = .ok (.iload 7, 2) := by decide +kernel
theorem dX5_houses_133 : decode cX5_houses 133 = .ok (.imul, 1) := by decide +kernel
theorem dX5_houses_134 : decode cX5_houses 134 = .ok (.iaload, 1) := by decide +kernel
theorem dX5_houses_135 : decode cX5_houses 135 = .ok (.iastore, 1) := by decide +kernel
theorem dX5_houses_136 : decode cX5_houses 136 = .ok (.aload_n 0, 1) := by decide +kernel
theorem dX5_houses_137 : decode cX5_houses 137 = .ok (.getfield 22, 3) := by decide +kernel
theorem dX5_houses_140 : decode cX5_houses 140 = .ok (.iload 7, 2) := by decide +kernel
theorem dX5_houses_142 : decode cX5_houses 142 = .ok (.aload_n 0, 1) := by decide +kernel
theorem dX5_houses_143 : decode cX5_houses 143 = .ok (.getfield 44, 3) := by decide +kernel
theorem dX5_houses_146 : decode cX5_houses 146 = .ok (.iconst 2, 1) := by decide +kernel
theorem dX5_houses_147 : decode cX5_houses 147 = .ok (.iload 7, 2) := by decide +kernel
theorem dX5_houses_149 : decode cX5_houses 149 = .ok (.imul, 1) := by decide +kernel
theorem dX5_houses_150 : decode cX5_houses 150 = .ok (.iconst 1, 1) := by decide +kernel
theorem dX5_houses_151 : decode cX5_houses 151 = .ok (.iadd, 1) := by decide +kernel
theorem dX5_houses_152 : decode cX5_houses 152 = .ok (.iaload, 1) := by decide +kernel
theorem dX5_houses_153 : decode cX5_houses 153 = .ok (.iastore, 1) := by decide +kernel
theorem dX5_houses_154 : decode cX5_houses 154 = .ok (.iinc 7 1, 3) := by decide +kernel
theorem dX5_houses_157 : decode cX5_houses 157 = .ok (.goto (-46), 3) := by decide +kernel
theorem dX5_houses_160 : decode cX5_houses 160 = .ok (.iconst 0, 1) := by decide +kernel
theorem dX5_houses_161 : decode cX5_houses 161 = .ok (.istore 7, 2) := by decide +kernel
theorem dX5_houses_163 : decode cX5_houses 163 = .ok (.iload 7, 2) := by decide +kernel
theorem dX5_houses_165 : decode cX5_houses 165 = .ok (.aload_n 0, 1) := by decide +kernel
theorem dX5_houses_166 : decode cX5_houses 166 = .ok (.getfield 96, 3) := by decide +kernel
theorem dX5_houses_169 : decode cX5_houses 169 = .ok (.if_icmp .ge 105, 3) := by decide +kernel
theorem dX5_houses_172 : decode cX5_houses 172 = .ok (.aload_n 0, 1) := by decide +kernel
theorem dX5_houses_173 : decode cX5_houses 173 = .ok (.getfield 25, 3) := by decide +kernel
theorem dX5_houses_176 : decode cX5_houses 176 = .ok (.iload 7, 2) := by decide +kernel
theorem dX5_houses_178 : decode cX5_houses 178 = .ok (.aload_n 0, 1) := by decide +kernel
theorem dX5_houses_179 : decode cX5_houses 179 = .ok (.getfield 47, 3) := by decide +kernel
theorem dX5_houses_182 : decode cX5_houses 182 = .ok (.iconst 5, 1) := by decide +kernel
theorem dX5_houses_183 : decode cX5_houses 183 = .ok (.iload 7, 2) := by decide +kernel
theorem dX5_houses_185 : decode cX5_houses 185 = .ok (.imul, 1) := by decide +kernel
theorem dX5_houses_186 : decode cX5_houses 186 = .ok (.iaload, 1) := by decide +kernel
theorem dX5_houses_187 : decode cX5_houses 187 = .ok (.iastore, 1) := by decide +kernel
theorem dX5_houses_188 : decode cX5_houses 188 = .ok (.aload_n 0, 1) := by decide +kernel
theorem dX5_houses_189 : decode cX5_houses 189 = .ok (.getfield 28, 3) := by decide +kernel
theorem dX5_houses_192 : decode cX5_houses 192 = .ok (.iload 7, 2) := by decide +kernel
theorem dX5_houses_194 : decode cX5_houses 194 = .ok (.aload_n 0, 1) := by decide +kernel
theorem dX5_houses_195 : decode cX5_houses 195 = .ok (.getfield 47, 3) := by decide +kernel
theorem dX5_houses_198 : decode cX5_houses 198 = .ok (.iconst 5, 1) := by decide +kernel
theorem dX5_houses_199 : decode cX5_houses 199 = .ok (.iload 7, 2) := by decide +kernel
theorem dX5_houses_201 : decode cX5_houses 201 = .ok (.imul, 1) := by decide +kernel
theorem dX5_houses_202 : decode cX5_houses 202 = .ok (.iconst 1, 1) := by decide +kernel
theorem dX5_houses_203 : decode cX5_houses 203 = .ok (.iadd, 1) := by decide +kernel
theorem dX5_houses_204 : decode cX5_houses 204 = .ok (.iaload, 1) := by decide +kernel
theorem dX5_houses_205 : decode cX5_houses 205 = .ok (.iastore, 1) := by decide +kernel
theorem dX5_houses_206 : decode cX5_houses 206 = .ok (.aload_n 0, 1) := by decide +kernel
theorem dX5_houses_207 : decode cX5_houses 207 = .ok (.getfield 31, 3) := by decide +kernel
theorem dX5_houses_210 : decode cX5_houses 210 = .ok (.iload 7, 2) := by decide +kernel
theorem dX5_houses_212 : decode cX5_houses 212 = .ok (.aload_n 0, 1) := by decide +kernel
theorem dX5_houses_213 : decode cX5_houses 213 = .ok (.getfield 47, 3) := by decide +kernel
theorem dX5_houses_216 : decode cX5_houses 216 = .ok (.iconst 5, 1) := by decide +kernel
theorem dX5_houses_217 : decode cX5_houses 217 = .ok (.iload 7, 2) := by decide +kernel
theorem dX5_houses_219 : decode cX5_houses 219 = .ok (.imul, 1) := by decide +kernel
theorem dX5_houses_220 : decode cX5_houses 220 = .ok (.iconst 2, 1) := by decide +kernel
theorem dX5_houses_221 : decode cX5_houses 221 = .ok (.iadd, 1) := by decide +kernel
theorem dX5_houses_222 : decode cX5_houses 222 = .ok (.iaload, 1) := by decide +kernel
theorem dX5_houses_223 : decode cX5_houses 223 = .ok (.iastore, 1) := by decide +kernel
theorem dX5_houses_224 : decode cX5_houses 224 = .ok (.aload_n 0, 1) := by decide +kernel
theorem dX5_houses_225 : decode cX5_houses 225 = .ok (.getfield 34, 3) := by decide +kernel
theorem dX5_houses_228 : decode cX5_houses 228 = .ok (.iload 7, 2) := by decide +kernel
theorem dX5_houses_230 : decode cX5_houses 230 = .ok (.aload_n 0, 1) := by decide +kernel
theorem dX5_houses_231 : decode cX5_houses 231 = .ok (.getfield 47, 3) := by decide +kernel
theorem dX5_houses_234 : decode cX5_houses 234 = .ok (.iconst 5, 1) := by decide +kernel
theorem dX5_houses_235 : decode cX5_houses 235 = .ok (.iload 7, 2) := by decide +kernel
theorem dX5_houses_237 : decode cX5_houses 237 = .ok (.imul, 1) := by decide +kernel
theorem dX5_houses_238 : decode cX5_houses 238 = .ok (.iconst 3, 1) := by decide +kernel
theorem dX5_houses_239 : decode cX5_houses 239 = .ok (.iadd, 1) := by decide +kernel
theorem dX5_houses_240 : decode cX5_houses 240 = .ok (.iaload, 1) := by decide +kernel
theorem dX5_houses_241 : decode cX5_houses 241 = .ok (.iastore, 1) := by decide +kernel
theorem dX5_houses_242 : decode cX5_houses 242 = .ok (.aload_n 0, 1) := by decide +kernel
theorem dX5_houses_243 : decode cX5_houses 243 = .ok (.getfield 37, 3) := by decide +kernel
theorem dX5_houses_246 : decode cX5_houses 246 = .ok (.iload 7, 2) := by decide +kernel
theorem dX5_houses_248 : decode cX5_houses 248 = .ok (.aload_n 0, 1) := by decide +kernel
theorem dX5_houses_249 : decode cX5_houses 249 = .ok (.getfield 47, 3) := by decide +kernel
theorem dX5_houses_252 : decode cX5_houses 252 = .ok (.iconst 5, 1) := by decide +kernel
theorem dX5_houses_253 : decode cX5_houses 253 = .ok (.iload 7, 2) := by decide +kernel
theorem dX5_houses_255 : decode cX5_houses 255 = .ok (.imul, 1) := by decide +kernel
theorem dX5_houses_256 : decode cX5_houses 256 = .ok (.iconst 4, 1) := by decide +kernel
theorem dX5_houses_257 : decode cX5_houses 257 = .ok (.iadd, 1) := by decide +kernel
theorem dX5_houses_258 : decode cX5_houses 258 = .ok (.iaload, 1) := by decide +kernel
theorem dX5_houses_259 : decode cX5_houses 259 = .ok (.iastore, 1) := by decide +kernel
theorem dX5_houses_260 : decode cX5_houses 260 = .ok (.aload_n 0, 1) := by decide +kernel
theorem dX5_houses_261 : decode cX5_houses 261 = .ok (.getfield 40, 3) := by decide +kernel
theorem dX5_houses_264 : decode cX5_houses 264 = .ok (.iload 7, 2) := by decide +kernel
theorem dX5_houses_266 : decode cX5_houses 266 = .ok (.iconst 0, 1) := by decide +kernel
theorem dX5_houses_267 : decode cX5_houses 267 = .ok (.bastore, 1) := by decide +kernel
theorem dX5_houses_268 : decode cX5_houses 268 = .ok (.iinc 7 1, 3) := by decide +kernel
theorem dX5_houses_271 : decode cX5_houses 271 = .ok (.goto (-108), 3) := by decide +kernel
theorem dX5_houses_274 : decode cX5_houses 274 = .ok (.aload_n 0, 1) := by decide +kernel
theorem dX5_houses_275 : decode cX5_houses 275 = .ok (.iconst 0, 1) := by decide +kernel
theorem dX5_houses_276 : decode cX5_houses 276 = .ok (.putfield 132, 3) := by decide +kernel
theorem dX5_houses_279 : decode cX5_houses 279 = .ok (.aload_n 0, 1) := by decide +kernel
theorem dX5_houses_280 : decode cX5_houses 280 = .ok (.iconst 0, 1) := by decide +kernel
theorem dX5_houses_281 : decode cX5_houses 281 = .ok (.putfield 135, 3) := by decide +kernel
theorem dX5_houses_284 : decode cX5_houses 284 = .ok (.aload_n 0, 1) := by decide +kernel
theorem dX5_houses_285 : decode cX5_houses 285 = .ok (.getfield 93, 3) := by decide +kernel
theorem dX5_houses_288 : decode cX5_houses 288 = .ok (.ireturn, 1) := by decide +kernel
theorem dX5_readAll_0 : decode cX5_readAll 0 = .ok (.aload_n 0, 1) := by decide +kernel
theorem dX5_readAll_1 : decode cX5_readAll 1 = .ok (.iconst 0, 1) := by decide +kernel
theorem dX5_readAll_2 : decode cX5_readAll 2 = .ok (.putfield 126, 3) := by decide +kernel
theorem dX5_readAll_5 : decode cX5_readAll 5 = .ok (.aload_n 0, 1) := by decide +kernel
theorem dX5_readAll_6 : decode cX5_readAll 6 = .ok (.iconst 0, 1) := by decide +kernel
theorem dX5_readAll_7 : decode cX5_readAll 7 = .ok (.putfield 129, 3) := by decide +kernel
theorem dX5_readAll_10 : decode cX5_readAll 10 = .ok (.aload_n 0, 1) := by decide +kernel
theorem dX5_readAll_11 : decode cX5_readAll 11 = .ok (.iload_n 1, 1) := by decide +kernel
theorem dX5_readAll_12 : decode cX5_readAll 12 = .ok (.bipush 117, 2) := by decide +kernel
theorem dX5_readAll_14 : decode cX5_readAll 14 = .ok (.invokevirtual 138, 3) := by decide +kernel
theorem dX5_readAll_17 : decode cX5_readAll 17 = .ok (.ifCond .eq 29, 3) := by decide +kernel
theorem dX5_readAll_20 : decode cX5_readAll 20 = .ok (.aload_n 0, 1) := by decide +kernel
theorem dX5_readAll_21 : decode cX5_readAll 21 = .ok (.iload_n 1, 1) := by decide +kernel
theorem dX5_readAll_22 : decode cX5_readAll 22 = .ok (.invokevirtual 142, 3) := by decide +kernel
theorem dX5_readAll_25 : decode cX5_readAll 25 = .ok (.ifCond .eq 21, 3) := by decide +kernel
theorem dX5_readAll_28 : decode cX5_readAll 28 = .ok (.aload_n 0, 1) := by decide +kernel
theorem dX5_readAll_29 : decode cX5_readAll 29 = .ok (.iload_n 1, 1) := by decide +kernel
theorem dX5_readAll_30 : decode cX5_readAll 30 = .ok (.bipush 59, 2) := by decide +kernel
theorem dX5_readAll_32 : decode cX5_readAll 32 = .ok (.invokevirtual 138, 3) := by decide +kernel
theorem dX5_readAll_35 : decode cX5_readAll 35 = .ok (.ifCond .eq 11, 3) := by decide +kernel
theorem dX5_readAll_38 : decode cX5_readAll 38 = .ok (.aload_n 0, 1) := by decide +kernel
theorem dX5_readAll_39 : decode cX5_readAll 39 = .ok (.iload_n 1, 1) := by decide +kernel
theorem dX5_readAll_40 : decode cX5_readAll 40 = .ok (.invokevirtual 145, 3) := by decide +kernel
theorem dX5_readAll_43 : decode cX5_readAll 43 = .ok (.ifCond .ne 5, 3) := by decide +kernel
theorem dX5_readAll_46 : decode cX5_readAll 46 = .ok (.iconst 0, 1) := by decide +kernel
theorem dX5_readAll_47 : decode cX5_readAll 47 = .ok (.ireturn, 1) := by decide +kernel
theorem dX5_readAll_48 : decode cX5_readAll 48 = .ok (.aload_n 0, 1) := by decide +kernel
theorem dX5_readAll_49 : decode cX5_readAll 49 = .ok (.getfield 126, 3) := by decide +kernel
theorem dX5_readAll_52 : decode cX5_readAll 52 = .ok (.iconst 4, 1) := by decide +kernel
theorem dX5_readAll_53 : decode cX5_readAll 53 = .ok (.if_icmp .ge 23, 3) := by decide +kernel
theorem dX5_readAll_56 : decode cX5_readAll 56 = .ok (.aload_n 0, 1) := by decide +kernel
theorem dX5_readAll_57 : decode cX5_readAll 57 = .ok (.iload_n 1, 1) := by decide +kernel
theorem dX5_readAll_58 : decode cX5_readAll 58 = .ok (.bipush 59, 2) := by decide +kernel
theorem dX5_readAll_60 : decode cX5_readAll 60 = .ok (.invokevirtual 138, 3) := by decide +kernel
theorem dX5_readAll_63 : decode cX5_readAll 63 = .ok (.ifCond .eq 13, 3) := by decide +kernel
theorem dX5_readAll_66 : decode cX5_readAll 66 = .ok (.aload_n 0, 1) := by decide +kernel
theorem dX5_readAll_67 : decode cX5_readAll 67 = .ok (.iload_n 1, 1) := by decide +kernel
theorem dX5_readAll_68 : decode cX5_readAll 68 = .ok (.invokevirtual 145, 3) := by decide +kernel
theorem dX5_readAll_71 : decode cX5_readAll 71 = .ok (.ifCond .ne (-23), 3) := by decide +kernel
theorem dX5_readAll_74 : decode cX5_readAll 74 = .ok (.iconst 0, 1) := by decide +kernel
theorem dX5_readAll_75 : decode cX5_readAll 75 = .ok (.ireturn, 1) := by decide +kernel
theorem dX5_readAll_76 : decode cX5_readAll 76 = .ok (.aload_n 0, 1) := by decide +kernel
theorem dX5_readAll_77 : decode cX5_readAll 77 = .ok (.iload_n 1, 1) := by decide +kernel
theorem dX5_readAll_78 : decode cX5_readAll 78 = .ok (.bipush 44, 2) := by decide +kernel
theorem dX5_readAll_80 : decode cX5_readAll 80 = .ok (.invokevirtual 138, 3) := by decide +kernel
theorem dX5_readAll_83 : decode cX5_readAll 83 = .ok (.ifCond .eq 11, 3) := by decide +kernel
theorem dX5_readAll_86 : decode cX5_readAll 86 = .ok (.aload_n 0, 1) := by decide +kernel
theorem dX5_readAll_87 : decode cX5_readAll 87 = .ok (.iload_n 1, 1) := by decide +kernel
theorem dX5_readAll_88 : decode cX5_readAll 88 = .ok (.invokevirtual 148, 3) := by decide +kernel
theorem dX5_readAll_91 : decode cX5_readAll 91 = .ok (.ifCond .ne 5, 3) := by decide +kernel
theorem dX5_readAll_94 : decode cX5_readAll 94 = .ok (.iconst 0, 1) := by decide +kernel
theorem dX5_readAll_95 : decode cX5_readAll 95 = .ok (.ireturn, 1) := by decide +kernel
theorem dX5_readAll_96 : decode cX5_readAll 96 = .ok (.aload_n 0, 1) := by decide +kernel
theorem dX5_readAll_97 : decode cX5_readAll 97 = .ok (.getfield 129, 3) := by decide +kernel
theorem dX5_readAll_100 : decode cX5_readAll 100 = .ok (.bipush 6, 2) := by decide +kernel
theorem dX5_readAll_102 : decode cX5_readAll 102 = .ok (.if_icmp .ge 23, 3) := by decide +kernel
theorem dX5_readAll_105 : decode cX5_readAll 105 = .ok (.aload_n 0, 1) := by decide +kernel
theorem dX5_readAll_106 : decode cX5_readAll 106 = .ok (.iload_n 1, 1) := by decide +kernel
theorem dX5_readAll_107 : decode cX5_readAll 107 = .ok (.bipush 44, 2) := by decide +kernel
theorem dX5_readAll_109 : decode cX5_readAll 109 = .ok (.invokevirtual 138, 3) := by decide +kernel
theorem dX5_readAll_112 : decode cX5_readAll 112 = .ok (.ifCond .eq 13, 3) := by decide +kernel
theorem dX5_readAll_115 : decode cX5_readAll 115 = .ok (.aload_n 0, 1) := by decide +kernel
theorem dX5_readAll_116 : decode cX5_readAll 116 = .ok (.iload_n 1, 1) := by decide +kernel
theorem dX5_readAll_117 : decode cX5_readAll 117 = .ok (.invokevirtual 148, 3) := by decide +kernel
theorem dX5_readAll_120 : decode cX5_readAll 120 = .ok (.ifCond .ne (-24), 3) := by decide +kernel
theorem dX5_readAll_123 : decode cX5_readAll 123 = .ok (.iconst 0, 1) := by decide +kernel
theorem dX5_readAll_124 : decode cX5_readAll 124 = .ok (.ireturn, 1) := by decide +kernel
theorem dX5_readAll_125 : decode cX5_readAll 125 = .ok (.aload_n 0, 1) := by decide +kernel
theorem dX5_readAll_126 : decode cX5_readAll 126 = .ok (.getfield 99, 3) := by decide +kernel
theorem dX5_readAll_129 : decode cX5_readAll 129 = .ok (.iload_n 1, 1) := by decide +kernel
theorem dX5_readAll_130 : decode cX5_readAll 130 = .ok (.if_icmp .ne 7, 3) := by decide +kernel
theorem dX5_readAll_133 : decode cX5_readAll 133 = .ok (.iconst 1, 1) := by decide +kernel
theorem dX5_readAll_134 : decode cX5_readAll 134 = .ok (.goto 4, 3) := by decide +kernel
theorem dX5_readAll_137 : decode cX5_readAll 137 = .ok (.iconst 0, 1) := by decide +kernel
theorem dX5_readAll_138 : decode cX5_readAll 138 = .ok (.ireturn, 1) := by decide +kernel
theorem dX5_readTheSeam_0 : decode cX5_readTheSeam 0 = .ok (.aload_n 0, 1) := by decide +kernel
theorem dX5_readTheSeam_1 : decode cX5_readTheSeam 1 = .ok (.iload_n 1, 1) := by decide +kernel
theorem dX5_readTheSeam_2 : decode cX5_readTheSeam 2 = .ok (.iconst 0, 1) := by decide +kernel
theorem dX5_readTheSeam_3 : decode cX5_readTheSeam 3 = .ok (.iconst 1, 1) := by decide +kernel
theorem dX5_readTheSeam_4 : decode cX5_readTheSeam 4 = .ok (.invokevirtual 151, 3) := by decide +kernel
theorem dX5_readTheSeam_7 : decode cX5_readTheSeam 7 = .ok (.istore_n 2, 1) := by decide +kernel
theorem dX5_readTheSeam_8 : decode cX5_readTheSeam 8 = .ok (.iload_n 2, 1) := by decide +kernel
theorem dX5_readTheSeam_9 : decode cX5_readTheSeam 9 = .ok (.bipush (-9), 2) := by decide +kernel
theorem dX5_readTheSeam_11 : decode cX5_readTheSeam 11 = .ok (.if_icmp .ne 5, 3) := by decide +kernel
theorem dX5_readTheSeam_14 : decode cX5_readTheSeam 14 = .ok (.iconst 0, 1) := by decide +kernel
theorem dX5_readTheSeam_15 : decode cX5_readTheSeam 15 = .ok (.ireturn, 1) := by decide +kernel
theorem dX5_readTheSeam_16 : decode cX5_readTheSeam 16 = .ok (.aload_n 0, 1) := by decide +kernel
theorem dX5_readTheSeam_17 : decode cX5_readTheSeam 17 = .ok (.iload_n 1, 1) := by decide +kernel
theorem dX5_readTheSeam_18 : decode cX5_readTheSeam 18 = .ok (.iload_n 2, 1) := by decide +kernel
theorem dX5_readTheSeam_19 : decode cX5_readTheSeam 19 = .ok (.ifCond .ne 7, 3) := by decide +kernel
theorem dX5_readTheSeam_22 : decode cX5_readTheSeam 22 = .ok (.iconst 1, 1) := by decide +kernel
theorem dX5_readTheSeam_23 : decode cX5_readTheSeam 23 = .ok (.goto 4, 3) := by decide +kernel
theorem dX5_readTheSeam_26 : decode cX5_readTheSeam 26 = .ok (.iconst 0, 1) := by decide +kernel
theorem dX5_readTheSeam_27 : decode cX5_readTheSeam 27 = .ok (.iload_n 2, 1) := by decide +kernel
theorem dX5_readTheSeam_28 : decode cX5_readTheSeam 28 = .ok (.ifCond .ne 8, 3) := by decide +kernel
theorem dX5_readTheSeam_31 : decode cX5_readTheSeam 31 = .ok (.bipush 9, 2) := by decide +kernel
theorem dX5_readTheSeam_33 : decode cX5_readTheSeam 33 = .ok (.goto 4, 3) := by decide +kernel
theorem dX5_readTheSeam_36 : decode cX5_readTheSeam 36 = .ok (.iconst 3, 1) := by decide +kernel
theorem dX5_readTheSeam_37 : decode cX5_readTheSeam 37 = .ok (.invokevirtual 151, 3) := by decide +kernel
theorem dX5_readTheSeam_40 : decode cX5_readTheSeam 40 = .ok (.istore_n 3, 1) := by decide +kernel
theorem dX5_readTheSeam_41 : decode cX5_readTheSeam 41 = .ok (.aload_n 0, 1) := by decide +kernel
theorem dX5_readTheSeam_42 : decode cX5_readTheSeam 42 = .ok (.bipush 10, 2) := by decide +kernel
theorem dX5_readTheSeam_44 : decode cX5_readTheSeam 44 = .ok (.iload_n 2, 1) := by decide +kernel
theorem dX5_readTheSeam_45 : decode cX5_readTheSeam 45 = .ok (.imul, 1) := by decide +kernel
theorem dX5_readTheSeam_46 : decode cX5_readTheSeam 46 = .ok (.iload_n 3, 1) := by decide +kernel
theorem dX5_readTheSeam_47 : decode cX5_readTheSeam 47 = .ok (.iadd, 1) := by decide +kernel
theorem dX5_readTheSeam_48 : decode cX5_readTheSeam 48 = .ok (.putfield 120, 3) := by decide +kernel
theorem dX5_readTheSeam_51 : decode cX5_readTheSeam 51 = .ok (.iload_n 3, 1) := by decide +kernel
theorem dX5_readTheSeam_52 : decode cX5_readTheSeam 52 = .ok (.bipush (-9), 2) := by decide +kernel
theorem dX5_readTheSeam_54 : decode cX5_readTheSeam 54 = .ok (.if_icmp .eq 7, 3) := by decide +kernel
theorem dX5_readTheSeam_57 : decode cX5_readTheSeam 57 = .ok (.iconst 1, 1) := by decide +kernel
theorem dX5_readTheSeam_58 : decode cX5_readTheSeam 58 = .ok (.goto 4, 3) := by decide +kernel
theorem dX5_readTheSeam_61 : decode cX5_readTheSeam 61 = .ok (.iconst 0, 1) := by decide +kernel
theorem dX5_readTheSeam_62 : decode cX5_readTheSeam 62 = .ok (.ireturn, 1) := by decide +kernel
theorem dX5_readOneHouse_0 : decode cX5_readOneHouse 0 = .ok (.aload_n 0, 1) := by decide +kernel
theorem dX5_readOneHouse_1 : decode cX5_readOneHouse 1 = .ok (.iload_n 1, 1) := by decide +kernel
theorem dX5_readOneHouse_2 : decode cX5_readOneHouse 2 = .ok (.iconst 0, 1) := by decide +kernel
theorem dX5_readOneHouse_3 : decode cX5_readOneHouse 3 = .ok (.bipush 9, 2) := by decide +kernel
theorem dX5_readOneHouse_5 : decode cX5_readOneHouse 5 = .ok (.invokevirtual 151, 3) := by decide +kernel
theorem dX5_readOneHouse_8 : decode cX5_readOneHouse 8 = .ok (.istore_n 2, 1) := by decide +kernel
theorem dX5_readOneHouse_9 : decode cX5_readOneHouse 9 = .ok (.iload_n 2, 1) := by decide +kernel
theorem dX5_readOneHouse_10 : decode cX5_readOneHouse 10 = .ok (.bipush (-9), 2) := by decide +kernel
theorem dX5_readOneHouse_12 : decode cX5_readOneHouse 12 = .ok (.if_icmp .ne 5, 3) := by decide +kernel
theorem dX5_readOneHouse_15 : decode cX5_readOneHouse 15 = .ok (.iconst 0, 1) := by decide +kernel
theorem dX5_readOneHouse_16 : decode cX5_readOneHouse 16 = .ok (.ireturn, 1) := by decide +kernel
theorem dX5_readOneHouse_17 : decode cX5_readOneHouse 17 = .ok (.aload_n 0, 1) := by decide +kernel
theorem dX5_readOneHouse_18 : decode cX5_readOneHouse 18 = .ok (.iload_n 1, 1) := by decide +kernel
theorem dX5_readOneHouse_19 : decode cX5_readOneHouse 19 = .ok (.iconst 0, 1) := by decide +kernel
theorem dX5_readOneHouse_20 : decode cX5_readOneHouse 20 = .ok (.bipush 9, 2) := by decide +kernel
theorem dX5_readOneHouse_22 : decode cX5_readOneHouse 22 = .ok (.invokevirtual 151, 3) := by decide +kernel
theorem dX5_readOneHouse_25 : decode cX5_readOneHouse 25 = .ok (.istore_n 3, 1) := by decide +kernel
theorem dX5_readOneHouse_26 : decode cX5_readOneHouse 26 = .ok (.iload_n 3, 1) := by decide +kernel
theorem dX5_readOneHouse_27 : decode cX5_readOneHouse 27 = .ok (.bipush (-9), 2) := by decide +kernel
theorem dX5_readOneHouse_29 : decode cX5_readOneHouse 29 = .ok (.if_icmp .ne 5, 3) := by decide +kernel
theorem dX5_readOneHouse_32 : decode cX5_readOneHouse 32 = .ok (.iconst 0, 1) := by decide +kernel
theorem dX5_readOneHouse_33 : decode cX5_readOneHouse 33 = .ok (.ireturn, 1) := by decide +kernel
theorem dX5_readOneHouse_34 : decode cX5_readOneHouse 34 = .ok (.aload_n 0, 1) := by decide +kernel
theorem dX5_readOneHouse_35 : decode cX5_readOneHouse 35 = .ok (.iload_n 1, 1) := by decide +kernel
theorem dX5_readOneHouse_36 : decode cX5_readOneHouse 36 = .ok (.iconst 1, 1) := by decide +kernel
theorem dX5_readOneHouse_37 : decode cX5_readOneHouse 37 = .ok (.bipush 9, 2) := by decide +kernel
theorem dX5_readOneHouse_39 : decode cX5_readOneHouse 39 = .ok (.invokevirtual 151, 3) := by decide +kernel
theorem dX5_readOneHouse_42 : decode cX5_readOneHouse 42 = .ok (.istore 4, 2) := by decide +kernel
theorem dX5_readOneHouse_44 : decode cX5_readOneHouse 44 = .ok (.iload 4, 2) := by decide +kernel
theorem dX5_readOneHouse_46 : decode cX5_readOneHouse 46 = .ok (.bipush (-9), 2) := by decide +kernel
theorem dX5_readOneHouse_48 : decode cX5_readOneHouse 48 = .ok (.if_icmp .ne 5, 3) := by decide +kernel
theorem dX5_readOneHouse_51 : decode cX5_readOneHouse 51 = .ok (.iconst 0, 1) := by decide +kernel
theorem dX5_readOneHouse_52 : decode cX5_readOneHouse 52 = .ok (.ireturn, 1) := by decide +kernel
theorem dX5_readOneHouse_53 : decode cX5_readOneHouse 53 = .ok (.aload_n 0, 1) := by decide +kernel
theorem dX5_readOneHouse_54 : decode cX5_readOneHouse 54 = .ok (.getfield 44, 3) := by decide +kernel
theorem dX5_readOneHouse_57 : decode cX5_readOneHouse 57 = .ok (.iconst 2, 1) := by decide +kernel
theorem dX5_readOneHouse_58 : decode cX5_readOneHouse 58 = .ok (.aload_n 0, 1) := by decide +kernel
theorem dX5_readOneHouse_59 : decode cX5_readOneHouse 59 = .ok (.getfield 126, 3) := by decide +kernel
theorem dX5_readOneHouse_62 : decode cX5_readOneHouse 62 = .ok (.imul, 1) := by decide +kernel
theorem dX5_readOneHouse_63 : decode cX5_readOneHouse 63 = .ok (.bipush 10, 2) := by decide +kernel
theorem dX5_readOneHouse_65 : decode cX5_readOneHouse 65 = .ok (.iload_n 2, 1) := by decide +kernel
theorem dX5_readOneHouse_66 : decode cX5_readOneHouse 66 = .ok (.imul, 1) := by decide +kernel
theorem dX5_readOneHouse_67 : decode cX5_readOneHouse 67 = .ok (.iload_n 3, 1) := by decide +kernel
theorem dX5_readOneHouse_68 : decode cX5_readOneHouse 68 = .ok (.iadd, 1) := by decide +kernel
theorem dX5_readOneHouse_69 : decode cX5_readOneHouse 69 = .ok (.iastore, 1) := by decide +kernel
theorem dX5_readOneHouse_70 : decode cX5_readOneHouse 70 = .ok (.aload_n 0, 1) := by decide +kernel
theorem dX5_readOneHouse_71 : decode cX5_readOneHouse 71 = .ok (.getfield 44, 3) := by decide +kernel
theorem dX5_readOneHouse_74 : decode cX5_readOneHouse 74 = .ok (.iconst 2, 1) := by decide +kernel
theorem dX5_readOneHouse_75 : decode cX5_readOneHouse 75 = .ok (.aload_n 0, 1) := by decide +kernel
theorem dX5_readOneHouse_76 : decode cX5_readOneHouse 76 = .ok (.getfield 126, 3) := by decide +kernel
theorem dX5_readOneHouse_79 : decode cX5_readOneHouse 79 = .ok (.imul, 1) := by decide +kernel
theorem dX5_readOneHouse_80 : decode cX5_readOneHouse 80 = .ok (.iconst 1, 1) := by decide +kernel
theorem dX5_readOneHouse_81 : decode cX5_readOneHouse 81 = .ok (.iadd, 1) := by decide +kernel
theorem dX5_readOneHouse_82 : decode cX5_readOneHouse 82 = .ok (.iload 4, 2) := by decide +kernel
theorem dX5_readOneHouse_84 : decode cX5_readOneHouse 84 = .ok (.iastore, 1) := by decide +kernel
theorem dX5_readOneHouse_85 : decode cX5_readOneHouse 85 = .ok (.aload_n 0, 1) := by decide +kernel
theorem dX5_readOneHouse_86 : decode cX5_readOneHouse 86 = .ok (.dup, 1) := by decide +kernel
theorem dX5_readOneHouse_87 : decode cX5_readOneHouse 87 = .ok (.getfield 126, 3) := by decide +kernel
theorem dX5_readOneHouse_90 : decode cX5_readOneHouse 90 = .ok (.iconst 1, 1) := by decide +kernel
theorem dX5_readOneHouse_91 : decode cX5_readOneHouse 91 = .ok (.iadd, 1) := by decide +kernel
theorem dX5_readOneHouse_92 : decode cX5_readOneHouse 92 = .ok (.putfield 126, 3) := by decide +kernel
theorem dX5_readOneHouse_95 : decode cX5_readOneHouse 95 = .ok (.iconst 1, 1) := by decide +kernel
theorem dX5_readOneHouse_96 : decode cX5_readOneHouse 96 = .ok (.ireturn, 1) := by decide +kernel
theorem dX5_readPerson_0 : decode cX5_readPerson 0 = .ok (.iconst 5, 1) := by decide +kernel
theorem dX5_readPerson_1 : decode cX5_readPerson 1 = .ok (.aload_n 0, 1) := by decide +kernel
theorem dX5_readPerson_2 : decode cX5_readPerson 2 = .ok (.getfield 129, 3) := by decide +kernel
theorem dX5_readPerson_5 : decode cX5_readPerson 5 = .ok (.imul, 1) := by decide +kernel
theorem dX5_readPerson_6 : decode cX5_readPerson 6 = .ok (.istore_n 2, 1) := by decide +kernel
theorem dX5_readPerson_7 : decode cX5_readPerson 7 = .ok (.aload_n 0, 1) := by decide +kernel
theorem dX5_readPerson_8 : decode cX5_readPerson 8 = .ok (.getfield 99, 3) := by decide +kernel
theorem dX5_readPerson_11 : decode cX5_readPerson 11 = .ok (.iload_n 1, 1) := by decide +kernel
theorem dX5_readPerson_12 : decode cX5_readPerson 12 = .ok (.if_icmp .ge 15, 3) := by decide +kernel
theorem dX5_readPerson_15 : decode cX5_readPerson 15 = .ok (.aload_n 0, 1) := by decide +kernel
theorem dX5_readPerson_16 : decode cX5_readPerson 16 = .ok (.getfield 16, 3) := by decide +kernel
theorem dX5_readPerson_19 : decode cX5_readPerson 19 = .ok (.aload_n 0, 1) := by decide +kernel
theorem dX5_readPerson_20 : decode cX5_readPerson 20 = .ok (.getfield 99, 3) := by decide +kernel
theorem dX5_readPerson_23 : decode cX5_readPerson 23 = .ok (.iaload, 1) := by decide +kernel
theorem dX5_readPerson_24 : decode cX5_readPerson 24 = .ok (.goto 4, 3) := by decide +kernel
theorem dX5_readPerson_27 : decode cX5_readPerson 27 = .ok (.iconst 0, 1) := by decide +kernel
theorem dX5_readPerson_28 : decode cX5_readPerson 28 = .ok (.istore_n 3, 1) := by decide +kernel
theorem dX5_readPerson_29 : decode cX5_readPerson 29 = .ok (.aload_n 0, 1) := by decide +kernel
theorem dX5_readPerson_30 : decode cX5_readPerson 30 = .ok (.getfield 47, 3) := by decide +kernel
theorem dX5_readPerson_33 : decode cX5_readPerson 33 = .ok (.iload_n 2, 1) := by decide +kernel
theorem dX5_readPerson_34 : decode cX5_readPerson 34 = .ok (.iload_n 3, 1) := by decide +kernel
theorem dX5_readPerson_35 : decode cX5_readPerson 35 = .ok (.bipush 100, 2) := by decide +kernel
theorem dX5_readPerson_37 : decode cX5_readPerson 37 = .ok (.if_icmp .ne 7, 3) := by decide +kernel
theorem dX5_readPerson_40 : decode cX5_readPerson 40 = .ok (.iconst 0, 1) := by decide +kernel
theorem dX5_readPerson_41 : decode cX5_readPerson 41 = .ok (.goto 25, 3) := by decide +kernel
theorem dX5_readPerson_44 : decode cX5_readPerson 44 = .ok (.iload_n 3, 1) := by decide +kernel
theorem dX5_readPerson_45 : decode cX5_readPerson 45 = .ok (.bipush 104, 2) := by decide +kernel
theorem dX5_readPerson_47 : decode cX5_readPerson 47 = .ok (.if_icmp .ne 7, 3) := by decide +kernel
theorem dX5_readPerson_50 : decode cX5_readPerson 50 = .ok (.iconst 1, 1) := by decide +kernel
theorem dX5_readPerson_51 : decode cX5_readPerson 51 = .ok (.goto 15, 3) := by decide +kernel
theorem dX5_readPerson_54 : decode cX5_readPerson 54 = .ok (.iload_n 3, 1) := by decide +kernel
theorem dX5_readPerson_55 : decode cX5_readPerson 55 = .ok (.bipush 102, 2) := by decide +kernel
theorem dX5_readPerson_57 : decode cX5_readPerson 57 = .ok (.if_icmp .ne 7, 3) := by decide +kernel
theorem dX5_readPerson_60 : decode cX5_readPerson 60 = .ok (.iconst 2, 1) := by decide +kernel
theorem dX5_readPerson_61 : decode cX5_readPerson 61 = .ok (.goto 5, 3) := by decide +kernel
theorem dX5_readPerson_64 : decode cX5_readPerson 64 = .ok (.bipush (-9), 2) := by decide +kernel
theorem dX5_readPerson_66 : decode cX5_readPerson 66 = .ok (.iastore, 1) := by decide +kernel
theorem dX5_readPerson_67 : decode cX5_readPerson 67 = .ok (.aload_n 0, 1) := by decide +kernel
theorem dX5_readPerson_68 : decode cX5_readPerson 68 = .ok (.getfield 47, 3) := by decide +kernel
theorem dX5_readPerson_71 : decode cX5_readPerson 71 = .ok (.iload_n 2, 1) := by decide +kernel
theorem dX5_readPerson_72 : decode cX5_readPerson 72 = .ok (.iaload, 1) := by decide +kernel
theorem dX5_readPerson_73 : decode cX5_readPerson 73 = .ok (.bipush (-9), 2) := by decide +kernel
theorem dX5_readPerson_75 : decode cX5_readPerson 75 = .ok (.if_icmp .ne 5, 3) := by decide +kernel
theorem dX5_readPerson_78 : decode cX5_readPerson 78 = .ok (.iconst 0, 1) := by decide +kernel
theorem dX5_readPerson_79 : decode cX5_readPerson 79 = .ok (.ireturn, 1) := by decide +kernel
theorem dX5_readPerson_80 : decode cX5_readPerson 80 = .ok (.aload_n 0, 1) := by decide +kernel
theorem dX5_readPerson_81 : decode cX5_readPerson 81 = .ok (.dup, 1) := by decide +kernel
theorem dX5_readPerson_82 : decode cX5_readPerson 82 = .ok (.getfield 99, 3) := by decide +kernel
theorem dX5_readPerson_85 : decode cX5_readPerson 85 = .ok (.iconst 1, 1) := by decide +kernel
theorem dX5_readPerson_86 : decode cX5_readPerson 86 = .ok (.iadd, 1) := by decide +kernel
theorem dX5_readPerson_87 : decode cX5_readPerson 87 = .ok (.putfield 99, 3) := by decide +kernel
theorem dX5_readPerson_90 : decode cX5_readPerson 90 = .ok (.iconst 1, 1) := by decide +kernel
theorem dX5_readPerson_91 : decode cX5_readPerson 91 = .ok (.istore 4, 2) := by decide +kernel
theorem dX5_readPerson_93 : decode cX5_readPerson 93 = .ok (.iload 4, 2) := by decide +kernel
theorem dX5_readPerson_95 : decode cX5_readPerson 95 = .ok (.iconst 5, 1) := by decide +kernel
theorem dX5_readPerson_96 : decode cX5_readPerson 96 = .ok (.if_icmp .ge 81, 3) := by decide +kernel
theorem dX5_readPerson_99 : decode cX5_readPerson 99 = .ok (.iload 4, 2) := by decide +kernel
theorem dX5_readPerson_101 : decode cX5_readPerson 101 = .ok (.iconst 1, 1) := by decide +kernel
theorem dX5_readPerson_102 : decode cX5_readPerson 102 = .ok (.if_icmp .ne 7, 3) := by decide +kernel
theorem dX5_readPerson_105 : decode cX5_readPerson 105 = .ok (.iconst 1, 1) := by decide +kernel
theorem dX5_readPerson_106 : decode cX5_readPerson 106 = .ok (.goto 30, 3) := by decide +kernel
theorem dX5_readPerson_109 : decode cX5_readPerson 109 = .ok (.iload 4, 2) := by decide +kernel
theorem dX5_readPerson_111 : decode cX5_readPerson 111 = .ok (.iconst 2, 1) := by decide +kernel
theorem dX5_readPerson_112 : decode cX5_readPerson 112 = .ok (.if_icmp .ne 12, 3) := by decide +kernel
theorem dX5_readPerson_115 : decode cX5_readPerson 115 = .ok (.aload_n 0, 1) := by decide +kernel
theorem dX5_readPerson_116 : decode cX5_readPerson 116 = .ok (.getfield 126, 3) := by decide +kernel
theorem dX5_readPerson_119 : decode cX5_readPerson 119 = .ok (.iconst 1, 1) := by decide +kernel
theorem dX5_readPerson_120 : decode cX5_readPerson 120 = .ok (.isub, 1) := by decide +kernel
theorem dX5_readPerson_121 : decode cX5_readPerson 121 = .ok (.goto 15, 3) := by decide +kernel
theorem dX5_readPerson_124 : decode cX5_readPerson 124 = .ok (.iload 4, 2) := by decide +kernel
theorem dX5_readPerson_126 : decode cX5_readPerson 126 = .ok (.iconst 3, 1) := by decide +kernel
theorem dX5_readPerson_127 : decode cX5_readPerson 127 = .ok (.if_icmp .ne 7, 3) := by decide +kernel
theorem dX5_readPerson_130 : decode cX5_readPerson 130 = .ok (.iconst 5, 1) := by decide +kernel
theorem dX5_readPerson_131 : decode cX5_readPerson 131 = .ok (.goto 5, 3) := by decide +kernel
theorem dX5_readPerson_134 : decode cX5_readPerson 134 = .ok (.bipush 9, 2) := by decide +kernel
theorem dX5_readPerson_136 : decode cX5_readPerson 136 = .ok (.istore 5, 2) := by decide +kernel
theorem dX5_readPerson_138 : decode cX5_readPerson 138 = .ok (.aload_n 0, 1) := by decide +kernel
theorem dX5_readPerson_139 : decode cX5_readPerson 139 = .ok (.getfield 47, 3) := by decide +kernel
theorem dX5_readPerson_142 : decode cX5_readPerson 142 = .ok (.iload_n 2, 1) := by decide +kernel
theorem dX5_readPerson_143 : decode cX5_readPerson 143 = .ok (.iload 4, 2) := by decide +kernel
theorem dX5_readPerson_145 : decode cX5_readPerson 145 = .ok (.iadd, 1) := by decide +kernel
theorem dX5_readPerson_146 : decode cX5_readPerson 146 = .ok (.aload_n 0, 1) := by decide +kernel
theorem dX5_readPerson_147 : decode cX5_readPerson 147 = .ok (.iload_n 1, 1) := by decide +kernel
theorem dX5_readPerson_148 : decode cX5_readPerson 148 = .ok (.iconst 0, 1) := by decide +kernel
theorem dX5_readPerson_149 : decode cX5_readPerson 149 = .ok (.iload 5, 2) := by decide +kernel
theorem dX5_readPerson_151 : decode cX5_readPerson 151 = .ok (.invokevirtual 151, 3) := by decide +kernel
theorem dX5_readPerson_154 : decode cX5_readPerson 154 = .ok (.iastore, 1) := by decide +kernel
theorem dX5_readPerson_155 : decode cX5_readPerson 155 = .ok (.aload_n 0, 1) := by decide +kernel
theorem dX5_readPerson_156 : decode cX5_readPerson 156 = .ok (.getfield 47, 3) := by decide +kernel
theorem dX5_readPerson_159 : decode cX5_readPerson 159 = .ok (.iload_n 2, 1) := by decide +kernel
theorem dX5_readPerson_160 : decode cX5_readPerson 160 = .ok (.iload 4, 2) := by decide +kernel
theorem dX5_readPerson_162 : decode cX5_readPerson 162 = .ok (.iadd, 1) := by decide +kernel
theorem dX5_readPerson_163 : decode cX5_readPerson 163 = .ok (.iaload, 1) := by decide +kernel
theorem dX5_readPerson_164 : decode cX5_readPerson 164 = .ok (.bipush (-9), 2) := by decide +kernel
theorem dX5_readPerson_166 : decode cX5_readPerson 166 = .ok (.if_icmp .ne 5, 3) := by decide +kernel
theorem dX5_readPerson_169 : decode cX5_readPerson 169 = .ok (.iconst 0, 1) := by decide +kernel
theorem dX5_readPerson_170 : decode cX5_readPerson 170 = .ok (.ireturn, 1) := by decide +kernel
theorem dX5_readPerson_171 : decode cX5_readPerson 171 = .ok (.iinc 4 1, 3) := by decide +kernel
theorem dX5_readPerson_174 : decode cX5_readPerson 174 = .ok (.goto (-81), 3) := by decide +kernel
theorem dX5_readPerson_177 : decode cX5_readPerson 177 = .ok (.aload_n 0, 1) := by decide +kernel
theorem dX5_readPerson_178 : decode cX5_readPerson 178 = .ok (.dup, 1) := by decide +kernel
theorem dX5_readPerson_179 : decode cX5_readPerson 179 = .ok (.getfield 129, 3) := by decide +kernel
theorem dX5_readPerson_182 : decode cX5_readPerson 182 = .ok (.iconst 1, 1) := by decide +kernel
theorem dX5_readPerson_183 : decode cX5_readPerson 183 = .ok (.iadd, 1) := by decide +kernel
theorem dX5_readPerson_184 : decode cX5_readPerson 184 = .ok (.putfield 129, 3) := by decide +kernel
theorem dX5_readPerson_187 : decode cX5_readPerson 187 = .ok (.iconst 1, 1) := by decide +kernel
theorem dX5_readPerson_188 : decode cX5_readPerson 188 = .ok (.ireturn, 1) := by decide +kernel
theorem dX5_ofHouse_0 : decode cX5_ofHouse 0 = .ok (.aload_n 0, 1) := by decide +kernel
theorem dX5_ofHouse_1 : decode cX5_ofHouse 1 = .ok (.iload_n 1, 1) := by decide +kernel
theorem dX5_ofHouse_2 : decode cX5_ofHouse 2 = .ok (.invokevirtual 155, 3) := by decide +kernel
theorem dX5_ofHouse_5 : decode cX5_ofHouse 5 = .ok (.ifCond .ne 5, 3) := by decide +kernel
theorem dX5_ofHouse_8 : decode cX5_ofHouse 8 = .ok (.iconst (-1), 1) := by decide +kernel
theorem dX5_ofHouse_9 : decode cX5_ofHouse 9 = .ok (.ireturn, 1) := by decide +kernel
theorem dX5_ofHouse_10 : decode cX5_ofHouse 10 = .ok (.iload_n 2, 1) := by decide +kernel
theorem dX5_ofHouse_11 : decode cX5_ofHouse 11 = .ok (.ifCond .ne 12, 3) := by decide +kernel
theorem dX5_ofHouse_14 : decode cX5_ofHouse 14 = .ok (.aload_n 0, 1) := by decide +kernel
theorem dX5_ofHouse_15 : decode cX5_ofHouse 15 = .ok (.getfield 19, 3) := by decide +kernel
theorem dX5_ofHouse_18 : decode cX5_ofHouse 18 = .ok (.iload_n 1, 1) := by decide +kernel
theorem dX5_ofHouse_19 : decode cX5_ofHouse 19 = .ok (.iaload, 1) := by decide +kernel
theorem dX5_ofHouse_20 : decode cX5_ofHouse 20 = .ok (.goto 19, 3) := by decide +kernel
theorem dX5_ofHouse_23 : decode cX5_ofHouse 23 = .ok (.iload_n 2, 1) := by decide +kernel
theorem dX5_ofHouse_24 : decode cX5_ofHouse 24 = .ok (.iconst 1, 1) := by decide +kernel
theorem dX5_ofHouse_25 : decode cX5_ofHouse 25 = .ok (.if_icmp .ne 12, 3) := by decide +kernel
theorem dX5_ofHouse_28 : decode cX5_ofHouse 28 = .ok (.aload_n 0, 1) := by decide +kernel
theorem dX5_ofHouse_29 : decode cX5_ofHouse 29 = .ok (.getfield 22, 3) := by decide +kernel
theorem dX5_ofHouse_32 : decode cX5_ofHouse 32 = .ok (.iload_n 1, 1) := by decide +kernel
theorem dX5_ofHouse_33 : decode cX5_ofHouse 33 = .ok (.iaload, 1) := by decide +kernel
theorem dX5_ofHouse_34 : decode cX5_ofHouse 34 = .ok (.goto 5, 3) := by decide +kernel
theorem dX5_ofHouse_37 : decode cX5_ofHouse 37 = .ok (.bipush (-2), 2) := by decide +kernel
theorem dX5_ofHouse_39 : decode cX5_ofHouse 39 = .ok (.ireturn, 1) := by decide +kernel
theorem dX5_wants_0 : decode cX5_wants 0 = .ok (.aload_n 0, 1) := by decide +kernel
theorem dX5_wants_1 : decode cX5_wants 1 = .ok (.getfield 25, 3) := by decide +kernel
theorem dX5_wants_4 : decode cX5_wants 4 = .ok (.iload_n 1, 1) := by decide +kernel
theorem dX5_wants_5 : decode cX5_wants 5 = .ok (.iaload, 1) := by decide +kernel
theorem dX5_wants_6 : decode cX5_wants 6 = .ok (.ifCond .ne 12, 3) := by decide +kernel
theorem dX5_wants_9 : decode cX5_wants 9 = .ok (.aload_n 0, 1) := by decide +kernel
theorem dX5_wants_10 : decode cX5_wants 10 = .ok (.getfield 34, 3) := by decide +kernel
theorem dX5_wants_13 : decode cX5_wants 13 = .ok (.iload_n 1, 1) := by decide +kernel
theorem dX5_wants_14 : decode cX5_wants 14 = .ok (.iaload, 1) := by decide +kernel
theorem dX5_wants_15 : decode cX5_wants 15 = .ok (.goto 11, 3) := by decide +kernel
theorem dX5_wants_18 : decode cX5_wants 18 = .ok (.aload_n 0, 1) := by decide +kernel
theorem dX5_wants_19 : decode cX5_wants 19 = .ok (.getfield 34, 3) := by decide +kernel
theorem dX5_wants_22 : decode cX5_wants 22 = .ok (.iload_n 1, 1) := by decide +kernel
theorem dX5_wants_23 : decode cX5_wants 23 = .ok (.iaload, 1) := by decide +kernel
theorem dX5_wants_24 : decode cX5_wants 24 = .ok (.iconst 1, 1) := by decide +kernel
theorem dX5_wants_25 : decode cX5_wants 25 = .ok (.iadd, 1) := by decide +kernel
theorem dX5_wants_26 : decode cX5_wants 26 = .ok (.istore_n 2, 1) := by decide +kernel
theorem dX5_wants_27 : decode cX5_wants 27 = .ok (.aload_n 0, 1) := by decide +kernel
theorem dX5_wants_28 : decode cX5_wants 28 = .ok (.getfield 25, 3) := by decide +kernel
theorem dX5_wants_31 : decode cX5_wants 31 = .ok (.iload_n 1, 1) := by decide +kernel
theorem dX5_wants_32 : decode cX5_wants 32 = .ok (.iaload, 1) := by decide +kernel
theorem dX5_wants_33 : decode cX5_wants 33 = .ok (.iconst 2, 1) := by decide +kernel
theorem dX5_wants_34 : decode cX5_wants 34 = .ok (.if_icmp .ne 9, 3) := by decide +kernel
theorem dX5_wants_37 : decode cX5_wants 37 = .ok (.iconst 2, 1) := by decide +kernel
theorem dX5_wants_38 : decode cX5_wants 38 = .ok (.iload_n 2, 1) := by decide +kernel
theorem dX5_wants_39 : decode cX5_wants 39 = .ok (.imul, 1) := by decide +kernel
theorem dX5_wants_40 : decode cX5_wants 40 = .ok (.goto 4, 3) := by decide +kernel
theorem dX5_wants_43 : decode cX5_wants 43 = .ok (.iload_n 2, 1) := by decide +kernel
theorem dX5_wants_44 : decode cX5_wants 44 = .ok (.ireturn, 1) := by decide +kernel
theorem dX5_ofPerson_0 : decode cX5_ofPerson 0 = .ok (.aload_n 0, 1) := by decide +kernel
theorem dX5_ofPerson_1 : decode cX5_ofPerson 1 = .ok (.iload_n 1, 1) := by decide +kernel
theorem dX5_ofPerson_2 : decode cX5_ofPerson 2 = .ok (.invokevirtual 158, 3) := by decide +kernel
theorem dX5_ofPerson_5 : decode cX5_ofPerson 5 = .ok (.ifCond .ne 5, 3) := by decide +kernel
theorem dX5_ofPerson_8 : decode cX5_ofPerson 8 = .ok (.iconst (-1), 1) := by decide +kernel
theorem dX5_ofPerson_9 : decode cX5_ofPerson 9 = .ok (.ireturn, 1) := by decide +kernel
theorem dX5_ofPerson_10 : decode cX5_ofPerson 10 = .ok (.iload_n 2, 1) := by decide +kernel
theorem dX5_ofPerson_11 : decode cX5_ofPerson 11 = .ok (.tableswitch 97 0 6 #[41, 48, 55, 62, 69, 76, 82], 41) := by decide +kernel
theorem dX5_ofPerson_52 : decode cX5_ofPerson 52 = .ok (.aload_n 0, 1) := by decide +kernel
theorem dX5_ofPerson_53 : decode cX5_ofPerson 53 = .ok (.getfield 25, 3) := by decide +kernel
theorem dX5_ofPerson_56 : decode cX5_ofPerson 56 = .ok (.iload_n 1, 1) := by decide +kernel
theorem dX5_ofPerson_57 : decode cX5_ofPerson 57 = .ok (.iaload, 1) := by decide +kernel
theorem dX5_ofPerson_58 : decode cX5_ofPerson 58 = .ok (.ireturn, 1) := by decide +kernel
theorem dX5_ofPerson_59 : decode cX5_ofPerson 59 = .ok (.aload_n 0, 1) := by decide +kernel
theorem dX5_ofPerson_60 : decode cX5_ofPerson 60 = .ok (.getfield 28, 3) := by decide +kernel
theorem dX5_ofPerson_63 : decode cX5_ofPerson 63 = .ok (.iload_n 1, 1) := by decide +kernel
theorem dX5_ofPerson_64 : decode cX5_ofPerson 64 = .ok (.iaload, 1) := by decide +kernel
theorem dX5_ofPerson_65 : decode cX5_ofPerson 65 = .ok (.ireturn, 1) := by decide +kernel
theorem dX5_ofPerson_66 : decode cX5_ofPerson 66 = .ok (.aload_n 0, 1) := by decide +kernel
theorem dX5_ofPerson_67 : decode cX5_ofPerson 67 = .ok (.getfield 31, 3) := by decide +kernel
theorem dX5_ofPerson_70 : decode cX5_ofPerson 70 = .ok (.iload_n 1, 1) := by decide +kernel
theorem dX5_ofPerson_71 : decode cX5_ofPerson 71 = .ok (.iaload, 1) := by decide +kernel
theorem dX5_ofPerson_72 : decode cX5_ofPerson 72 = .ok (.ireturn, 1) := by decide +kernel
theorem dX5_ofPerson_73 : decode cX5_ofPerson 73 = .ok (.aload_n 0, 1) := by decide +kernel
theorem dX5_ofPerson_74 : decode cX5_ofPerson 74 = .ok (.getfield 34, 3) := by decide +kernel
theorem dX5_ofPerson_77 : decode cX5_ofPerson 77 = .ok (.iload_n 1, 1) := by decide +kernel
theorem dX5_ofPerson_78 : decode cX5_ofPerson 78 = .ok (.iaload, 1) := by decide +kernel
theorem dX5_ofPerson_79 : decode cX5_ofPerson 79 = .ok (.ireturn, 1) := by decide +kernel
theorem dX5_ofPerson_80 : decode cX5_ofPerson 80 = .ok (.aload_n 0, 1) := by decide +kernel
theorem dX5_ofPerson_81 : decode cX5_ofPerson 81 = .ok (.getfield 37, 3) := by decide +kernel
theorem dX5_ofPerson_84 : decode cX5_ofPerson 84 = .ok (.iload_n 1, 1) := by decide +kernel
theorem dX5_ofPerson_85 : decode cX5_ofPerson 85 = .ok (.iaload, 1) := by decide +kernel
theorem dX5_ofPerson_86 : decode cX5_ofPerson 86 = .ok (.ireturn, 1) := by decide +kernel
theorem dX5_ofPerson_87 : decode cX5_ofPerson 87 = .ok (.aload_n 0, 1) := by decide +kernel
theorem dX5_ofPerson_88 : decode cX5_ofPerson 88 = .ok (.iload_n 1, 1) := by decide +kernel
theorem dX5_ofPerson_89 : decode cX5_ofPerson 89 = .ok (.invokevirtual 161, 3) := by decide +kernel
theorem dX5_ofPerson_92 : decode cX5_ofPerson 92 = .ok (.ireturn, 1) := by decide +kernel
theorem dX5_ofPerson_93 : decode cX5_ofPerson 93 = .ok (.aload_n 0, 1) := by decide +kernel
theorem dX5_ofPerson_94 : decode cX5_ofPerson 94 = .ok (.getfield 40, 3) := by decide +kernel
theorem dX5_ofPerson_97 : decode cX5_ofPerson 97 = .ok (.iload_n 1, 1) := by decide +kernel
theorem dX5_ofPerson_98 : decode cX5_ofPerson 98 = .ok (.baload, 1) := by decide +kernel
theorem dX5_ofPerson_99 : decode cX5_ofPerson 99 = .ok (.ifCond .eq 7, 3) := by decide +kernel
theorem dX5_ofPerson_102 : decode cX5_ofPerson 102 = .ok (.iconst 1, 1) := by decide +kernel
theorem dX5_ofPerson_103 : decode cX5_ofPerson 103 = .ok (.goto 4, 3) := by decide +kernel
theorem dX5_ofPerson_106 : decode cX5_ofPerson 106 = .ok (.iconst 0, 1) := by decide +kernel
theorem dX5_ofPerson_107 : decode cX5_ofPerson 107 = .ok (.ireturn, 1) := by decide +kernel
theorem dX5_ofPerson_108 : decode cX5_ofPerson 108 = .ok (.bipush (-2), 2) := by decide +kernel
theorem dX5_ofPerson_110 : decode cX5_ofPerson 110 = .ok (.ireturn, 1) := by decide +kernel
theorem dX5_seam_0 : decode cX5_seam 0 = .ok (.iload_n 1, 1) := by decide +kernel
theorem dX5_seam_1 : decode cX5_seam 1 = .ok (.iconst 1, 1) := by decide +kernel
theorem dX5_seam_2 : decode cX5_seam 2 = .ok (.bipush 13, 2) := by decide +kernel
theorem dX5_seam_4 : decode cX5_seam 4 = .ok (.invokestatic 89, 3) := by decide +kernel
theorem dX5_seam_7 : decode cX5_seam 7 = .ok (.ifCond .ne 6, 3) := by decide +kernel
theorem dX5_seam_10 : decode cX5_seam 10 = .ok (.bipush (-2), 2) := by decide +kernel
theorem dX5_seam_12 : decode cX5_seam 12 = .ok (.ireturn, 1) := by decide +kernel
theorem dX5_seam_13 : decode cX5_seam 13 = .ok (.aload_n 0, 1) := by decide +kernel
theorem dX5_seam_14 : decode cX5_seam 14 = .ok (.getfield 96, 3) := by decide +kernel
theorem dX5_seam_17 : decode cX5_seam 17 = .ok (.ifCond .ne 6, 3) := by decide +kernel
theorem dX5_seam_20 : decode cX5_seam 20 = .ok (.bipush (-3), 2) := by decide +kernel
theorem dX5_seam_22 : decode cX5_seam 22 = .ok (.ireturn, 1) := by decide +kernel
theorem dX5_seam_23 : decode cX5_seam 23 = .ok (.aload_n 0, 1) := by decide +kernel
theorem dX5_seam_24 : decode cX5_seam 24 = .ok (.getfield 123, 3) := by decide +kernel
theorem dX5_seam_27 : decode cX5_seam 27 = .ok (.istore_n 2, 1) := by decide +kernel
theorem dX5_seam_28 : decode cX5_seam 28 = .ok (.aload_n 0, 1) := by decide +kernel
theorem dX5_seam_29 : decode cX5_seam 29 = .ok (.iload_n 1, 1) := by decide +kernel
theorem dX5_seam_30 : decode cX5_seam 30 = .ok (.putfield 123, 3) := by decide +kernel
theorem dX5_seam_33 : decode cX5_seam 33 = .ok (.iload_n 2, 1) := by decide +kernel
theorem dX5_seam_34 : decode cX5_seam 34 = .ok (.ireturn, 1) := by decide +kernel
theorem dX5_away_0 : decode cX5_away 0 = .ok (.aload_n 0, 1) := by decide +kernel
theorem dX5_away_1 : decode cX5_away 1 = .ok (.iload_n 1, 1) := by decide +kernel
theorem dX5_away_2 : decode cX5_away 2 = .ok (.invokevirtual 158, 3) := by decide +kernel
theorem dX5_away_5 : decode cX5_away 5 = .ok (.ifCond .ne 5, 3) := by decide +kernel
theorem dX5_away_8 : decode cX5_away 8 = .ok (.iconst (-1), 1) := by decide +kernel
theorem dX5_away_9 : decode cX5_away 9 = .ok (.ireturn, 1) := by decide +kernel
theorem dX5_away_10 : decode cX5_away 10 = .ok (.aload_n 0, 1) := by decide +kernel
theorem dX5_away_11 : decode cX5_away 11 = .ok (.getfield 40, 3) := by decide +kernel
theorem dX5_away_14 : decode cX5_away 14 = .ok (.iload_n 1, 1) := by decide +kernel
theorem dX5_away_15 : decode cX5_away 15 = .ok (.baload, 1) := by decide +kernel
theorem dX5_away_16 : decode cX5_away 16 = .ok (.istore_n 3, 1) := by decide +kernel
theorem dX5_away_17 : decode cX5_away 17 = .ok (.aload_n 0, 1) := by decide +kernel
theorem dX5_away_18 : decode cX5_away 18 = .ok (.getfield 40, 3) := by decide +kernel
theorem dX5_away_21 : decode cX5_away 21 = .ok (.iload_n 1, 1) := by decide +kernel
theorem dX5_away_22 : decode cX5_away 22 = .ok (.iload_n 2, 1) := by decide +kernel
theorem dX5_away_23 : decode cX5_away 23 = .ok (.bastore, 1) := by decide +kernel
theorem dX5_away_24 : decode cX5_away 24 = .ok (.iload_n 3, 1) := by decide +kernel
theorem dX5_away_25 : decode cX5_away 25 = .ok (.iload_n 2, 1) := by decide +kernel
theorem dX5_away_26 : decode cX5_away 26 = .ok (.if_icmp .ne 7, 3) := by decide +kernel
theorem dX5_away_29 : decode cX5_away 29 = .ok (.iconst 0, 1) := by decide +kernel
theorem dX5_away_30 : decode cX5_away 30 = .ok (.goto 4, 3) := by decide +kernel
theorem dX5_away_33 : decode cX5_away 33 = .ok (.iconst 1, 1) := by decide +kernel
theorem dX5_away_34 : decode cX5_away 34 = .ok (.ireturn, 1) := by decide +kernel
theorem dX5_layGift_0 : decode cX5_layGift 0 = .ok (.aload_n 0, 1) := by decide +kernel
theorem dX5_layGift_1 : decode cX5_layGift 1 = .ok (.getfield 50, 3) := by decide +kernel
theorem dX5_layGift_4 : decode cX5_layGift 4 = .ok (.iload_n 1, 1) := by decide +kernel
theorem dX5_layGift_5 : decode cX5_layGift 5 = .ok (.iload_n 2, 1) := by decide +kernel
theorem dX5_layGift_6 : decode cX5_layGift 6 = .ok (.iastore, 1) := by decide +kernel
theorem dX5_layGift_7 : decode cX5_layGift 7 = .ok (.aload_n 0, 1) := by decide +kernel
theorem dX5_layGift_8 : decode cX5_layGift 8 = .ok (.getfield 53, 3) := by decide +kernel
theorem dX5_layGift_11 : decode cX5_layGift 11 = .ok (.iload_n 1, 1) := by decide +kernel
theorem dX5_layGift_12 : decode cX5_layGift 12 = .ok (.iload_n 3, 1) := by decide +kernel
theorem dX5_layGift_13 : decode cX5_layGift 13 = .ok (.iastore, 1) := by decide +kernel
theorem dX5_layGift_14 : decode cX5_layGift 14 = .ok (.aload_n 0, 1) := by decide +kernel
theorem dX5_layGift_15 : decode cX5_layGift 15 = .ok (.getfield 56, 3) := by decide +kernel
theorem dX5_layGift_18 : decode cX5_layGift 18 = .ok (.iload_n 1, 1) := by decide +kernel
theorem dX5_layGift_19 : decode cX5_layGift 19 = .ok (.iload 4, 2) := by decide +kernel
theorem dX5_layGift_21 : decode cX5_layGift 21 = .ok (.iastore, 1) := by decide +kernel
theorem dX5_layGift_22 : decode cX5_layGift 22 = .ok (.return_, 1) := by decide +kernel
theorem dX5_gift_0 : decode cX5_gift 0 = .ok (.aload_n 0, 1) := by decide +kernel
theorem dX5_gift_1 : decode cX5_gift 1 = .ok (.iload_n 1, 1) := by decide +kernel
theorem dX5_gift_2 : decode cX5_gift 2 = .ok (.invokevirtual 155, 3) := by decide +kernel
theorem dX5_gift_5 : decode cX5_gift 5 = .ok (.ifCond .ne 5, 3) := by decide +kernel
theorem dX5_gift_8 : decode cX5_gift 8 = .ok (.iconst (-1), 1) := by decide +kernel
theorem dX5_gift_9 : decode cX5_gift 9 = .ok (.ireturn, 1) := by decide +kernel
theorem dX5_gift_10 : decode cX5_gift 10 = .ok (.iload_n 2, 1) := by decide +kernel
theorem dX5_gift_11 : decode cX5_gift 11 = .ok (.invokestatic 164, 3) := by decide +kernel
theorem dX5_gift_14 : decode cX5_gift 14 = .ok (.ifCond .eq 13, 3) := by decide +kernel
theorem dX5_gift_17 : decode cX5_gift 17 = .ok (.iload_n 3, 1) := by decide +kernel
theorem dX5_gift_18 : decode cX5_gift 18 = .ok (.iconst 1, 1) := by decide +kernel
theorem dX5_gift_19 : decode cX5_gift 19 = .ok (.bipush 99, 2) := by decide +kernel
theorem dX5_gift_21 : decode cX5_gift 21 = .ok (.invokestatic 89, 3) := by decide +kernel
theorem dX5_gift_24 : decode cX5_gift 24 = .ok (.ifCond .ne 6, 3) := by decide +kernel
theorem dX5_gift_27 : decode cX5_gift 27 = .ok (.bipush (-2), 2) := by decide +kernel
theorem dX5_gift_29 : decode cX5_gift 29 = .ok (.ireturn, 1) := by decide +kernel
theorem dX5_gift_30 : decode cX5_gift 30 = .ok (.aload_n 0, 1) := by decide +kernel
theorem dX5_gift_31 : decode cX5_gift 31 = .ok (.getfield 132, 3) := by decide +kernel
theorem dX5_gift_34 : decode cX5_gift 34 = .ok (.bipush 6, 2) := by decide +kernel
theorem dX5_gift_36 : decode cX5_gift 36 = .ok (.if_icmp .ne 6, 3) := by decide +kernel
theorem dX5_gift_39 : decode cX5_gift 39 = .ok (.bipush (-4), 2) := by decide +kernel
theorem dX5_gift_41 : decode cX5_gift 41 = .ok (.ireturn, 1) := by decide +kernel
theorem dX5_gift_42 : decode cX5_gift 42 = .ok (.aload_n 0, 1) := by decide +kernel
theorem dX5_gift_43 : decode cX5_gift 43 = .ok (.aload_n 0, 1) := by decide +kernel
theorem dX5_gift_44 : decode cX5_gift 44 = .ok (.getfield 132, 3) := by decide +kernel
theorem dX5_gift_47 : decode cX5_gift 47 = .ok (.iload_n 1, 1) := by decide +kernel
theorem dX5_gift_48 : decode cX5_gift 48 = .ok (.iload_n 2, 1) := by decide +kernel
theorem dX5_gift_49 : decode cX5_gift 49 = .ok (.iload_n 3, 1) := by decide +kernel
theorem dX5_gift_50 : decode cX5_gift 50 = .ok (.invokevirtual 167, 3) := by decide +kernel
theorem dX5_gift_53 : decode cX5_gift 53 = .ok (.aload_n 0, 1) := by decide +kernel
theorem dX5_gift_54 : decode cX5_gift 54 = .ok (.dup, 1) := by decide +kernel
theorem dX5_gift_55 : decode cX5_gift 55 = .ok (.getfield 132, 3) := by decide +kernel
theorem dX5_gift_58 : decode cX5_gift 58 = .ok (.iconst 1, 1) := by decide +kernel
theorem dX5_gift_59 : decode cX5_gift 59 = .ok (.iadd, 1) := by decide +kernel
theorem dX5_gift_60 : decode cX5_gift 60 = .ok (.putfield 132, 3) := by decide +kernel
theorem dX5_gift_63 : decode cX5_gift 63 = .ok (.aload_n 0, 1) := by decide +kernel
theorem dX5_gift_64 : decode cX5_gift 64 = .ok (.getfield 132, 3) := by decide +kernel
theorem dX5_gift_67 : decode cX5_gift 67 = .ok (.iconst 1, 1) := by decide +kernel
theorem dX5_gift_68 : decode cX5_gift 68 = .ok (.isub, 1) := by decide +kernel
theorem dX5_gift_69 : decode cX5_gift 69 = .ok (.ireturn, 1) := by decide +kernel
theorem dX5_undo_0 : decode cX5_undo 0 = .ok (.iload_n 1, 1) := by decide +kernel
theorem dX5_undo_1 : decode cX5_undo 1 = .ok (.iconst 0, 1) := by decide +kernel
theorem dX5_undo_2 : decode cX5_undo 2 = .ok (.aload_n 0, 1) := by decide +kernel
theorem dX5_undo_3 : decode cX5_undo 3 = .ok (.getfield 132, 3) := by decide +kernel
theorem dX5_undo_6 : decode cX5_undo 6 = .ok (.invokestatic 89, 3) := by decide +kernel
theorem dX5_undo_9 : decode cX5_undo 9 = .ok (.ifCond .ne 6, 3) := by decide +kernel
theorem dX5_undo_12 : decode cX5_undo 12 = .ok (.bipush (-2), 2) := by decide +kernel
theorem dX5_undo_14 : decode cX5_undo 14 = .ok (.ireturn, 1) := by decide +kernel
theorem dX5_undo_15 : decode cX5_undo 15 = .ok (.aload_n 0, 1) := by decide +kernel
theorem dX5_undo_16 : decode cX5_undo 16 = .ok (.dup, 1) := by decide +kernel
theorem dX5_undo_17 : decode cX5_undo 17 = .ok (.getfield 132, 3) := by decide +kernel
theorem dX5_undo_20 : decode cX5_undo 20 = .ok (.iload_n 1, 1) := by decide +kernel
theorem dX5_undo_21 : decode cX5_undo 21 = .ok (.isub, 1) := by decide +kernel
theorem dX5_undo_22 : decode cX5_undo 22 = .ok (.putfield 132, 3) := by decide +kernel
theorem dX5_undo_25 : decode cX5_undo 25 = .ok (.aload_n 0, 1) := by decide +kernel
theorem dX5_undo_26 : decode cX5_undo 26 = .ok (.getfield 132, 3) := by decide +kernel
theorem dX5_undo_29 : decode cX5_undo 29 = .ok (.ireturn, 1) := by decide +kernel
theorem dX5_isBroken_0 : decode cX5_isBroken 0 = .ok (.aload_n 0, 1) := by decide +kernel
theorem dX5_isBroken_1 : decode cX5_isBroken 1 = .ok (.getfield 62, 3) := by decide +kernel
theorem dX5_isBroken_4 : decode cX5_isBroken 4 = .ok (.iload_n 1, 1) := by decide +kernel
theorem dX5_isBroken_5 : decode cX5_isBroken 5 = .ok (.iaload, 1) := by decide +kernel
theorem dX5_isBroken_6 : decode cX5_isBroken 6 = .ok (.bipush 10, 2) := by decide +kernel
theorem dX5_isBroken_8 : decode cX5_isBroken 8 = .ok (.aload_n 0, 1) := by decide +kernel
theorem dX5_isBroken_9 : decode cX5_isBroken 9 = .ok (.getfield 22, 3) := by decide +kernel
theorem dX5_isBroken_12 : decode cX5_isBroken 12 = .ok (.iload_n 1, 1) := by decide +kernel
theorem dX5_isBroken_13 : decode cX5_isBroken 13 = .ok (.iaload, 1) := by decide +kernel
theorem dX5_isBroken_14 : decode cX5_isBroken 14 = .ok (.imul, 1) := by decide +kernel
theorem dX5_isBroken_15 : decode cX5_isBroken 15 = .ok (.if_icmp .lt 7, 3) := by decide +kernel
theorem dX5_isBroken_18 : decode cX5_isBroken 18 = .ok (.iconst 1, 1) := by decide +kernel
theorem dX5_isBroken_19 : decode cX5_isBroken 19 = .ok (.goto 4, 3) := by decide +kernel
theorem dX5_isBroken_22 : decode cX5_isBroken 22 = .ok (.iconst 0, 1) := by decide +kernel
theorem dX5_isBroken_23 : decode cX5_isBroken 23 = .ok (.ireturn, 1) := by decide +kernel
theorem dX5_townIn_0 : decode cX5_townIn 0 = .ok (.iload_n 1, 1) := by decide +kernel
theorem dX5_townIn_1 : decode cX5_townIn 1 = .ok (.aload_n 0, 1) := by decide +kernel
theorem dX5_townIn_2 : decode cX5_townIn 2 = .ok (.getfield 123, 3) := by decide +kernel
theorem dX5_townIn_5 : decode cX5_townIn 5 = .ok (.if_icmp .ge 7, 3) := by decide +kernel
theorem dX5_townIn_8 : decode cX5_townIn 8 = .ok (.iconst 0, 1) := by decide +kernel
theorem dX5_townIn_9 : decode cX5_townIn 9 = .ok (.goto 4, 3) := by decide +kernel
theorem dX5_townIn_12 : decode cX5_townIn 12 = .ok (.iconst 1, 1) := by decide +kernel
theorem dX5_townIn_13 : decode cX5_townIn 13 = .ok (.ireturn, 1) := by decide +kernel
theorem dX5_beginWeek_0 : decode cX5_beginWeek 0 = .ok (.iconst 0, 1) := by decide +kernel
theorem dX5_beginWeek_1 : decode cX5_beginWeek 1 = .ok (.istore_n 2, 1) := by decide +kernel
theorem dX5_beginWeek_2 : decode cX5_beginWeek 2 = .ok (.iload_n 2, 1) := by decide +kernel
theorem dX5_beginWeek_3 : decode cX5_beginWeek 3 = .ok (.aload_n 0, 1) := by decide +kernel
theorem dX5_beginWeek_4 : decode cX5_beginWeek 4 = .ok (.getfield 93, 3) := by decide +kernel
theorem dX5_beginWeek_7 : decode cX5_beginWeek 7 = .ok (.if_icmp .ge 24, 3) := by decide +kernel
theorem dX5_beginWeek_10 : decode cX5_beginWeek 10 = .ok (.aload_n 0, 1) := by decide +kernel
theorem dX5_beginWeek_11 : decode cX5_beginWeek 11 = .ok (.getfield 59, 3) := by decide +kernel
theorem dX5_beginWeek_14 : decode cX5_beginWeek 14 = .ok (.iload_n 2, 1) := by decide +kernel
theorem dX5_beginWeek_15 : decode cX5_beginWeek 15 = .ok (.dup2, 1) := by decide +kernel
theorem dX5_beginWeek_16 : decode cX5_beginWeek 16 = .ok (.iaload, 1) := by decide +kernel
theorem dX5_beginWeek_17 : decode cX5_beginWeek 17 = .ok (.aload_n 0, 1) := by decide +kernel
theorem dX5_beginWeek_18 : decode cX5_beginWeek 18 = .ok (.getfield 19, 3) := by decide +kernel
theorem dX5_beginWeek_21 : decode cX5_beginWeek 21 = .ok (.iload_n 2, 1) := by decide +kernel
theorem dX5_beginWeek_22 : decode cX5_beginWeek 22 = .ok (.iaload, 1) := by decide +kernel
theorem dX5_beginWeek_23 : decode cX5_beginWeek 23 = .ok (.iadd, 1) := by decide +kernel
theorem dX5_beginWeek_24 : decode cX5_beginWeek 24 = .ok (.iastore, 1) := by decide +kernel
theorem dX5_beginWeek_25 : decode cX5_beginWeek 25 = .ok (.iinc 2 1, 3) := by decide +kernel
theorem dX5_beginWeek_28 : decode cX5_beginWeek 28 = .ok (.goto (-26), 3) := by decide +kernel
theorem dX5_beginWeek_31 : decode cX5_beginWeek 31 = .ok (.iconst 0, 1) := by decide +kernel
theorem dX5_beginWeek_32 : decode cX5_beginWeek 32 = .ok (.istore_n 2, 1) := by decide +kernel
theorem dX5_beginWeek_33 : decode cX5_beginWeek 33 = .ok (.iload_n 2, 1) := by decide +kernel
theorem dX5_beginWeek_34 : decode cX5_beginWeek 34 = .ok (.aload_n 0, 1) := by decide +kernel
theorem dX5_beginWeek_35 : decode cX5_beginWeek 35 = .ok (.getfield 132, 3) := by decide +kernel
theorem dX5_beginWeek_38 : decode cX5_beginWeek 38 = .ok (.if_icmp .ge 43, 3) := by decide +kernel
theorem dX5_beginWeek_41 : decode cX5_beginWeek 41 = .ok (.aload_n 0, 1) := by decide +kernel
theorem dX5_beginWeek_42 : decode cX5_beginWeek 42 = .ok (.getfield 59, 3) := by decide +kernel
theorem dX5_beginWeek_45 : decode cX5_beginWeek 45 = .ok (.aload_n 0, 1) := by decide +kernel
theorem dX5_beginWeek_46 : decode cX5_beginWeek 46 = .ok (.getfield 50, 3) := by decide +kernel
theorem dX5_beginWeek_49 : decode cX5_beginWeek 49 = .ok (.iload_n 2, 1) := by decide +kernel
theorem dX5_beginWeek_50 : decode cX5_beginWeek 50 = .ok (.iaload, 1) := by decide +kernel
theorem dX5_beginWeek_51 : decode cX5_beginWeek 51 = .ok (.dup2, 1) := by decide +kernel
theorem dX5_beginWeek_52 : decode cX5_beginWeek 52 = .ok (.iaload, 1) := by decide +kernel
theorem dX5_beginWeek_53 : decode cX5_beginWeek 53 = .ok (.aload_n 0, 1) := by decide +kernel
theorem dX5_beginWeek_54 : decode cX5_beginWeek 54 = .ok (.getfield 53, 3) := by decide +kernel
theorem dX5_beginWeek_57 : decode cX5_beginWeek 57 = .ok (.iload_n 2, 1) := by decide +kernel
theorem dX5_beginWeek_58 : decode cX5_beginWeek 58 = .ok (.iaload, 1) := by decide +kernel
theorem dX5_beginWeek_59 : decode cX5_beginWeek 59 = .ok (.iload_n 1, 1) := by decide +kernel
theorem dX5_beginWeek_60 : decode cX5_beginWeek 60 = .ok (.if_icmp .ne 12, 3) := by decide +kernel
theorem dX5_beginWeek_63 : decode cX5_beginWeek 63 = .ok (.aload_n 0, 1) := by decide +kernel
theorem dX5_beginWeek_64 : decode cX5_beginWeek 64 = .ok (.getfield 56, 3) := by decide +kernel
theorem dX5_beginWeek_67 : decode cX5_beginWeek 67 = .ok (.iload_n 2, 1) := by decide +kernel
theorem dX5_beginWeek_68 : decode cX5_beginWeek 68 = .ok (.iaload, 1) := by decide +kernel
theorem dX5_beginWeek_69 : decode cX5_beginWeek 69 = .ok (.goto 4, 3) := by decide +kernel
theorem dX5_beginWeek_72 : decode cX5_beginWeek 72 = .ok (.iconst 0, 1) := by decide +kernel
theorem dX5_beginWeek_73 : decode cX5_beginWeek 73 = .ok (.iadd, 1) := by decide +kernel
theorem dX5_beginWeek_74 : decode cX5_beginWeek 74 = .ok (.iastore, 1) := by decide +kernel
theorem dX5_beginWeek_75 : decode cX5_beginWeek 75 = .ok (.iinc 2 1, 3) := by decide +kernel
theorem dX5_beginWeek_78 : decode cX5_beginWeek 78 = .ok (.goto (-45), 3) := by decide +kernel
theorem dX5_beginWeek_81 : decode cX5_beginWeek 81 = .ok (.iconst 0, 1) := by decide +kernel
theorem dX5_beginWeek_82 : decode cX5_beginWeek 82 = .ok (.istore_n 2, 1) := by decide +kernel
theorem dX5_beginWeek_83 : decode cX5_beginWeek 83 = .ok (.iload_n 2, 1) := by decide +kernel
theorem dX5_beginWeek_84 : decode cX5_beginWeek 84 = .ok (.aload_n 0, 1) := by decide +kernel
theorem dX5_beginWeek_85 : decode cX5_beginWeek 85 = .ok (.getfield 93, 3) := by decide +kernel
theorem dX5_beginWeek_88 : decode cX5_beginWeek 88 = .ok (.if_icmp .ge 37, 3) := by decide +kernel
theorem dX5_beginWeek_91 : decode cX5_beginWeek 91 = .ok (.aload_n 0, 1) := by decide +kernel
theorem dX5_beginWeek_92 : decode cX5_beginWeek 92 = .ok (.getfield 59, 3) := by decide +kernel
theorem dX5_beginWeek_95 : decode cX5_beginWeek 95 = .ok (.iload_n 2, 1) := by decide +kernel
theorem dX5_beginWeek_96 : decode cX5_beginWeek 96 = .ok (.aload_n 0, 1) := by decide +kernel
theorem dX5_beginWeek_97 : decode cX5_beginWeek 97 = .ok (.getfield 59, 3) := by decide +kernel
theorem dX5_beginWeek_100 : decode cX5_beginWeek 100 = .ok (.iload_n 2, 1) := by decide +kernel
theorem dX5_beginWeek_101 : decode cX5_beginWeek 101 = .ok (.iaload, 1) := by decide +kernel
theorem dX5_beginWeek_102 : decode cX5_beginWeek 102 = .ok (.bipush 99, 2) := by decide +kernel
theorem dX5_beginWeek_104 : decode cX5_beginWeek 104 = .ok (.if_icmp .le 8, 3) := by decide +kernel
theorem dX5_beginWeek_107 : decode cX5_beginWeek 107 = .ok (.bipush 99, 2) := by decide +kernel
theorem dX5_beginWeek_109 : decode cX5_beginWeek 109 = .ok (.goto 9, 3) := by decide +kernel
theorem dX5_beginWeek_112 : decode cX5_beginWeek 112 = .ok (.aload_n 0, 1) := by decide +kernel
theorem dX5_beginWeek_113 : decode cX5_beginWeek 113 = .ok (.getfield 59, 3) := by decide +kernel
theorem dX5_beginWeek_116 : decode cX5_beginWeek 116 = .ok (.iload_n 2, 1) := by decide +kernel
theorem dX5_beginWeek_117 : decode cX5_beginWeek 117 = .ok (.iaload, 1) := by decide +kernel
theorem dX5_beginWeek_118 : decode cX5_beginWeek 118 = .ok (.iastore, 1) := by decide +kernel
theorem dX5_beginWeek_119 : decode cX5_beginWeek 119 = .ok (.iinc 2 1, 3) := by decide +kernel
theorem dX5_beginWeek_122 : decode cX5_beginWeek 122 = .ok (.goto (-39), 3) := by decide +kernel
theorem dX5_beginWeek_125 : decode cX5_beginWeek 125 = .ok (.return_, 1) := by decide +kernel
theorem dX5_turn_0 : decode cX5_turn 0 = .ok (.aload_n 0, 1) := by decide +kernel
theorem dX5_turn_1 : decode cX5_turn 1 = .ok (.getfield 31, 3) := by decide +kernel
theorem dX5_turn_4 : decode cX5_turn 4 = .ok (.iload_n 1, 1) := by decide +kernel
theorem dX5_turn_5 : decode cX5_turn 5 = .ok (.iaload, 1) := by decide +kernel
theorem dX5_turn_6 : decode cX5_turn 6 = .ok (.istore_n 2, 1) := by decide +kernel
theorem dX5_turn_7 : decode cX5_turn 7 = .ok (.aload_n 0, 1) := by decide +kernel
theorem dX5_turn_8 : decode cX5_turn 8 = .ok (.iload_n 2, 1) := by decide +kernel
theorem dX5_turn_9 : decode cX5_turn 9 = .ok (.invokevirtual 171, 3) := by decide +kernel
theorem dX5_turn_12 : decode cX5_turn 12 = .ok (.istore_n 3, 1) := by decide +kernel
theorem dX5_turn_13 : decode cX5_turn 13 = .ok (.iload_n 3, 1) := by decide +kernel
theorem dX5_turn_14 : decode cX5_turn 14 = .ok (.ifCond .ne 17, 3) := by decide +kernel
theorem dX5_turn_17 : decode cX5_turn 17 = .ok (.aload_n 0, 1) := by decide +kernel
theorem dX5_turn_18 : decode cX5_turn 18 = .ok (.getfield 59, 3) := by decide +kernel
theorem dX5_turn_21 : decode cX5_turn 21 = .ok (.iload_n 2, 1) := by decide +kernel
theorem dX5_turn_22 : decode cX5_turn 22 = .ok (.iaload, 1) := by decide +kernel
theorem dX5_turn_23 : decode cX5_turn 23 = .ok (.aload_n 0, 1) := by decide +kernel
theorem dX5_turn_24 : decode cX5_turn 24 = .ok (.iload_n 1, 1) := by decide +kernel
theorem dX5_turn_25 : decode cX5_turn 25 = .ok (.invokevirtual 161, 3) := by decide +kernel
theorem dX5_turn_28 : decode cX5_turn 28 = .ok (.if_icmp .ge 28, 3) := by decide +kernel
theorem dX5_turn_31 : decode cX5_turn 31 = .ok (.aload_n 0, 1) := by decide +kernel
theorem dX5_turn_32 : decode cX5_turn 32 = .ok (.dup, 1) := by decide +kernel
theorem dX5_turn_33 : decode cX5_turn 33 = .ok (.getfield 174, 3) := by decide +kernel
theorem dX5_turn_36 : decode cX5_turn 36 = .ok (.iconst 1, 1) := by decide +kernel
theorem dX5_turn_37 : decode cX5_turn 37 = .ok (.iload_n 1, 1) := by decide +kernel
theorem dX5_turn_38 : decode cX5_turn 38 = .ok (.ishl, 1) := by decide +kernel
theorem dX5_turn_39 : decode cX5_turn 39 = .ok (.ior, 1) := by decide +kernel
theorem dX5_turn_40 : decode cX5_turn 40 = .ok (.putfield 174, 3) := by decide +kernel
theorem dX5_turn_43 : decode cX5_turn 43 = .ok (.aload_n 0, 1) := by decide +kernel
theorem dX5_turn_44 : decode cX5_turn 44 = .ok (.getfield 65, 3) := by decide +kernel
theorem dX5_turn_47 : decode cX5_turn 47 = .ok (.iload_n 1, 1) := by decide +kernel
theorem dX5_turn_48 : decode cX5_turn 48 = .ok (.dup2, 1) := by decide +kernel
theorem dX5_turn_49 : decode cX5_turn 49 = .ok (.iaload, 1) := by decide +kernel
theorem dX5_turn_50 : decode cX5_turn 50 = .ok (.iconst 1, 1) := by decide +kernel
theorem dX5_turn_51 : decode cX5_turn 51 = .ok (.iadd, 1) := by decide +kernel
theorem dX5_turn_52 : decode cX5_turn 52 = .ok (.iastore, 1) := by decide +kernel
theorem dX5_turn_53 : decode cX5_turn 53 = .ok (.goto 17, 3) := by decide +kernel
theorem dX5_turn_56 : decode cX5_turn 56 = .ok (.aload_n 0, 1) := by decide +kernel
theorem dX5_turn_57 : decode cX5_turn 57 = .ok (.getfield 59, 3) := by decide +kernel
theorem dX5_turn_60 : decode cX5_turn 60 = .ok (.iload_n 2, 1) := by decide +kernel
theorem dX5_turn_61 : decode cX5_turn 61 = .ok (.dup2, 1) := by decide +kernel
theorem dX5_turn_62 : decode cX5_turn 62 = .ok (.iaload, 1) := by decide +kernel
theorem dX5_turn_63 : decode cX5_turn 63 = .ok (.aload_n 0, 1) := by decide +kernel
theorem dX5_turn_64 : decode cX5_turn 64 = .ok (.iload_n 1, 1) := by decide +kernel
theorem dX5_turn_65 : decode cX5_turn 65 = .ok (.invokevirtual 161, 3) := by decide +kernel
theorem dX5_turn_68 : decode cX5_turn 68 = .ok (.isub, 1) := by decide +kernel
theorem dX5_turn_69 : decode cX5_turn 69 = .ok (.iastore, 1) := by decide +kernel
theorem dX5_turn_70 : decode cX5_turn 70 = .ok (.aload_n 0, 1) := by decide +kernel
theorem dX5_turn_71 : decode cX5_turn 71 = .ok (.getfield 62, 3) := by decide +kernel
theorem dX5_turn_74 : decode cX5_turn 74 = .ok (.iload_n 2, 1) := by decide +kernel
theorem dX5_turn_75 : decode cX5_turn 75 = .ok (.dup2, 1) := by decide +kernel
theorem dX5_turn_76 : decode cX5_turn 76 = .ok (.iaload, 1) := by decide +kernel
theorem dX5_turn_77 : decode cX5_turn 77 = .ok (.iload_n 3, 1) := by decide +kernel
theorem dX5_turn_78 : decode cX5_turn 78 = .ok (.ifCond .eq 7, 3) := by decide +kernel
theorem dX5_turn_81 : decode cX5_turn 81 = .ok (.iconst 0, 1) := by decide +kernel
theorem dX5_turn_82 : decode cX5_turn 82 = .ok (.goto 4, 3) := by decide +kernel
theorem dX5_turn_85 : decode cX5_turn 85 = .ok (.iconst 1, 1) := by decide +kernel
theorem dX5_turn_86 : decode cX5_turn 86 = .ok (.iadd, 1) := by decide +kernel
theorem dX5_turn_87 : decode cX5_turn 87 = .ok (.iastore, 1) := by decide +kernel
theorem dX5_turn_88 : decode cX5_turn 88 = .ok (.return_, 1) := by decide +kernel
theorem dX5_mend_0 : decode cX5_mend 0 = .ok (.aload_n 0, 1) := by decide +kernel
theorem dX5_mend_1 : decode cX5_mend 1 = .ok (.getfield 31, 3) := by decide +kernel
theorem dX5_mend_4 : decode cX5_mend 4 = .ok (.iload_n 1, 1) := by decide +kernel
theorem dX5_mend_5 : decode cX5_mend 5 = .ok (.iaload, 1) := by decide +kernel
theorem dX5_mend_6 : decode cX5_mend 6 = .ok (.istore_n 2, 1) := by decide +kernel
theorem dX5_mend_7 : decode cX5_mend 7 = .ok (.aload_n 0, 1) := by decide +kernel
theorem dX5_mend_8 : decode cX5_mend 8 = .ok (.iload_n 2, 1) := by decide +kernel
theorem dX5_mend_9 : decode cX5_mend 9 = .ok (.invokevirtual 171, 3) := by decide +kernel
theorem dX5_mend_12 : decode cX5_mend 12 = .ok (.ifCond .ne 41, 3) := by decide +kernel
theorem dX5_mend_15 : decode cX5_mend 15 = .ok (.aload_n 0, 1) := by decide +kernel
theorem dX5_mend_16 : decode cX5_mend 16 = .ok (.getfield 62, 3) := by decide +kernel
theorem dX5_mend_19 : decode cX5_mend 19 = .ok (.iload_n 2, 1) := by decide +kernel
theorem dX5_mend_20 : decode cX5_mend 20 = .ok (.aload_n 0, 1) := by decide +kernel
theorem dX5_mend_21 : decode cX5_mend 21 = .ok (.getfield 62, 3) := by decide +kernel
theorem dX5_mend_24 : decode cX5_mend 24 = .ok (.iload_n 2, 1) := by decide +kernel
theorem dX5_mend_25 : decode cX5_mend 25 = .ok (.iaload, 1) := by decide +kernel
theorem dX5_mend_26 : decode cX5_mend 26 = .ok (.aload_n 0, 1) := by decide +kernel
theorem dX5_mend_27 : decode cX5_mend 27 = .ok (.getfield 37, 3) := by decide +kernel
theorem dX5_mend_30 : decode cX5_mend 30 = .ok (.iload_n 1, 1) := by decide +kernel
theorem dX5_mend_31 : decode cX5_mend 31 = .ok (.iaload, 1) := by decide +kernel
theorem dX5_mend_32 : decode cX5_mend 32 = .ok (.if_icmp .le 19, 3) := by decide +kernel
theorem dX5_mend_35 : decode cX5_mend 35 = .ok (.aload_n 0, 1) := by decide +kernel
theorem dX5_mend_36 : decode cX5_mend 36 = .ok (.getfield 62, 3) := by decide +kernel
theorem dX5_mend_39 : decode cX5_mend 39 = .ok (.iload_n 2, 1) := by decide +kernel
theorem dX5_mend_40 : decode cX5_mend 40 = .ok (.iaload, 1) := by decide +kernel
theorem dX5_mend_41 : decode cX5_mend 41 = .ok (.aload_n 0, 1) := by decide +kernel
theorem dX5_mend_42 : decode cX5_mend 42 = .ok (.getfield 37, 3) := by decide +kernel
theorem dX5_mend_45 : decode cX5_mend 45 = .ok (.iload_n 1, 1) := by decide +kernel
theorem dX5_mend_46 : decode cX5_mend 46 = .ok (.iaload, 1) := by decide +kernel
theorem dX5_mend_47 : decode cX5_mend 47 = .ok (.isub, 1) := by decide +kernel
theorem dX5_mend_48 : decode cX5_mend 48 = .ok (.goto 4, 3) := by decide +kernel
theorem dX5_mend_51 : decode cX5_mend 51 = .ok (.iconst 0, 1) := by decide +kernel
theorem dX5_mend_52 : decode cX5_mend 52 = .ok (.iastore, 1) := by decide +kernel
theorem dX5_mend_53 : decode cX5_mend 53 = .ok (.return_, 1) := by decide +kernel
theorem dX5_goHalf_0 : decode cX5_goHalf 0 = .ok (.aload_n 0, 1) := by decide +kernel
theorem dX5_goHalf_1 : decode cX5_goHalf 1 = .ok (.iconst 0, 1) := by decide +kernel
theorem dX5_goHalf_2 : decode cX5_goHalf 2 = .ok (.putfield 174, 3) := by decide +kernel
theorem dX5_goHalf_5 : decode cX5_goHalf 5 = .ok (.aload_n 0, 1) := by decide +kernel
theorem dX5_goHalf_6 : decode cX5_goHalf 6 = .ok (.iload_n 2, 1) := by decide +kernel
theorem dX5_goHalf_7 : decode cX5_goHalf 7 = .ok (.invokevirtual 177, 3) := by decide +kernel
theorem dX5_goHalf_10 : decode cX5_goHalf 10 = .ok (.istore_n 3, 1) := by decide +kernel
theorem dX5_goHalf_11 : decode cX5_goHalf 11 = .ok (.iconst 0, 1) := by decide +kernel
theorem dX5_goHalf_12 : decode cX5_goHalf 12 = .ok (.istore 4, 2) := by decide +kernel
theorem dX5_goHalf_14 : decode cX5_goHalf 14 = .ok (.iload 4, 2) := by decide +kernel
theorem dX5_goHalf_16 : decode cX5_goHalf 16 = .ok (.aload_n 0, 1) := by decide +kernel
theorem dX5_goHalf_17 : decode cX5_goHalf 17 = .ok (.getfield 96, 3) := by decide +kernel
theorem dX5_goHalf_20 : decode cX5_goHalf 20 = .ok (.if_icmp .ge 36, 3) := by decide +kernel
theorem dX5_goHalf_23 : decode cX5_goHalf 23 = .ok (.aload_n 0, 1) := by decide +kernel
theorem dX5_goHalf_24 : decode cX5_goHalf 24 = .ok (.getfield 28, 3) := by decide +kernel
theorem dX5_goHalf_27 : decode cX5_goHalf 27 = .ok (.iload 4, 2) := by decide +kernel
theorem dX5_goHalf_29 : decode cX5_goHalf 29 = .ok (.iaload, 1) := by decide +kernel
theorem dX5_goHalf_30 : decode cX5_goHalf 30 = .ok (.iload_n 3, 1) := by decide +kernel
theorem dX5_goHalf_31 : decode cX5_goHalf 31 = .ok (.if_icmp .ne 19, 3) := by decide +kernel
theorem dX5_goHalf_34 : decode cX5_goHalf 34 = .ok (.aload_n 0, 1) := by decide +kernel
theorem dX5_goHalf_35 : decode cX5_goHalf 35 = .ok (.getfield 40, 3) := by decide +kernel
theorem dX5_goHalf_38 : decode cX5_goHalf 38 = .ok (.iload 4, 2) := by decide +kernel
theorem dX5_goHalf_40 : decode cX5_goHalf 40 = .ok (.baload, 1) := by decide +kernel
theorem dX5_goHalf_41 : decode cX5_goHalf 41 = .ok (.ifCond .ne 9, 3) := by decide +kernel
theorem dX5_goHalf_44 : decode cX5_goHalf 44 = .ok (.aload_n 0, 1) := by decide +kernel
theorem dX5_goHalf_45 : decode cX5_goHalf 45 = .ok (.iload 4, 2) := by decide +kernel
theorem dX5_goHalf_47 : decode cX5_goHalf 47 = .ok (.invokevirtual 180, 3) := by decide +kernel
theorem dX5_goHalf_50 : decode cX5_goHalf 50 = .ok (.iinc 4 1, 3) := by decide +kernel
theorem dX5_goHalf_53 : decode cX5_goHalf 53 = .ok (.goto (-39), 3) := by decide +kernel
theorem dX5_goHalf_56 : decode cX5_goHalf 56 = .ok (.iload_n 2, 1) := by decide +kernel
theorem dX5_goHalf_57 : decode cX5_goHalf 57 = .ok (.aload_n 0, 1) := by decide +kernel
theorem dX5_goHalf_58 : decode cX5_goHalf 58 = .ok (.getfield 123, 3) := by decide +kernel
theorem dX5_goHalf_61 : decode cX5_goHalf 61 = .ok (.iconst 1, 1) := by decide +kernel
theorem dX5_goHalf_62 : decode cX5_goHalf 62 = .ok (.isub, 1) := by decide +kernel
theorem dX5_goHalf_63 : decode cX5_goHalf 63 = .ok (.if_icmp .eq 9, 3) := by decide +kernel
theorem dX5_goHalf_66 : decode cX5_goHalf 66 = .ok (.iload_n 2, 1) := by decide +kernel
theorem dX5_goHalf_67 : decode cX5_goHalf 67 = .ok (.bipush 13, 2) := by decide +kernel
theorem dX5_goHalf_69 : decode cX5_goHalf 69 = .ok (.if_icmp .ne 7, 3) := by decide +kernel
theorem dX5_goHalf_72 : decode cX5_goHalf 72 = .ok (.iconst 1, 1) := by decide +kernel
theorem dX5_goHalf_73 : decode cX5_goHalf 73 = .ok (.goto 4, 3) := by decide +kernel
theorem dX5_goHalf_76 : decode cX5_goHalf 76 = .ok (.iconst 0, 1) := by decide +kernel
theorem dX5_goHalf_77 : decode cX5_goHalf 77 = .ok (.istore 4, 2) := by decide +kernel
theorem dX5_goHalf_79 : decode cX5_goHalf 79 = .ok (.iconst 0, 1) := by decide +kernel
theorem dX5_goHalf_80 : decode cX5_goHalf 80 = .ok (.istore 5, 2) := by decide +kernel
theorem dX5_goHalf_82 : decode cX5_goHalf 82 = .ok (.iload 5, 2) := by decide +kernel
theorem dX5_goHalf_84 : decode cX5_goHalf 84 = .ok (.aload_n 0, 1) := by decide +kernel
theorem dX5_goHalf_85 : decode cX5_goHalf 85 = .ok (.getfield 96, 3) := by decide +kernel
theorem dX5_goHalf_88 : decode cX5_goHalf 88 = .ok (.if_icmp .ge 53, 3) := by decide +kernel
theorem dX5_goHalf_91 : decode cX5_goHalf 91 = .ok (.iload 4, 2) := by decide +kernel
theorem dX5_goHalf_93 : decode cX5_goHalf 93 = .ok (.ifCond .eq 48, 3) := by decide +kernel
theorem dX5_goHalf_96 : decode cX5_goHalf 96 = .ok (.aload_n 0, 1) := by decide +kernel
theorem dX5_goHalf_97 : decode cX5_goHalf 97 = .ok (.getfield 28, 3) := by decide +kernel
theorem dX5_goHalf_100 : decode cX5_goHalf 100 = .ok (.iload 5, 2) := by decide +kernel
theorem dX5_goHalf_102 : decode cX5_goHalf 102 = .ok (.iaload, 1) := by decide +kernel
theorem dX5_goHalf_103 : decode cX5_goHalf 103 = .ok (.iload_n 3, 1) := by decide +kernel
theorem dX5_goHalf_104 : decode cX5_goHalf 104 = .ok (.if_icmp .ne 31, 3) := by decide +kernel
theorem dX5_goHalf_107 : decode cX5_goHalf 107 = .ok (.aload_n 0, 1) := by decide +kernel
theorem dX5_goHalf_108 : decode cX5_goHalf 108 = .ok (.getfield 40, 3) := by decide +kernel
theorem dX5_goHalf_111 : decode cX5_goHalf 111 = .ok (.iload 5, 2) := by decide +kernel
theorem dX5_goHalf_113 : decode cX5_goHalf 113 = .ok (.baload, 1) := by decide +kernel
theorem dX5_goHalf_114 : decode cX5_goHalf 114 = .ok (.ifCond .ne 21, 3) := by decide +kernel
theorem dX5_goHalf_117 : decode cX5_goHalf 117 = .ok (.aload_n 0, 1) := by decide +kernel
theorem dX5_goHalf_118 : decode cX5_goHalf 118 = .ok (.getfield 174, 3) := by decide +kernel
theorem dX5_goHalf_121 : decode cX5_goHalf 121 = .ok (.iload 5, 2) := by decide +kernel
theorem dX5_goHalf_123 : decode cX5_goHalf 123 = .ok (.ishr, 1) := by decide +kernel
theorem dX5_goHalf_124 : decode cX5_goHalf 124 = .ok (.iconst 1, 1) := by decide +kernel
theorem dX5_goHalf_125 : decode cX5_goHalf 125 = .ok (.iand, 1) := by decide +kernel
theorem dX5_goHalf_126 : decode cX5_goHalf 126 = .ok (.ifCond .ne 9, 3) := by decide +kernel
theorem dX5_goHalf_129 : decode cX5_goHalf 129 = .ok (.aload_n 0, 1) := by decide +kernel
theorem dX5_goHalf_130 : decode cX5_goHalf 130 = .ok (.iload 5, 2) := by decide +kernel
theorem dX5_goHalf_132 : decode cX5_goHalf 132 = .ok (.invokevirtual 184, 3) := by decide +kernel
theorem dX5_goHalf_135 : decode cX5_goHalf 135 = .ok (.iinc 5 1, 3) := by decide +kernel
theorem dX5_goHalf_138 : decode cX5_goHalf 138 = .ok (.goto (-56), 3) := by decide +kernel
theorem dX5_goHalf_141 : decode cX5_goHalf 141 = .ok (.iconst 0, 1) := by decide +kernel
theorem dX5_goHalf_142 : decode cX5_goHalf 142 = .ok (.istore 5, 2) := by decide +kernel
theorem dX5_goHalf_144 : decode cX5_goHalf 144 = .ok (.iload 5, 2) := by decide +kernel
theorem dX5_goHalf_146 : decode cX5_goHalf 146 = .ok (.aload_n 0, 1) := by decide +kernel
theorem dX5_goHalf_147 : decode cX5_goHalf 147 = .ok (.getfield 93, 3) := by decide +kernel
theorem dX5_goHalf_150 : decode cX5_goHalf 150 = .ok (.if_icmp .ge 53, 3) := by decide +kernel
theorem dX5_goHalf_153 : decode cX5_goHalf 153 = .ok (.aload_n 0, 1) := by decide +kernel
theorem dX5_goHalf_154 : decode cX5_goHalf 154 = .ok (.getfield 68, 3) := by decide +kernel
theorem dX5_goHalf_157 : decode cX5_goHalf 157 = .ok (.iload 5, 2) := by decide +kernel
theorem dX5_goHalf_159 : decode cX5_goHalf 159 = .ok (.aload_n 0, 1) := by decide +kernel
theorem dX5_goHalf_160 : decode cX5_goHalf 160 = .ok (.getfield 68, 3) := by decide +kernel
theorem dX5_goHalf_163 : decode cX5_goHalf 163 = .ok (.iload 5, 2) := by decide +kernel
theorem dX5_goHalf_165 : decode cX5_goHalf 165 = .ok (.iaload, 1) := by decide +kernel
theorem dX5_goHalf_166 : decode cX5_goHalf 166 = .ok (.bipush (-9), 2) := by decide +kernel
theorem dX5_goHalf_168 : decode cX5_goHalf 168 = .ok (.if_icmp .ne 21, 3) := by decide +kernel
theorem dX5_goHalf_171 : decode cX5_goHalf 171 = .ok (.aload_n 0, 1) := by decide +kernel
theorem dX5_goHalf_172 : decode cX5_goHalf 172 = .ok (.iload 5, 2) := by decide +kernel
theorem dX5_goHalf_174 : decode cX5_goHalf 174 = .ok (.invokevirtual 171, 3) := by decide +kernel
theorem dX5_goHalf_177 : decode cX5_goHalf 177 = .ok (.ifCond .eq 12, 3) := by decide +kernel
theorem dX5_goHalf_180 : decode cX5_goHalf 180 = .ok (.bipush 14, 2) := by decide +kernel
theorem dX5_goHalf_182 : decode cX5_goHalf 182 = .ok (.iload_n 1, 1) := by decide +kernel
theorem dX5_goHalf_183 : decode cX5_goHalf 183 = .ok (.imul, 1) := by decide +kernel
theorem dX5_goHalf_184 : decode cX5_goHalf 184 = .ok (.iload_n 2, 1) := by decide +kernel
theorem dX5_goHalf_185 : decode cX5_goHalf 185 = .ok (.iadd, 1) := by decide +kernel
theorem dX5_goHalf_186 : decode cX5_goHalf 186 = .ok (.goto 10, 3) := by decide +kernel
theorem dX5_goHalf_189 : decode cX5_goHalf 189 = .ok (.aload_n 0, 1) := by decide +kernel
theorem dX5_goHalf_190 : decode cX5_goHalf 190 = .ok (.getfield 68, 3) := by decide +kernel
theorem dX5_goHalf_193 : decode cX5_goHalf 193 = .ok (.iload 5, 2) := by decide +kernel
theorem dX5_goHalf_195 : decode cX5_goHalf 195 = .ok (.iaload, 1) := by decide +kernel
theorem dX5_goHalf_196 : decode cX5_goHalf 196 = .ok (.iastore, 1) := by decide +kernel
theorem dX5_goHalf_197 : decode cX5_goHalf 197 = .ok (.iinc 5 1, 3) := by decide +kernel
theorem dX5_goHalf_200 : decode cX5_goHalf 200 = .ok (.goto (-56), 3) := by decide +kernel
theorem dX5_goHalf_203 : decode cX5_goHalf 203 = .ok (.return_, 1) := by decide +kernel
theorem dX5_goTo_0 : decode cX5_goTo 0 = .ok (.iconst 0, 1) := by decide +kernel
theorem dX5_goTo_1 : decode cX5_goTo 1 = .ok (.istore_n 3, 1) := by decide +kernel
theorem dX5_goTo_2 : decode cX5_goTo 2 = .ok (.iload_n 3, 1) := by decide +kernel
theorem dX5_goTo_3 : decode cX5_goTo 3 = .ok (.aload_n 0, 1) := by decide +kernel
theorem dX5_goTo_4 : decode cX5_goTo 4 = .ok (.getfield 93, 3) := by decide +kernel
theorem dX5_goTo_7 : decode cX5_goTo 7 = .ok (.if_icmp .ge 31, 3) := by decide +kernel
theorem dX5_goTo_10 : decode cX5_goTo 10 = .ok (.aload_n 0, 1) := by decide +kernel
theorem dX5_goTo_11 : decode cX5_goTo 11 = .ok (.getfield 59, 3) := by decide +kernel
theorem dX5_goTo_14 : decode cX5_goTo 14 = .ok (.iload_n 3, 1) := by decide +kernel
theorem dX5_goTo_15 : decode cX5_goTo 15 = .ok (.iconst 0, 1) := by decide +kernel
theorem dX5_goTo_16 : decode cX5_goTo 16 = .ok (.iastore, 1) := by decide +kernel
theorem dX5_goTo_17 : decode cX5_goTo 17 = .ok (.aload_n 0, 1) := by decide +kernel
theorem dX5_goTo_18 : decode cX5_goTo 18 = .ok (.getfield 62, 3) := by decide +kernel
theorem dX5_goTo_21 : decode cX5_goTo 21 = .ok (.iload_n 3, 1) := by decide +kernel
theorem dX5_goTo_22 : decode cX5_goTo 22 = .ok (.iconst 0, 1) := by decide +kernel
theorem dX5_goTo_23 : decode cX5_goTo 23 = .ok (.iastore, 1) := by decide +kernel
theorem dX5_goTo_24 : decode cX5_goTo 24 = .ok (.aload_n 0, 1) := by decide +kernel
theorem dX5_goTo_25 : decode cX5_goTo 25 = .ok (.getfield 68, 3) := by decide +kernel
theorem dX5_goTo_28 : decode cX5_goTo 28 = .ok (.iload_n 3, 1) := by decide +kernel
theorem dX5_goTo_29 : decode cX5_goTo 29 = .ok (.bipush (-9), 2) := by decide +kernel
theorem dX5_goTo_31 : decode cX5_goTo 31 = .ok (.iastore, 1) := by decide +kernel
theorem dX5_goTo_32 : decode cX5_goTo 32 = .ok (.iinc 3 1, 3) := by decide +kernel
theorem dX5_goTo_35 : decode cX5_goTo 35 = .ok (.goto (-33), 3) := by decide +kernel
theorem dX5_goTo_38 : decode cX5_goTo 38 = .ok (.iconst 0, 1) := by decide +kernel
theorem dX5_goTo_39 : decode cX5_goTo 39 = .ok (.istore_n 3, 1) := by decide +kernel
theorem dX5_goTo_40 : decode cX5_goTo 40 = .ok (.iload_n 3, 1) := by decide +kernel
theorem dX5_goTo_41 : decode cX5_goTo 41 = .ok (.aload_n 0, 1) := by decide +kernel
theorem dX5_goTo_42 : decode cX5_goTo 42 = .ok (.getfield 96, 3) := by decide +kernel
theorem dX5_goTo_45 : decode cX5_goTo 45 = .ok (.if_icmp .ge 16, 3) := by decide +kernel
theorem dX5_goTo_48 : decode cX5_goTo 48 = .ok (.aload_n 0, 1) := by decide +kernel
theorem dX5_goTo_49 : decode cX5_goTo 49 = .ok (.getfield 65, 3) := by decide +kernel
theorem dX5_goTo_52 : decode cX5_goTo 52 = .ok (.iload_n 3, 1) := by decide +kernel
theorem dX5_goTo_53 : decode cX5_goTo 53 = .ok (.iconst 0, 1) := by decide +kernel
theorem dX5_goTo_54 : decode cX5_goTo 54 = .ok (.iastore, 1) := by decide +kernel
theorem dX5_goTo_55 : decode cX5_goTo 55 = .ok (.iinc 3 1, 3) := by decide +kernel
theorem dX5_goTo_58 : decode cX5_goTo 58 = .ok (.goto (-18), 3) := by decide +kernel
theorem dX5_goTo_61 : decode cX5_goTo 61 = .ok (.aload_n 0, 1) := by decide +kernel
theorem dX5_goTo_62 : decode cX5_goTo 62 = .ok (.iconst 0, 1) := by decide +kernel
theorem dX5_goTo_63 : decode cX5_goTo 63 = .ok (.putfield 174, 3) := by decide +kernel
theorem dX5_goTo_66 : decode cX5_goTo 66 = .ok (.iconst 0, 1) := by decide +kernel
theorem dX5_goTo_67 : decode cX5_goTo 67 = .ok (.istore_n 3, 1) := by decide +kernel
theorem dX5_goTo_68 : decode cX5_goTo 68 = .ok (.iload_n 3, 1) := by decide +kernel
theorem dX5_goTo_69 : decode cX5_goTo 69 = .ok (.iload_n 1, 1) := by decide +kernel
theorem dX5_goTo_70 : decode cX5_goTo 70 = .ok (.if_icmp .gt 48, 3) := by decide +kernel
theorem dX5_goTo_73 : decode cX5_goTo 73 = .ok (.aload_n 0, 1) := by decide +kernel
theorem dX5_goTo_74 : decode cX5_goTo 74 = .ok (.iload_n 3, 1) := by decide +kernel
theorem dX5_goTo_75 : decode cX5_goTo 75 = .ok (.invokevirtual 187, 3) := by decide +kernel
theorem dX5_goTo_78 : decode cX5_goTo 78 = .ok (.iconst 0, 1) := by decide +kernel
theorem dX5_goTo_79 : decode cX5_goTo 79 = .ok (.istore 4, 2) := by decide +kernel
theorem dX5_goTo_81 : decode cX5_goTo 81 = .ok (.iload 4, 2) := by decide +kernel
theorem dX5_goTo_83 : decode cX5_goTo 83 = .ok (.bipush 14, 2) := by decide +kernel
theorem dX5_goTo_85 : decode cX5_goTo 85 = .ok (.if_icmp .ge 27, 3) := by decide +kernel
theorem dX5_goTo_88 : decode cX5_goTo 88 = .ok (.iload_n 3, 1) := by decide +kernel
theorem dX5_goTo_89 : decode cX5_goTo 89 = .ok (.iload_n 1, 1) := by decide +kernel
theorem dX5_goTo_90 : decode cX5_goTo 90 = .ok (.if_icmp .lt 9, 3) := by decide +kernel
theorem dX5_goTo_93 : decode cX5_goTo 93 = .ok (.iload 4, 2) := by decide +kernel
theorem dX5_goTo_95 : decode cX5_goTo 95 = .ok (.iload_n 2, 1) := by decide +kernel
theorem dX5_goTo_96 : decode cX5_goTo 96 = .ok (.if_icmp .gt 16, 3) := by decide +kernel
theorem dX5_goTo_99 : decode cX5_goTo 99 = .ok (.aload_n 0, 1) := by decide +kernel
theorem dX5_goTo_100 : decode cX5_goTo 100 = .ok (.iload_n 3, 1) := by decide +kernel
theorem dX5_goTo_101 : decode cX5_goTo 101 = .ok (.iload 4, 2) := by decide +kernel
theorem dX5_goTo_103 : decode cX5_goTo 103 = .ok (.invokevirtual 190, 3) := by decide +kernel
theorem dX5_goTo_106 : decode cX5_goTo 106 = .ok (.iinc 4 1, 3) := by decide +kernel
theorem dX5_goTo_109 : decode cX5_goTo 109 = .ok (.goto (-28), 3) := by decide +kernel
theorem dX5_goTo_112 : decode cX5_goTo 112 = .ok (.iinc 3 1, 3) := by decide +kernel
theorem dX5_goTo_115 : decode cX5_goTo 115 = .ok (.goto (-47), 3) := by decide +kernel
theorem dX5_goTo_118 : decode cX5_goTo 118 = .ok (.return_, 1) := by decide +kernel
theorem dX5_goWeeks_0 : decode cX5_goWeeks 0 = .ok (.aload_n 0, 1) := by decide +kernel
theorem dX5_goWeeks_1 : decode cX5_goWeeks 1 = .ok (.iload_n 1, 1) := by decide +kernel
theorem dX5_goWeeks_2 : decode cX5_goWeeks 2 = .ok (.bipush 13, 2) := by decide +kernel
theorem dX5_goWeeks_4 : decode cX5_goWeeks 4 = .ok (.invokevirtual 194, 3) := by decide +kernel
theorem dX5_goWeeks_7 : decode cX5_goWeeks 7 = .ok (.return_, 1) := by decide +kernel
theorem dX5_allChills_0 : decode cX5_allChills 0 = .ok (.iconst 0, 1) := by decide +kernel
theorem dX5_allChills_1 : decode cX5_allChills 1 = .ok (.istore_n 1, 1) := by decide +kernel
theorem dX5_allChills_2 : decode cX5_allChills 2 = .ok (.iconst 0, 1) := by decide +kernel
theorem dX5_allChills_3 : decode cX5_allChills 3 = .ok (.istore_n 2, 1) := by decide +kernel
theorem dX5_allChills_4 : decode cX5_allChills 4 = .ok (.iload_n 2, 1) := by decide +kernel
theorem dX5_allChills_5 : decode cX5_allChills 5 = .ok (.aload_n 0, 1) := by decide +kernel
theorem dX5_allChills_6 : decode cX5_allChills 6 = .ok (.getfield 96, 3) := by decide +kernel
theorem dX5_allChills_9 : decode cX5_allChills 9 = .ok (.if_icmp .ge 18, 3) := by decide +kernel
theorem dX5_allChills_12 : decode cX5_allChills 12 = .ok (.iload_n 1, 1) := by decide +kernel
theorem dX5_allChills_13 : decode cX5_allChills 13 = .ok (.aload_n 0, 1) := by decide +kernel
theorem dX5_allChills_14 : decode cX5_allChills 14 = .ok (.getfield 65, 3) := by decide +kernel
theorem dX5_allChills_17 : decode cX5_allChills 17 = .ok (.iload_n 2, 1) := by decide +kernel
theorem dX5_allChills_18 : decode cX5_allChills 18 = .ok (.iaload, 1) := by decide +kernel
theorem dX5_allChills_19 : decode cX5_allChills 19 = .ok (.iadd, 1) := by decide +kernel
theorem dX5_allChills_20 : decode cX5_allChills 20 = .ok (.istore_n 1, 1) := by decide +kernel
theorem dX5_allChills_21 : decode cX5_allChills 21 = .ok (.iinc 2 1, 3) := by decide +kernel
theorem dX5_allChills_24 : decode cX5_allChills 24 = .ok (.goto (-20), 3) := by decide +kernel
theorem dX5_allChills_27 : decode cX5_allChills 27 = .ok (.iload_n 1, 1) := by decide +kernel
theorem dX5_allChills_28 : decode cX5_allChills 28 = .ok (.ireturn, 1) := by decide +kernel
theorem dX5_wood_0 : decode cX5_wood 0 = .ok (.aload_n 0, 1) := by decide +kernel
theorem dX5_wood_1 : decode cX5_wood 1 = .ok (.iload_n 1, 1) := by decide +kernel
theorem dX5_wood_2 : decode cX5_wood 2 = .ok (.invokevirtual 155, 3) := by decide +kernel
theorem dX5_wood_5 : decode cX5_wood 5 = .ok (.ifCond .ne 5, 3) := by decide +kernel
theorem dX5_wood_8 : decode cX5_wood 8 = .ok (.iconst (-1), 1) := by decide +kernel
theorem dX5_wood_9 : decode cX5_wood 9 = .ok (.ireturn, 1) := by decide +kernel
theorem dX5_wood_10 : decode cX5_wood 10 = .ok (.iload_n 2, 1) := by decide +kernel
theorem dX5_wood_11 : decode cX5_wood 11 = .ok (.invokestatic 164, 3) := by decide +kernel
theorem dX5_wood_14 : decode cX5_wood 14 = .ok (.ifCond .eq 10, 3) := by decide +kernel
theorem dX5_wood_17 : decode cX5_wood 17 = .ok (.iload_n 3, 1) := by decide +kernel
theorem dX5_wood_18 : decode cX5_wood 18 = .ok (.invokestatic 197, 3) := by decide +kernel
theorem dX5_wood_21 : decode cX5_wood 21 = .ok (.ifCond .ne 6, 3) := by decide +kernel
theorem dX5_wood_24 : decode cX5_wood 24 = .ok (.bipush (-2), 2) := by decide +kernel
theorem dX5_wood_26 : decode cX5_wood 26 = .ok (.ireturn, 1) := by decide +kernel
theorem dX5_wood_27 : decode cX5_wood 27 = .ok (.aload_n 0, 1) := by decide +kernel
theorem dX5_wood_28 : decode cX5_wood 28 = .ok (.iload_n 2, 1) := by decide +kernel
theorem dX5_wood_29 : decode cX5_wood 29 = .ok (.iload_n 3, 1) := by decide +kernel
theorem dX5_wood_30 : decode cX5_wood 30 = .ok (.invokevirtual 194, 3) := by decide +kernel
theorem dX5_wood_33 : decode cX5_wood 33 = .ok (.aload_n 0, 1) := by decide +kernel
theorem dX5_wood_34 : decode cX5_wood 34 = .ok (.getfield 59, 3) := by decide +kernel
theorem dX5_wood_37 : decode cX5_wood 37 = .ok (.iload_n 1, 1) := by decide +kernel
theorem dX5_wood_38 : decode cX5_wood 38 = .ok (.iaload, 1) := by decide +kernel
theorem dX5_wood_39 : decode cX5_wood 39 = .ok (.ireturn, 1) := by decide +kernel
theorem dX5_wear_0 : decode cX5_wear 0 = .ok (.aload_n 0, 1) := by decide +kernel
theorem dX5_wear_1 : decode cX5_wear 1 = .ok (.iload_n 1, 1) := by decide +kernel
theorem dX5_wear_2 : decode cX5_wear 2 = .ok (.invokevirtual 155, 3) := by decide +kernel
theorem dX5_wear_5 : decode cX5_wear 5 = .ok (.ifCond .ne 5, 3) := by decide +kernel
theorem dX5_wear_8 : decode cX5_wear 8 = .ok (.iconst (-1), 1) := by decide +kernel
theorem dX5_wear_9 : decode cX5_wear 9 = .ok (.ireturn, 1) := by decide +kernel
theorem dX5_wear_10 : decode cX5_wear 10 = .ok (.iload_n 2, 1) := by decide +kernel
theorem dX5_wear_11 : decode cX5_wear 11 = .ok (.invokestatic 164, 3) := by decide +kernel
theorem dX5_wear_14 : decode cX5_wear 14 = .ok (.ifCond .eq 10, 3) := by decide +kernel
theorem dX5_wear_17 : decode cX5_wear 17 = .ok (.iload_n 3, 1) := by decide +kernel
theorem dX5_wear_18 : decode cX5_wear 18 = .ok (.invokestatic 197, 3) := by decide +kernel
theorem dX5_wear_21 : decode cX5_wear 21 = .ok (.ifCond .ne 6, 3) := by decide +kernel
theorem dX5_wear_24 : decode cX5_wear 24 = .ok (.bipush (-2), 2) := by decide +kernel
theorem dX5_wear_26 : decode cX5_wear 26 = .ok (.ireturn, 1) := by decide +kernel
theorem dX5_wear_27 : decode cX5_wear 27 = .ok (.aload_n 0, 1) := by decide +kernel
theorem dX5_wear_28 : decode cX5_wear 28 = .ok (.iload_n 2, 1) := by decide +kernel
theorem dX5_wear_29 : decode cX5_wear 29 = .ok (.iload_n 3, 1) := by decide +kernel
theorem dX5_wear_30 : decode cX5_wear 30 = .ok (.invokevirtual 194, 3) := by decide +kernel
theorem dX5_wear_33 : decode cX5_wear 33 = .ok (.aload_n 0, 1) := by decide +kernel
theorem dX5_wear_34 : decode cX5_wear 34 = .ok (.getfield 62, 3) := by decide +kernel
theorem dX5_wear_37 : decode cX5_wear 37 = .ok (.iload_n 1, 1) := by decide +kernel
theorem dX5_wear_38 : decode cX5_wear 38 = .ok (.iaload, 1) := by decide +kernel
theorem dX5_wear_39 : decode cX5_wear 39 = .ok (.ireturn, 1) := by decide +kernel
theorem dX5_cold_0 : decode cX5_cold 0 = .ok (.iload_n 1, 1) := by decide +kernel
theorem dX5_cold_1 : decode cX5_cold 1 = .ok (.invokestatic 164, 3) := by decide +kernel
theorem dX5_cold_4 : decode cX5_cold 4 = .ok (.ifCond .eq 10, 3) := by decide +kernel
theorem dX5_cold_7 : decode cX5_cold 7 = .ok (.iload_n 2, 1) := by decide +kernel
theorem dX5_cold_8 : decode cX5_cold 8 = .ok (.invokestatic 197, 3) := by decide +kernel
theorem dX5_cold_11 : decode cX5_cold 11 = .ok (.ifCond .ne 6, 3) := by decide +kernel
theorem dX5_cold_14 : decode cX5_cold 14 = .ok (.bipush (-2), 2) := by decide +kernel
theorem dX5_cold_16 : decode cX5_cold 16 = .ok (.ireturn, 1) := by decide +kernel
theorem dX5_cold_17 : decode cX5_cold 17 = .ok (.aload_n 0, 1) := by decide +kernel
theorem dX5_cold_18 : decode cX5_cold 18 = .ok (.getfield 96, 3) := by decide +kernel
theorem dX5_cold_21 : decode cX5_cold 21 = .ok (.ifCond .ne 6, 3) := by decide +kernel
theorem dX5_cold_24 : decode cX5_cold 24 = .ok (.bipush (-3), 2) := by decide +kernel
theorem dX5_cold_26 : decode cX5_cold 26 = .ok (.ireturn, 1) := by decide +kernel
theorem dX5_cold_27 : decode cX5_cold 27 = .ok (.aload_n 0, 1) := by decide +kernel
theorem dX5_cold_28 : decode cX5_cold 28 = .ok (.iload_n 1, 1) := by decide +kernel
theorem dX5_cold_29 : decode cX5_cold 29 = .ok (.iload_n 2, 1) := by decide +kernel
theorem dX5_cold_30 : decode cX5_cold 30 = .ok (.invokevirtual 194, 3) := by decide +kernel
theorem dX5_cold_33 : decode cX5_cold 33 = .ok (.aload_n 0, 1) := by decide +kernel
theorem dX5_cold_34 : decode cX5_cold 34 = .ok (.getfield 174, 3) := by decide +kernel
theorem dX5_cold_37 : decode cX5_cold 37 = .ok (.ireturn, 1) := by decide +kernel
theorem dX5_chills_0 : decode cX5_chills 0 = .ok (.aload_n 0, 1) := by decide +kernel
theorem dX5_chills_1 : decode cX5_chills 1 = .ok (.iload_n 1, 1) := by decide +kernel
theorem dX5_chills_2 : decode cX5_chills 2 = .ok (.invokevirtual 158, 3) := by decide +kernel
theorem dX5_chills_5 : decode cX5_chills 5 = .ok (.ifCond .ne 5, 3) := by decide +kernel
theorem dX5_chills_8 : decode cX5_chills 8 = .ok (.iconst (-1), 1) := by decide +kernel
theorem dX5_chills_9 : decode cX5_chills 9 = .ok (.ireturn, 1) := by decide +kernel
theorem dX5_chills_10 : decode cX5_chills 10 = .ok (.iload_n 2, 1) := by decide +kernel
theorem dX5_chills_11 : decode cX5_chills 11 = .ok (.invokestatic 164, 3) := by decide +kernel
theorem dX5_chills_14 : decode cX5_chills 14 = .ok (.ifCond .ne 6, 3) := by decide +kernel
theorem dX5_chills_17 : decode cX5_chills 17 = .ok (.bipush (-2), 2) := by decide +kernel
theorem dX5_chills_19 : decode cX5_chills 19 = .ok (.ireturn, 1) := by decide +kernel
theorem dX5_chills_20 : decode cX5_chills 20 = .ok (.aload_n 0, 1) := by decide +kernel
theorem dX5_chills_21 : decode cX5_chills 21 = .ok (.iload_n 2, 1) := by decide +kernel
theorem dX5_chills_22 : decode cX5_chills 22 = .ok (.invokevirtual 200, 3) := by decide +kernel
theorem dX5_chills_25 : decode cX5_chills 25 = .ok (.aload_n 0, 1) := by decide +kernel
theorem dX5_chills_26 : decode cX5_chills 26 = .ok (.getfield 65, 3) := by decide +kernel
theorem dX5_chills_29 : decode cX5_chills 29 = .ok (.iload_n 1, 1) := by decide +kernel
theorem dX5_chills_30 : decode cX5_chills 30 = .ok (.iaload, 1) := by decide +kernel
theorem dX5_chills_31 : decode cX5_chills 31 = .ok (.ireturn, 1) := by decide +kernel
theorem dX5_allNow_0 : decode cX5_allNow 0 = .ok (.aload_n 0, 1) := by decide +kernel
theorem dX5_allNow_1 : decode cX5_allNow 1 = .ok (.bipush 9, 2) := by decide +kernel
theorem dX5_allNow_3 : decode cX5_allNow 3 = .ok (.invokevirtual 200, 3) := by decide +kernel
theorem dX5_allNow_6 : decode cX5_allNow 6 = .ok (.aload_n 0, 1) := by decide +kernel
theorem dX5_allNow_7 : decode cX5_allNow 7 = .ok (.invokevirtual 203, 3) := by decide +kernel
theorem dX5_allNow_10 : decode cX5_allNow 10 = .ok (.ireturn, 1) := by decide +kernel
theorem dX5_all_0 : decode cX5_all 0 = .ok (.aload_n 0, 1) := by decide +kernel
theorem dX5_all_1 : decode cX5_all 1 = .ok (.getfield 96, 3) := by decide +kernel
theorem dX5_all_4 : decode cX5_all 4 = .ok (.ifCond .ne 8, 3) := by decide +kernel
theorem dX5_all_7 : decode cX5_all 7 = .ok (.bipush (-3), 2) := by decide +kernel
theorem dX5_all_9 : decode cX5_all 9 = .ok (.goto 7, 3) := by decide +kernel
theorem dX5_all_12 : decode cX5_all 12 = .ok (.aload_n 0, 1) := by decide +kernel
theorem dX5_all_13 : decode cX5_all 13 = .ok (.invokevirtual 207, 3) := by decide +kernel
theorem dX5_all_16 : decode cX5_all 16 = .ok (.ireturn, 1) := by decide +kernel
theorem dX5_breaks_0 : decode cX5_breaks 0 = .ok (.aload_n 0, 1) := by decide +kernel
theorem dX5_breaks_1 : decode cX5_breaks 1 = .ok (.iload_n 1, 1) := by decide +kernel
theorem dX5_breaks_2 : decode cX5_breaks 2 = .ok (.invokevirtual 155, 3) := by decide +kernel
theorem dX5_breaks_5 : decode cX5_breaks 5 = .ok (.ifCond .ne 5, 3) := by decide +kernel
theorem dX5_breaks_8 : decode cX5_breaks 8 = .ok (.iconst (-1), 1) := by decide +kernel
theorem dX5_breaks_9 : decode cX5_breaks 9 = .ok (.ireturn, 1) := by decide +kernel
theorem dX5_breaks_10 : decode cX5_breaks 10 = .ok (.aload_n 0, 1) := by decide +kernel
theorem dX5_breaks_11 : decode cX5_breaks 11 = .ok (.bipush 9, 2) := by decide +kernel
theorem dX5_breaks_13 : decode cX5_breaks 13 = .ok (.invokevirtual 200, 3) := by decide +kernel
theorem dX5_breaks_16 : decode cX5_breaks 16 = .ok (.aload_n 0, 1) := by decide +kernel
theorem dX5_breaks_17 : decode cX5_breaks 17 = .ok (.getfield 68, 3) := by decide +kernel
theorem dX5_breaks_20 : decode cX5_breaks 20 = .ok (.iload_n 1, 1) := by decide +kernel
theorem dX5_breaks_21 : decode cX5_breaks 21 = .ok (.iaload, 1) := by decide +kernel
theorem dX5_breaks_22 : decode cX5_breaks 22 = .ok (.ireturn, 1) := by decide +kernel
theorem dX5_best_0 : decode cX5_best 0 = .ok (.iload_n 1, 1) := by decide +kernel
theorem dX5_best_1 : decode cX5_best 1 = .ok (.iconst 0, 1) := by decide +kernel
theorem dX5_best_2 : decode cX5_best 2 = .ok (.iconst 1, 1) := by decide +kernel
theorem dX5_best_3 : decode cX5_best 3 = .ok (.invokestatic 89, 3) := by decide +kernel
theorem dX5_best_6 : decode cX5_best 6 = .ok (.ifCond .ne 6, 3) := by decide +kernel
theorem dX5_best_9 : decode cX5_best 9 = .ok (.bipush (-2), 2) := by decide +kernel
theorem dX5_best_11 : decode cX5_best 11 = .ok (.ireturn, 1) := by decide +kernel
theorem dX5_best_12 : decode cX5_best 12 = .ok (.aload_n 0, 1) := by decide +kernel
theorem dX5_best_13 : decode cX5_best 13 = .ok (.getfield 96, 3) := by decide +kernel
theorem dX5_best_16 : decode cX5_best 16 = .ok (.ifCond .ne 6, 3) := by decide +kernel
theorem dX5_best_19 : decode cX5_best 19 = .ok (.bipush (-3), 2) := by decide +kernel
theorem dX5_best_21 : decode cX5_best 21 = .ok (.ireturn, 1) := by decide +kernel
theorem dX5_best_22 : decode cX5_best 22 = .ok (.aload_n 0, 1) := by decide +kernel
theorem dX5_best_23 : decode cX5_best 23 = .ok (.getfield 123, 3) := by decide +kernel
theorem dX5_best_26 : decode cX5_best 26 = .ok (.istore_n 2, 1) := by decide +kernel
theorem dX5_best_27 : decode cX5_best 27 = .ok (.bipush (-9), 2) := by decide +kernel
theorem dX5_best_29 : decode cX5_best 29 = .ok (.istore_n 3, 1) := by decide +kernel
theorem dX5_best_30 : decode cX5_best 30 = .ok (.iconst 0, 1) := by decide +kernel
theorem dX5_best_31 : decode cX5_best 31 = .ok (.istore 4, 2) := by decide +kernel
theorem dX5_best_33 : decode cX5_best 33 = .ok (.iconst 1, 1) := by decide +kernel
theorem dX5_best_34 : decode cX5_best 34 = .ok (.istore 5, 2) := by decide +kernel
theorem dX5_best_36 : decode cX5_best 36 = .ok (.iload 5, 2) := by decide +kernel
theorem dX5_best_38 : decode cX5_best 38 = .ok (.bipush 13, 2) := by decide +kernel
theorem dX5_best_40 : decode cX5_best 40 = .ok (.if_icmp .gt 41, 3) := by decide +kernel
theorem dX5_best_43 : decode cX5_best 43 = .ok (.aload_n 0, 1) := by decide +kernel
theorem dX5_best_44 : decode cX5_best 44 = .ok (.iload 5, 2) := by decide +kernel
theorem dX5_best_46 : decode cX5_best 46 = .ok (.putfield 123, 3) := by decide +kernel
theorem dX5_best_49 : decode cX5_best 49 = .ok (.aload_n 0, 1) := by decide +kernel
theorem dX5_best_50 : decode cX5_best 50 = .ok (.invokevirtual 207, 3) := by decide +kernel
theorem dX5_best_53 : decode cX5_best 53 = .ok (.istore 6, 2) := by decide +kernel
theorem dX5_best_55 : decode cX5_best 55 = .ok (.iload_n 3, 1) := by decide +kernel
theorem dX5_best_56 : decode cX5_best 56 = .ok (.bipush (-9), 2) := by decide +kernel
theorem dX5_best_58 : decode cX5_best 58 = .ok (.if_icmp .eq 10, 3) := by decide +kernel
theorem dX5_best_61 : decode cX5_best 61 = .ok (.iload 6, 2) := by decide +kernel
theorem dX5_best_63 : decode cX5_best 63 = .ok (.iload 4, 2) := by decide +kernel
theorem dX5_best_65 : decode cX5_best 65 = .ok (.if_icmp .ge 10, 3) := by decide +kernel
theorem dX5_best_68 : decode cX5_best 68 = .ok (.iload 5, 2) := by decide +kernel
theorem dX5_best_70 : decode cX5_best 70 = .ok (.istore_n 3, 1) := by decide +kernel
theorem dX5_best_71 : decode cX5_best 71 = .ok (.iload 6, 2) := by decide +kernel
theorem dX5_best_73 : decode cX5_best 73 = .ok (.istore 4, 2) := by decide +kernel
theorem dX5_best_75 : decode cX5_best 75 = .ok (.iinc 5 1, 3) := by decide +kernel
theorem dX5_best_78 : decode cX5_best 78 = .ok (.goto (-42), 3) := by decide +kernel
theorem dX5_best_81 : decode cX5_best 81 = .ok (.aload_n 0, 1) := by decide +kernel
theorem dX5_best_82 : decode cX5_best 82 = .ok (.iload_n 2, 1) := by decide +kernel
theorem dX5_best_83 : decode cX5_best 83 = .ok (.putfield 123, 3) := by decide +kernel
theorem dX5_best_86 : decode cX5_best 86 = .ok (.iload_n 1, 1) := by decide +kernel
theorem dX5_best_87 : decode cX5_best 87 = .ok (.ifCond .ne 7, 3) := by decide +kernel
theorem dX5_best_90 : decode cX5_best 90 = .ok (.iload_n 3, 1) := by decide +kernel
theorem dX5_best_91 : decode cX5_best 91 = .ok (.goto 5, 3) := by decide +kernel
theorem dX5_best_94 : decode cX5_best 94 = .ok (.iload 4, 2) := by decide +kernel
theorem dX5_best_96 : decode cX5_best 96 = .ok (.ireturn, 1) := by decide +kernel
