theorem dX6_init_0 : decode cX6_init 0 = .ok (.aload_n 0, 1) := by decide +kernel
theorem dX6_init_1 : decode cX6_init 1 = .ok (.invokespecial 1, 3) := by decide +kernel
theorem dX6_init_4 : decode cX6_init 4 = .ok (.aload_n 0, 1) := by decide +kernel
theorem dX6_init_5 : decode cX6_init 5 = .ok (.iconst 4, 1) := by decide +kernel
theorem dX6_init_6 : decode cX6_init 6 = .ok (.newarray .int, 2) := by decide +kernel
theorem dX6_init_8 : decode cX6_init 8 = .ok (.dup, 1) := by decide +kernel
theorem dX6_init_9 : decode cX6_init 9 = .ok (.iconst 0, 1) := by decide +kernel
theorem dX6_init_10 : decode cX6_init 10 = .ok (.bipush (-9), 2) := by decide +kernel
theorem dX6_init_12 : decode cX6_init 12 = .ok (.iastore, 1) := by decide +kernel
theorem dX6_init_13 : decode cX6_init 13 = .ok (.dup, 1) := by decide +kernel
theorem dX6_init_14 : decode cX6_init 14 = .ok (.iconst 1, 1) := by decide +kernel
theorem dX6_init_15 : decode cX6_init 15 = .ok (.bipush (-9), 2) := by decide +kernel
theorem dX6_init_17 : decode cX6_init 17 = .ok (.iastore, 1) := by decide +kernel
theorem dX6_init_18 : decode cX6_init 18 = .ok (.dup, 1) := by decide +kernel
theorem dX6_init_19 : decode cX6_init 19 = .ok (.iconst 2, 1) := by decide +kernel
theorem dX6_init_20 : decode cX6_init 20 = .ok (.bipush (-9), 2) := by decide +kernel
theorem dX6_init_22 : decode cX6_init 22 = .ok (.iastore, 1) := by decide +kernel
theorem dX6_init_23 : decode cX6_init 23 = .ok (.dup, 1) := by decide +kernel
theorem dX6_init_24 : decode cX6_init 24 = .ok (.iconst 3, 1) := by decide +kernel
theorem dX6_init_25 : decode cX6_init 25 = .ok (.bipush (-9), 2) := by decide +kernel
theorem dX6_init_27 : decode cX6_init 27 = .ok (.iastore, 1) := by decide +kernel
theorem dX6_init_28 : decode cX6_init 28 = .ok (.putfield 9, 3) := by decide +kernel
theorem dX6_init_31 : decode cX6_init 31 = .ok (.aload_n 0, 1) := by decide +kernel
theorem dX6_init_32 : decode cX6_init 32 = .ok (.iconst 4, 1) := by decide +kernel
theorem dX6_init_33 : decode cX6_init 33 = .ok (.newarray .int, 2) := by decide +kernel
theorem dX6_init_35 : decode cX6_init 35 = .ok (.putfield 13, 3) := by decide +kernel
theorem dX6_init_38 : decode cX6_init 38 = .ok (.aload_n 0, 1) := by decide +kernel
theorem dX6_init_39 : decode cX6_init 39 = .ok (.sipush 240, 3) := by decide +kernel
theorem dX6_init_42 : decode cX6_init 42 = .ok (.newarray .int, 2) := by decide +kernel
theorem dX6_init_44 : decode cX6_init 44 = .ok (.putfield 16, 3) := by decide +kernel
theorem dX6_init_47 : decode cX6_init 47 = .ok (.aload_n 0, 1) := by decide +kernel
theorem dX6_init_48 : decode cX6_init 48 = .ok (.iconst 4, 1) := by decide +kernel
theorem dX6_init_49 : decode cX6_init 49 = .ok (.newarray .int, 2) := by decide +kernel
theorem dX6_init_51 : decode cX6_init 51 = .ok (.putfield 19, 3) := by decide +kernel
theorem dX6_init_54 : decode cX6_init 54 = .ok (.aload_n 0, 1) := by decide +kernel
theorem dX6_init_55 : decode cX6_init 55 = .ok (.iconst 4, 1) := by decide +kernel
theorem dX6_init_56 : decode cX6_init 56 = .ok (.newarray .int, 2) := by decide +kernel
theorem dX6_init_58 : decode cX6_init 58 = .ok (.putfield 22, 3) := by decide +kernel
theorem dX6_init_61 : decode cX6_init 61 = .ok (.aload_n 0, 1) := by decide +kernel
theorem dX6_init_62 : decode cX6_init 62 = .ok (.iconst 4, 1) := by decide +kernel
theorem dX6_init_63 : decode cX6_init 63 = .ok (.newarray .boolean, 2) := by decide +kernel
theorem dX6_init_65 : decode cX6_init 65 = .ok (.putfield 25, 3) := by decide +kernel
theorem dX6_init_68 : decode cX6_init 68 = .ok (.aload_n 0, 1) := by decide +kernel
theorem dX6_init_69 : decode cX6_init 69 = .ok (.bipush 6, 2) := by decide +kernel
theorem dX6_init_71 : decode cX6_init 71 = .ok (.newarray .int, 2) := by decide +kernel
theorem dX6_init_73 : decode cX6_init 73 = .ok (.putfield 29, 3) := by decide +kernel
theorem dX6_init_76 : decode cX6_init 76 = .ok (.aload_n 0, 1) := by decide +kernel
theorem dX6_init_77 : decode cX6_init 77 = .ok (.bipush 6, 2) := by decide +kernel
theorem dX6_init_79 : decode cX6_init 79 = .ok (.newarray .int, 2) := by decide +kernel
theorem dX6_init_81 : decode cX6_init 81 = .ok (.putfield 32, 3) := by decide +kernel
theorem dX6_init_84 : decode cX6_init 84 = .ok (.aload_n 0, 1) := by decide +kernel
theorem dX6_init_85 : decode cX6_init 85 = .ok (.bipush 6, 2) := by decide +kernel
theorem dX6_init_87 : decode cX6_init 87 = .ok (.newarray .int, 2) := by decide +kernel
theorem dX6_init_89 : decode cX6_init 89 = .ok (.putfield 35, 3) := by decide +kernel
theorem dX6_init_92 : decode cX6_init 92 = .ok (.aload_n 0, 1) := by decide +kernel
theorem dX6_init_93 : decode cX6_init 93 = .ok (.bipush 6, 2) := by decide +kernel
theorem dX6_init_95 : decode cX6_init 95 = .ok (.newarray .int, 2) := by decide +kernel
theorem dX6_init_97 : decode cX6_init 97 = .ok (.putfield 38, 3) := by decide +kernel
theorem dX6_init_100 : decode cX6_init 100 = .ok (.aload_n 0, 1) := by decide +kernel
theorem dX6_init_101 : decode cX6_init 101 = .ok (.bipush 6, 2) := by decide +kernel
theorem dX6_init_103 : decode cX6_init 103 = .ok (.newarray .boolean, 2) := by decide +kernel
theorem dX6_init_105 : decode cX6_init 105 = .ok (.putfield 41, 3) := by decide +kernel
theorem dX6_init_108 : decode cX6_init 108 = .ok (.aload_n 0, 1) := by decide +kernel
theorem dX6_init_109 : decode cX6_init 109 = .ok (.iconst 4, 1) := by decide +kernel
theorem dX6_init_110 : decode cX6_init 110 = .ok (.newarray .int, 2) := by decide +kernel
theorem dX6_init_112 : decode cX6_init 112 = .ok (.putfield 44, 3) := by decide +kernel
theorem dX6_init_115 : decode cX6_init 115 = .ok (.aload_n 0, 1) := by decide +kernel
theorem dX6_init_116 : decode cX6_init 116 = .ok (.bipush 24, 2) := by decide +kernel
theorem dX6_init_118 : decode cX6_init 118 = .ok (.newarray .int, 2) := by decide +kernel
theorem dX6_init_120 : decode cX6_init 120 = .ok (.putfield 47, 3) := by decide +kernel
theorem dX6_init_123 : decode cX6_init 123 = .ok (.aload_n 0, 1) := by decide +kernel
theorem dX6_init_124 : decode cX6_init 124 = .ok (.iconst 4, 1) := by decide +kernel
theorem dX6_init_125 : decode cX6_init 125 = .ok (.newarray .int, 2) := by decide +kernel
theorem dX6_init_127 : decode cX6_init 127 = .ok (.putfield 50, 3) := by decide +kernel
theorem dX6_init_130 : decode cX6_init 130 = .ok (.aload_n 0, 1) := by decide +kernel
theorem dX6_init_131 : decode cX6_init 131 = .ok (.iconst 4, 1) := by decide +kernel
theorem dX6_init_132 : decode cX6_init 132 = .ok (.newarray .int, 2) := by decide +kernel
theorem dX6_init_134 : decode cX6_init 134 = .ok (.putfield 53, 3) := by decide +kernel
theorem dX6_init_137 : decode cX6_init 137 = .ok (.aload_n 0, 1) := by decide +kernel
theorem dX6_init_138 : decode cX6_init 138 = .ok (.iconst 4, 1) := by decide +kernel
theorem dX6_init_139 : decode cX6_init 139 = .ok (.newarray .boolean, 2) := by decide +kernel
theorem dX6_init_141 : decode cX6_init 141 = .ok (.putfield 56, 3) := by decide +kernel
theorem dX6_init_144 : decode cX6_init 144 = .ok (.aload_n 0, 1) := by decide +kernel
theorem dX6_init_145 : decode cX6_init 145 = .ok (.bipush 6, 2) := by decide +kernel
theorem dX6_init_147 : decode cX6_init 147 = .ok (.newarray .int, 2) := by decide +kernel
theorem dX6_init_149 : decode cX6_init 149 = .ok (.putfield 59, 3) := by decide +kernel
theorem dX6_init_152 : decode cX6_init 152 = .ok (.aload_n 0, 1) := by decide +kernel
theorem dX6_init_153 : decode cX6_init 153 = .ok (.bipush 6, 2) := by decide +kernel
theorem dX6_init_155 : decode cX6_init 155 = .ok (.newarray .boolean, 2) := by decide +kernel
theorem dX6_init_157 : decode cX6_init 157 = .ok (.putfield 62, 3) := by decide +kernel
theorem dX6_init_160 : decode cX6_init 160 = .ok (.aload_n 0, 1) := by decide +kernel
theorem dX6_init_161 : decode cX6_init 161 = .ok (.bipush 6, 2) := by decide +kernel
theorem dX6_init_163 : decode cX6_init 163 = .ok (.newarray .int, 2) := by decide +kernel
theorem dX6_init_165 : decode cX6_init 165 = .ok (.putfield 65, 3) := by decide +kernel
theorem dX6_init_168 : decode cX6_init 168 = .ok (.aload_n 0, 1) := by decide +kernel
theorem dX6_init_169 : decode cX6_init 169 = .ok (.bipush 6, 2) := by decide +kernel
theorem dX6_init_171 : decode cX6_init 171 = .ok (.newarray .int, 2) := by decide +kernel
theorem dX6_init_173 : decode cX6_init 173 = .ok (.putfield 68, 3) := by decide +kernel
theorem dX6_init_176 : decode cX6_init 176 = .ok (.aload_n 0, 1) := by decide +kernel
theorem dX6_init_177 : decode cX6_init 177 = .ok (.bipush 8, 2) := by decide +kernel
theorem dX6_init_179 : decode cX6_init 179 = .ok (.newarray .int, 2) := by decide +kernel
theorem dX6_init_181 : decode cX6_init 181 = .ok (.putfield 71, 3) := by decide +kernel
theorem dX6_init_184 : decode cX6_init 184 = .ok (.aload_n 0, 1) := by decide +kernel
theorem dX6_init_185 : decode cX6_init 185 = .ok (.bipush 8, 2) := by decide +kernel
theorem dX6_init_187 : decode cX6_init 187 = .ok (.newarray .int, 2) := by decide +kernel
theorem dX6_init_189 : decode cX6_init 189 = .ok (.putfield 74, 3) := by decide +kernel
theorem dX6_init_192 : decode cX6_init 192 = .ok (.aload_n 0, 1) := by decide +kernel
theorem dX6_init_193 : decode cX6_init 193 = .ok (.bipush 8, 2) := by decide +kernel
theorem dX6_init_195 : decode cX6_init 195 = .ok (.newarray .int, 2) := by decide +kernel
theorem dX6_init_197 : decode cX6_init 197 = .ok (.putfield 77, 3) := by decide +kernel
theorem dX6_init_200 : decode cX6_init 200 = .ok (.return_, 1) := by decide +kernel
theorem dX6_fails_0 : decode cX6_fails 0 = .ok (.aload_n 0, 1) := by decide +kernel
theorem dX6_fails_1 : decode cX6_fails 1 = .ok (.iload_n 1, 1) := by decide +kernel
theorem dX6_fails_2 : decode cX6_fails 2 = .ok (.putfield 80, 3) := by decide +kernel
theorem dX6_fails_5 : decode cX6_fails 5 = .ok (.bipush (-10), 2) := by decide +kernel
theorem dX6_fails_7 : decode cX6_fails 7 = .ok (.iload_n 1, 1) := by decide +kernel
theorem dX6_fails_8 : decode cX6_fails 8 = .ok (.isub, 1) := by decide +kernel
theorem dX6_fails_9 : decode cX6_fails 9 = .ok (.ireturn, 1) := by decide +kernel
theorem dX6_lost_0 : decode cX6_lost 0 = .ok (.aload_n 0, 1) := by decide +kernel
theorem dX6_lost_1 : decode cX6_lost 1 = .ok (.iload_n 1, 1) := by decide +kernel
theorem dX6_lost_2 : decode cX6_lost 2 = .ok (.putfield 80, 3) := by decide +kernel
theorem dX6_lost_5 : decode cX6_lost 5 = .ok (.ldc2_w 84, 3) := by decide +kernel
theorem dX6_lost_8 : decode cX6_lost 8 = .ok (.lreturn, 1) := by decide +kernel
theorem dX6_within_0 : decode cX6_within 0 = .ok (.iload_n 0, 1) := by decide +kernel
theorem dX6_within_1 : decode cX6_within 1 = .ok (.iload_n 1, 1) := by decide +kernel
theorem dX6_within_2 : decode cX6_within 2 = .ok (.if_icmp .lt 12, 3) := by decide +kernel
theorem dX6_within_5 : decode cX6_within 5 = .ok (.iload_n 0, 1) := by decide +kernel
theorem dX6_within_6 : decode cX6_within 6 = .ok (.iload_n 2, 1) := by decide +kernel
theorem dX6_within_7 : decode cX6_within 7 = .ok (.if_icmp .gt 7, 3) := by decide +kernel
theorem dX6_within_10 : decode cX6_within 10 = .ok (.iconst 1, 1) := by decide +kernel
theorem dX6_within_11 : decode cX6_within 11 = .ok (.goto 4, 3) := by decide +kernel
theorem dX6_within_14 : decode cX6_within 14 = .ok (.iconst 0, 1) := by decide +kernel
theorem dX6_within_15 : decode cX6_within 15 = .ok (.ireturn, 1) := by decide +kernel
theorem dX6_isSheet_0 : decode cX6_isSheet 0 = .ok (.iload_n 0, 1) := by decide +kernel
theorem dX6_isSheet_1 : decode cX6_isSheet 1 = .ok (.iconst 0, 1) := by decide +kernel
theorem dX6_isSheet_2 : decode cX6_isSheet 2 = .ok (.iconst 3, 1) := by decide +kernel
theorem dX6_isSheet_3 : decode cX6_isSheet 3 = .ok (.invokestatic 86, 3) := by decide +kernel
theorem dX6_isSheet_6 : decode cX6_isSheet 6 = .ok (.ireturn, 1) := by decide +kernel
theorem dX6_isSort_0 : decode cX6_isSort 0 = .ok (.iload_n 0, 1) := by decide +kernel
theorem dX6_isSort_1 : decode cX6_isSort 1 = .ok (.iconst 0, 1) := by decide +kernel
theorem dX6_isSort_2 : decode cX6_isSort 2 = .ok (.iconst 2, 1) := by decide +kernel
theorem dX6_isSort_3 : decode cX6_isSort 3 = .ok (.invokestatic 86, 3) := by decide +kernel
theorem dX6_isSort_6 : decode cX6_isSort 6 = .ok (.ireturn, 1) := by decide +kernel
theorem dX6_against_0 : decode cX6_against 0 = .ok (.aload_n 0, 1) := by decide +kernel
theorem dX6_against_1 : decode cX6_against 1 = .ok (.getfield 9, 3) := by decide +kernel
theorem dX6_against_4 : decode cX6_against 4 = .ok (.iload_n 1, 1) := by decide +kernel
theorem dX6_against_5 : decode cX6_against 5 = .ok (.iaload, 1) := by decide +kernel
theorem dX6_against_6 : decode cX6_against 6 = .ok (.bipush (-9), 2) := by decide +kernel
theorem dX6_against_8 : decode cX6_against 8 = .ok (.if_icmp .eq 15, 3) := by decide +kernel
theorem dX6_against_11 : decode cX6_against 11 = .ok (.aload_n 0, 1) := by decide +kernel
theorem dX6_against_12 : decode cX6_against 12 = .ok (.getfield 9, 3) := by decide +kernel
theorem dX6_against_15 : decode cX6_against 15 = .ok (.iload_n 1, 1) := by decide +kernel
theorem dX6_against_16 : decode cX6_against 16 = .ok (.iaload, 1) := by decide +kernel
theorem dX6_against_17 : decode cX6_against 17 = .ok (.iload_n 2, 1) := by decide +kernel
theorem dX6_against_18 : decode cX6_against 18 = .ok (.if_icmp .eq 5, 3) := by decide +kernel
theorem dX6_against_21 : decode cX6_against 21 = .ok (.iconst 2, 1) := by decide +kernel
theorem dX6_against_22 : decode cX6_against 22 = .ok (.ireturn, 1) := by decide +kernel
theorem dX6_against_23 : decode cX6_against 23 = .ok (.aload_n 0, 1) := by decide +kernel
theorem dX6_against_24 : decode cX6_against 24 = .ok (.getfield 9, 3) := by decide +kernel
theorem dX6_against_27 : decode cX6_against 27 = .ok (.iload_n 1, 1) := by decide +kernel
theorem dX6_against_28 : decode cX6_against 28 = .ok (.iaload, 1) := by decide +kernel
theorem dX6_against_29 : decode cX6_against 29 = .ok (.bipush (-9), 2) := by decide +kernel
theorem dX6_against_31 : decode cX6_against 31 = .ok (.if_icmp .ne 5, 3) := by decide +kernel
theorem dX6_against_34 : decode cX6_against 34 = .ok (.iconst 1, 1) := by decide +kernel
theorem dX6_against_35 : decode cX6_against 35 = .ok (.ireturn, 1) := by decide +kernel
theorem dX6_against_36 : decode cX6_against 36 = .ok (.iload 4, 2) := by decide +kernel
theorem dX6_against_38 : decode cX6_against 38 = .ok (.ifCond .ge 5, 3) := by decide +kernel
theorem dX6_against_41 : decode cX6_against 41 = .ok (.iconst 4, 1) := by decide +kernel
theorem dX6_against_42 : decode cX6_against 42 = .ok (.ireturn, 1) := by decide +kernel
theorem dX6_against_43 : decode cX6_against 43 = .ok (.iload_n 3, 1) := by decide +kernel
theorem dX6_against_44 : decode cX6_against 44 = .ok (.ifCond .lt 26, 3) := by decide +kernel
theorem dX6_against_47 : decode cX6_against 47 = .ok (.iload_n 3, 1) := by decide +kernel
theorem dX6_against_48 : decode cX6_against 48 = .ok (.aload_n 0, 1) := by decide +kernel
theorem dX6_against_49 : decode cX6_against 49 = .ok (.getfield 13, 3) := by decide +kernel
theorem dX6_against_52 : decode cX6_against 52 = .ok (.iload_n 1, 1) := by decide +kernel
theorem dX6_against_53 : decode cX6_against 53 = .ok (.iaload, 1) := by decide +kernel
theorem dX6_against_54 : decode cX6_against 54 = .ok (.if_icmp .gt 16, 3) := by decide +kernel
theorem dX6_against_57 : decode cX6_against 57 = .ok (.iload 4, 2) := by decide +kernel
theorem dX6_against_59 : decode cX6_against 59 = .ok (.aload_n 0, 1) := by decide +kernel
theorem dX6_against_60 : decode cX6_against 60 = .ok (.getfield 13, 3) := by decide +kernel
theorem dX6_against_63 : decode cX6_against 63 = .ok (.iload_n 1, 1) := by decide +kernel
theorem dX6_against_64 : decode cX6_against 64 = .ok (.iaload, 1) := by decide +kernel
theorem dX6_against_65 : decode cX6_against 65 = .ok (.iload_n 3, 1) := by decide +kernel
theorem dX6_against_66 : decode cX6_against 66 = .ok (.isub, 1) := by decide +kernel
theorem dX6_against_67 : decode cX6_against 67 = .ok (.if_icmp .le 7, 3) := by decide +kernel
theorem dX6_against_70 : decode cX6_against 70 = .ok (.iconst 3, 1) := by decide +kernel
theorem dX6_against_71 : decode cX6_against 71 = .ok (.goto 4, 3) := by decide +kernel
theorem dX6_against_74 : decode cX6_against 74 = .ok (.iconst 0, 1) := by decide +kernel
theorem dX6_against_75 : decode cX6_against 75 = .ok (.ireturn, 1) := by decide +kernel
theorem dX6_isPerson_0 : decode cX6_isPerson 0 = .ok (.iload_n 1, 1) := by decide +kernel
theorem dX6_isPerson_1 : decode cX6_isPerson 1 = .ok (.ifCond .lt 15, 3) := by decide +kernel
theorem dX6_isPerson_4 : decode cX6_isPerson 4 = .ok (.iload_n 1, 1) := by decide +kernel
theorem dX6_isPerson_5 : decode cX6_isPerson 5 = .ok (.aload_n 0, 1) := by decide +kernel
theorem dX6_isPerson_6 : decode cX6_isPerson 6 = .ok (.getfield 90, 3) := by decide +kernel
theorem dX6_isPerson_9 : decode cX6_isPerson 9 = .ok (.if_icmp .ge 7, 3) := by decide +kernel
theorem dX6_isPerson_12 : decode cX6_isPerson 12 = .ok (.iconst 1, 1) := by decide +kernel
theorem dX6_isPerson_13 : decode cX6_isPerson 13 = .ok (.goto 4, 3) := by decide +kernel
theorem dX6_isPerson_16 : decode cX6_isPerson 16 = .ok (.iconst 0, 1) := by decide +kernel
theorem dX6_isPerson_17 : decode cX6_isPerson 17 = .ok (.ireturn, 1) := by decide +kernel
theorem dX6_isMorning_0 : decode cX6_isMorning 0 = .ok (.iload_n 1, 1) := by decide +kernel
theorem dX6_isMorning_1 : decode cX6_isMorning 1 = .ok (.ifCond .lt 15, 3) := by decide +kernel
theorem dX6_isMorning_4 : decode cX6_isMorning 4 = .ok (.iload_n 1, 1) := by decide +kernel
theorem dX6_isMorning_5 : decode cX6_isMorning 5 = .ok (.aload_n 0, 1) := by decide +kernel
theorem dX6_isMorning_6 : decode cX6_isMorning 6 = .ok (.getfield 93, 3) := by decide +kernel
theorem dX6_isMorning_9 : decode cX6_isMorning 9 = .ok (.if_icmp .ge 7, 3) := by decide +kernel
theorem dX6_isMorning_12 : decode cX6_isMorning 12 = .ok (.iconst 1, 1) := by decide +kernel
theorem dX6_isMorning_13 : decode cX6_isMorning 13 = .ok (.goto 4, 3) := by decide +kernel
theorem dX6_isMorning_16 : decode cX6_isMorning 16 = .ok (.iconst 0, 1) := by decide +kernel
theorem dX6_isMorning_17 : decode cX6_isMorning 17 = .ok (.ireturn, 1) := by decide +kernel
theorem dX6_digit_0 : decode cX6_digit 0 = .ok (.aload_n 0, 1) := by decide +kernel
theorem dX6_digit_1 : decode cX6_digit 1 = .ok (.getfield 96, 3) := by decide +kernel
theorem dX6_digit_4 : decode cX6_digit 4 = .ok (.iload_n 1, 1) := by decide +kernel
theorem dX6_digit_5 : decode cX6_digit 5 = .ok (.if_icmp .ge 26, 3) := by decide +kernel
theorem dX6_digit_8 : decode cX6_digit 8 = .ok (.aload_n 0, 1) := by decide +kernel
theorem dX6_digit_9 : decode cX6_digit 9 = .ok (.getfield 16, 3) := by decide +kernel
theorem dX6_digit_12 : decode cX6_digit 12 = .ok (.aload_n 0, 1) := by decide +kernel
theorem dX6_digit_13 : decode cX6_digit 13 = .ok (.getfield 96, 3) := by decide +kernel
theorem dX6_digit_16 : decode cX6_digit 16 = .ok (.iaload, 1) := by decide +kernel
theorem dX6_digit_17 : decode cX6_digit 17 = .ok (.bipush 48, 2) := by decide +kernel
theorem dX6_digit_19 : decode cX6_digit 19 = .ok (.iload_n 2, 1) := by decide +kernel
theorem dX6_digit_20 : decode cX6_digit 20 = .ok (.iadd, 1) := by decide +kernel
theorem dX6_digit_21 : decode cX6_digit 21 = .ok (.bipush 48, 2) := by decide +kernel
theorem dX6_digit_23 : decode cX6_digit 23 = .ok (.iload_n 3, 1) := by decide +kernel
theorem dX6_digit_24 : decode cX6_digit 24 = .ok (.iadd, 1) := by decide +kernel
theorem dX6_digit_25 : decode cX6_digit 25 = .ok (.invokestatic 86, 3) := by decide +kernel
theorem dX6_digit_28 : decode cX6_digit 28 = .ok (.ifCond .ne 6, 3) := by decide +kernel
theorem dX6_digit_31 : decode cX6_digit 31 = .ok (.bipush (-9), 2) := by decide +kernel
theorem dX6_digit_33 : decode cX6_digit 33 = .ok (.ireturn, 1) := by decide +kernel
theorem dX6_digit_34 : decode cX6_digit 34 = .ok (.aload_n 0, 1) := by decide +kernel
theorem dX6_digit_35 : decode cX6_digit 35 = .ok (.dup, 1) := by decide +kernel
theorem dX6_digit_36 : decode cX6_digit 36 = .ok (.getfield 96, 3) := by decide +kernel
theorem dX6_digit_39 : decode cX6_digit 39 = .ok (.iconst 1, 1) := by decide +kernel
theorem dX6_digit_40 : decode cX6_digit 40 = .ok (.iadd, 1) := by decide +kernel
theorem dX6_digit_41 : decode cX6_digit 41 = .ok (.putfield 96, 3) := by decide +kernel
theorem dX6_digit_44 : decode cX6_digit 44 = .ok (.aload_n 0, 1) := by decide +kernel
theorem dX6_digit_45 : decode cX6_digit 45 = .ok (.getfield 16, 3) := by decide +kernel
theorem dX6_digit_48 : decode cX6_digit 48 = .ok (.aload_n 0, 1) := by decide +kernel
theorem dX6_digit_49 : decode cX6_digit 49 = .ok (.getfield 96, 3) := by decide +kernel
theorem dX6_digit_52 : decode cX6_digit 52 = .ok (.iconst 1, 1) := by decide +kernel
theorem dX6_digit_53 : decode cX6_digit 53 = .ok (.isub, 1) := by decide +kernel
theorem dX6_digit_54 : decode cX6_digit 54 = .ok (.iaload, 1) := by decide +kernel
theorem dX6_digit_55 : decode cX6_digit 55 = .ok (.bipush 48, 2) := by decide +kernel
theorem dX6_digit_57 : decode cX6_digit 57 = .ok (.isub, 1) := by decide +kernel
theorem dX6_digit_58 : decode cX6_digit 58 = .ok (.ireturn, 1) := by decide +kernel
theorem dX6_isSign_0 : decode cX6_isSign 0 = .ok (.aload_n 0, 1) := by decide +kernel
theorem dX6_isSign_1 : decode cX6_isSign 1 = .ok (.getfield 96, 3) := by decide +kernel
theorem dX6_isSign_4 : decode cX6_isSign 4 = .ok (.iload_n 1, 1) := by decide +kernel
theorem dX6_isSign_5 : decode cX6_isSign 5 = .ok (.if_icmp .ge 16, 3) := by decide +kernel
theorem dX6_isSign_8 : decode cX6_isSign 8 = .ok (.aload_n 0, 1) := by decide +kernel
theorem dX6_isSign_9 : decode cX6_isSign 9 = .ok (.getfield 16, 3) := by decide +kernel
theorem dX6_isSign_12 : decode cX6_isSign 12 = .ok (.aload_n 0, 1) := by decide +kernel
theorem dX6_isSign_13 : decode cX6_isSign 13 = .ok (.getfield 96, 3) := by decide +kernel
theorem dX6_isSign_16 : decode cX6_isSign 16 = .ok (.iaload, 1) := by decide +kernel
theorem dX6_isSign_17 : decode cX6_isSign 17 = .ok (.iload_n 2, 1) := by decide +kernel
theorem dX6_isSign_18 : decode cX6_isSign 18 = .ok (.if_icmp .eq 5, 3) := by decide +kernel
theorem dX6_isSign_21 : decode cX6_isSign 21 = .ok (.iconst 0, 1) := by decide +kernel
theorem dX6_isSign_22 : decode cX6_isSign 22 = .ok (.ireturn, 1) := by decide +kernel
theorem dX6_isSign_23 : decode cX6_isSign 23 = .ok (.aload_n 0, 1) := by decide +kernel
theorem dX6_isSign_24 : decode cX6_isSign 24 = .ok (.dup, 1) := by decide +kernel
theorem dX6_isSign_25 : decode cX6_isSign 25 = .ok (.getfield 96, 3) := by decide +kernel
theorem dX6_isSign_28 : decode cX6_isSign 28 = .ok (.iconst 1, 1) := by decide +kernel
theorem dX6_isSign_29 : decode cX6_isSign 29 = .ok (.iadd, 1) := by decide +kernel
theorem dX6_isSign_30 : decode cX6_isSign 30 = .ok (.putfield 96, 3) := by decide +kernel
theorem dX6_isSign_33 : decode cX6_isSign 33 = .ok (.iconst 1, 1) := by decide +kernel
theorem dX6_isSign_34 : decode cX6_isSign 34 = .ok (.ireturn, 1) := by decide +kernel
theorem dX6_market_0 : decode cX6_market 0 = .ok (.aload_n 0, 1) := by decide +kernel
theorem dX6_market_1 : decode cX6_market 1 = .ok (.iconst 0, 1) := by decide +kernel
theorem dX6_market_2 : decode cX6_market 2 = .ok (.putfield 80, 3) := by decide +kernel
theorem dX6_market_5 : decode cX6_market 5 = .ok (.iload_n 1, 1) := by decide +kernel
theorem dX6_market_6 : decode cX6_market 6 = .ok (.invokestatic 99, 3) := by decide +kernel
theorem dX6_market_9 : decode cX6_market 9 = .ok (.ifCond .ne 5, 3) := by decide +kernel
theorem dX6_market_12 : decode cX6_market 12 = .ok (.iconst (-1), 1) := by decide +kernel
theorem dX6_market_13 : decode cX6_market 13 = .ok (.ireturn, 1) := by decide +kernel
theorem dX6_market_14 : decode cX6_market 14 = .ok (.iload_n 2, 1) := by decide +kernel
theorem dX6_market_15 : decode cX6_market 15 = .ok (.invokestatic 103, 3) := by decide +kernel
theorem dX6_market_18 : decode cX6_market 18 = .ok (.ifCond .ne 6, 3) := by decide +kernel
theorem dX6_market_21 : decode cX6_market 21 = .ok (.bipush (-2), 2) := by decide +kernel
theorem dX6_market_23 : decode cX6_market 23 = .ok (.ireturn, 1) := by decide +kernel
theorem dX6_market_24 : decode cX6_market 24 = .ok (.aload_n 0, 1) := by decide +kernel
theorem dX6_market_25 : decode cX6_market 25 = .ok (.iload_n 1, 1) := by decide +kernel
theorem dX6_market_26 : decode cX6_market 26 = .ok (.iload_n 2, 1) := by decide +kernel
theorem dX6_market_27 : decode cX6_market 27 = .ok (.iload_n 3, 1) := by decide +kernel
theorem dX6_market_28 : decode cX6_market 28 = .ok (.iload 4, 2) := by decide +kernel
theorem dX6_market_30 : decode cX6_market 30 = .ok (.invokevirtual 106, 3) := by decide +kernel
theorem dX6_market_33 : decode cX6_market 33 = .ok (.istore 5, 2) := by decide +kernel
theorem dX6_market_35 : decode cX6_market 35 = .ok (.iload 5, 2) := by decide +kernel
theorem dX6_market_37 : decode cX6_market 37 = .ok (.ifCond .eq 10, 3) := by decide +kernel
theorem dX6_market_40 : decode cX6_market 40 = .ok (.aload_n 0, 1) := by decide +kernel
theorem dX6_market_41 : decode cX6_market 41 = .ok (.iload 5, 2) := by decide +kernel
theorem dX6_market_43 : decode cX6_market 43 = .ok (.invokevirtual 110, 3) := by decide +kernel
theorem dX6_market_46 : decode cX6_market 46 = .ok (.ireturn, 1) := by decide +kernel
theorem dX6_market_47 : decode cX6_market 47 = .ok (.bipush 60, 2) := by decide +kernel
theorem dX6_market_49 : decode cX6_market 49 = .ok (.iload_n 1, 1) := by decide +kernel
theorem dX6_market_50 : decode cX6_market 50 = .ok (.imul, 1) := by decide +kernel
theorem dX6_market_51 : decode cX6_market 51 = .ok (.iload_n 3, 1) := by decide +kernel
theorem dX6_market_52 : decode cX6_market 52 = .ok (.iadd, 1) := by decide +kernel
theorem dX6_market_53 : decode cX6_market 53 = .ok (.istore 6, 2) := by decide +kernel
theorem dX6_market_55 : decode cX6_market 55 = .ok (.aload_n 0, 1) := by decide +kernel
theorem dX6_market_56 : decode cX6_market 56 = .ok (.iload 6, 2) := by decide +kernel
theorem dX6_market_58 : decode cX6_market 58 = .ok (.putfield 96, 3) := by decide +kernel
theorem dX6_market_61 : decode cX6_market 61 = .ok (.aload_n 0, 1) := by decide +kernel
theorem dX6_market_62 : decode cX6_market 62 = .ok (.iload 6, 2) := by decide +kernel
theorem dX6_market_64 : decode cX6_market 64 = .ok (.iload 4, 2) := by decide +kernel
theorem dX6_market_66 : decode cX6_market 66 = .ok (.iadd, 1) := by decide +kernel
theorem dX6_market_67 : decode cX6_market 67 = .ok (.invokevirtual 114, 3) := by decide +kernel
theorem dX6_market_70 : decode cX6_market 70 = .ok (.ifCond .ne 14, 3) := by decide +kernel
theorem dX6_market_73 : decode cX6_market 73 = .ok (.bipush (-100), 2) := by decide +kernel
theorem dX6_market_75 : decode cX6_market 75 = .ok (.aload_n 0, 1) := by decide +kernel
theorem dX6_market_76 : decode cX6_market 76 = .ok (.getfield 96, 3) := by decide +kernel
theorem dX6_market_79 : decode cX6_market 79 = .ok (.iload 6, 2) := by decide +kernel
theorem dX6_market_81 : decode cX6_market 81 = .ok (.isub, 1) := by decide +kernel
theorem dX6_market_82 : decode cX6_market 82 = .ok (.isub, 1) := by decide +kernel
theorem dX6_market_83 : decode cX6_market 83 = .ok (.ireturn, 1) := by decide +kernel
theorem dX6_market_84 : decode cX6_market 84 = .ok (.aload_n 0, 1) := by decide +kernel
theorem dX6_market_85 : decode cX6_market 85 = .ok (.invokevirtual 117, 3) := by decide +kernel
theorem dX6_market_88 : decode cX6_market 88 = .ok (.aload_n 0, 1) := by decide +kernel
theorem dX6_market_89 : decode cX6_market 89 = .ok (.getfield 93, 3) := by decide +kernel
theorem dX6_market_92 : decode cX6_market 92 = .ok (.ireturn, 1) := by decide +kernel
theorem dX6_takeMarket_0 : decode cX6_takeMarket 0 = .ok (.aload_n 0, 1) := by decide +kernel
theorem dX6_takeMarket_1 : decode cX6_takeMarket 1 = .ok (.aload_n 0, 1) := by decide +kernel
theorem dX6_takeMarket_2 : decode cX6_takeMarket 2 = .ok (.getfield 120, 3) := by decide +kernel
theorem dX6_takeMarket_5 : decode cX6_takeMarket 5 = .ok (.putfield 123, 3) := by decide +kernel
theorem dX6_takeMarket_8 : decode cX6_takeMarket 8 = .ok (.aload_n 0, 1) := by decide +kernel
theorem dX6_takeMarket_9 : decode cX6_takeMarket 9 = .ok (.aload_n 0, 1) := by decide +kernel
theorem dX6_takeMarket_10 : decode cX6_takeMarket 10 = .ok (.getfield 126, 3) := by decide +kernel
theorem dX6_takeMarket_13 : decode cX6_takeMarket 13 = .ok (.putfield 90, 3) := by decide +kernel
theorem dX6_takeMarket_16 : decode cX6_takeMarket 16 = .ok (.aload_n 0, 1) := by decide +kernel
theorem dX6_takeMarket_17 : decode cX6_takeMarket 17 = .ok (.iconst 0, 1) := by decide +kernel
theorem dX6_takeMarket_18 : decode cX6_takeMarket 18 = .ok (.putfield 129, 3) := by decide +kernel
theorem dX6_takeMarket_21 : decode cX6_takeMarket 21 = .ok (.iconst 0, 1) := by decide +kernel
theorem dX6_takeMarket_22 : decode cX6_takeMarket 22 = .ok (.istore_n 1, 1) := by decide +kernel
theorem dX6_takeMarket_23 : decode cX6_takeMarket 23 = .ok (.iload_n 1, 1) := by decide +kernel
theorem dX6_takeMarket_24 : decode cX6_takeMarket 24 = .ok (.aload_n 0, 1) := by decide +kernel
theorem dX6_takeMarket_25 : decode cX6_takeMarket 25 = .ok (.getfield 90, 3) := by decide +kernel
theorem dX6_takeMarket_28 : decode cX6_takeMarket 28 = .ok (.if_icmp .ge 35, 3) := by decide +kernel
theorem dX6_takeMarket_31 : decode cX6_takeMarket 31 = .ok (.aload_n 0, 1) := by decide +kernel
theorem dX6_takeMarket_32 : decode cX6_takeMarket 32 = .ok (.getfield 19, 3) := by decide +kernel
theorem dX6_takeMarket_35 : decode cX6_takeMarket 35 = .ok (.iload_n 1, 1) := by decide +kernel
theorem dX6_takeMarket_36 : decode cX6_takeMarket 36 = .ok (.aload_n 0, 1) := by decide +kernel
theorem dX6_takeMarket_37 : decode cX6_takeMarket 37 = .ok (.getfield 44, 3) := by decide +kernel
theorem dX6_takeMarket_40 : decode cX6_takeMarket 40 = .ok (.iload_n 1, 1) := by decide +kernel
theorem dX6_takeMarket_41 : decode cX6_takeMarket 41 = .ok (.iaload, 1) := by decide +kernel
theorem dX6_takeMarket_42 : decode cX6_takeMarket 42 = .ok (.iastore, 1) := by decide +kernel
theorem dX6_takeMarket_43 : decode cX6_takeMarket 43 = .ok (.aload_n 0, 1) := by decide +kernel
theorem dX6_takeMarket_44 : decode cX6_takeMarket 44 = .ok (.getfield 22, 3) := by decide +kernel
theorem dX6_takeMarket_47 : decode cX6_takeMarket 47 = .ok (.iload_n 1, 1) := by decide +kernel
theorem dX6_takeMarket_48 : decode cX6_takeMarket 48 = .ok (.iconst 0, 1) := by decide +kernel
theorem dX6_takeMarket_49 : decode cX6_takeMarket 49 = .ok (.iastore, 1) := by decide +kernel
theorem dX6_takeMarket_50 : decode cX6_takeMarket 50 = .ok (.aload_n 0, 1) := by decide +kernel
theorem dX6_takeMarket_51 : decode cX6_takeMarket 51 = .ok (.getfield 25, 3) := by decide +kernel
theorem dX6_takeMarket_54 : decode cX6_takeMarket 54 = .ok (.iload_n 1, 1) := by decide +kernel
theorem dX6_takeMarket_55 : decode cX6_takeMarket 55 = .ok (.iconst 0, 1) := by decide +kernel
theorem dX6_takeMarket_56 : decode cX6_takeMarket 56 = .ok (.bastore, 1) := by decide +kernel
theorem dX6_takeMarket_57 : decode cX6_takeMarket 57 = .ok (.iinc 1 1, 3) := by decide +kernel
theorem dX6_takeMarket_60 : decode cX6_takeMarket 60 = .ok (.goto (-37), 3) := by decide +kernel
theorem dX6_takeMarket_63 : decode cX6_takeMarket 63 = .ok (.aload_n 0, 1) := by decide +kernel
theorem dX6_takeMarket_64 : decode cX6_takeMarket 64 = .ok (.aload_n 0, 1) := by decide +kernel
theorem dX6_takeMarket_65 : decode cX6_takeMarket 65 = .ok (.getfield 132, 3) := by decide +kernel
theorem dX6_takeMarket_68 : decode cX6_takeMarket 68 = .ok (.putfield 93, 3) := by decide +kernel
theorem dX6_takeMarket_71 : decode cX6_takeMarket 71 = .ok (.iconst 0, 1) := by decide +kernel
theorem dX6_takeMarket_72 : decode cX6_takeMarket 72 = .ok (.istore_n 1, 1) := by decide +kernel
theorem dX6_takeMarket_73 : decode cX6_takeMarket 73 = .ok (.iload_n 1, 1) := by decide +kernel
theorem dX6_takeMarket_74 : decode cX6_takeMarket 74 = .ok (.aload_n 0, 1) := by decide +kernel
theorem dX6_takeMarket_75 : decode cX6_takeMarket 75 = .ok (.getfield 93, 3) := by decide +kernel
theorem dX6_takeMarket_78 : decode cX6_takeMarket 78 = .ok (.if_icmp .ge 78, 3) := by decide +kernel
theorem dX6_takeMarket_81 : decode cX6_takeMarket 81 = .ok (.aload_n 0, 1) := by decide +kernel
theorem dX6_takeMarket_82 : decode cX6_takeMarket 82 = .ok (.getfield 29, 3) := by decide +kernel
theorem dX6_takeMarket_85 : decode cX6_takeMarket 85 = .ok (.iload_n 1, 1) := by decide +kernel
theorem dX6_takeMarket_86 : decode cX6_takeMarket 86 = .ok (.aload_n 0, 1) := by decide +kernel
theorem dX6_takeMarket_87 : decode cX6_takeMarket 87 = .ok (.getfield 47, 3) := by decide +kernel
theorem dX6_takeMarket_90 : decode cX6_takeMarket 90 = .ok (.iconst 4, 1) := by decide +kernel
theorem dX6_takeMarket_91 : decode cX6_takeMarket 91 = .ok (.iload_n 1, 1) := by decide +kernel
theorem dX6_takeMarket_92 : decode cX6_takeMarket 92 = .ok (.imul, 1) := by decide +kernel
theorem dX6_takeMarket_93 : decode cX6_takeMarket 93 = .ok (.iaload, 1) := by decide +kernel
theorem dX6_takeMarket_94 : decode cX6_takeMarket 94 = .ok (.iastore, 1) := by decide +kernel
theorem dX6_takeMarket_95 : decode cX6_takeMarket 95 = .ok (.aload_n 0, 1) := by decide +kernel
theorem dX6_takeMarket_96 : decode cX6_takeMarket 96 = .ok (.getfield 32, 3) := by decide +kernel
theorem dX6_takeMarket_99 : decode cX6_takeMarket 99 = .ok (.iload_n 1, 1) := by decide +kernel
theorem dX6_takeMarket_100 : decode cX6_takeMarket 100 = .ok (.aload_n 0, 1) := by decide +kernel
theorem dX6_takeMarket_101 : decode cX6_takeMarket 101 = .ok (.getfield 47, 3) := by decide +kernel
theorem dX6_takeMarket_104 : decode cX6_takeMarket 104 = .ok (.iconst 4, 1) := by decide +kernel
theorem dX6_takeMarket_105 : decode cX6_takeMarket 105 = .ok (.iload_n 1, 1) := by decide +kernel
theorem dX6_takeMarket_106 : decode cX6_takeMarket 106 = .ok (.imul, 1) := by decide +kernel
theorem dX6_takeMarket_107 : decode cX6_takeMarket 107 = .ok (.iconst 1, 1) := by decide +kernel
theorem dX6_takeMarket_108 : decode cX6_takeMarket 108 = .ok (.iadd, 1) := by decide +kernel
theorem dX6_takeMarket_109 : decode cX6_takeMarket 109 = .ok (.iaload, 1) := by decide +kernel
theorem dX6_takeMarket_110 : decode cX6_takeMarket 110 = .ok (.iastore, 1) := by decide +kernel
theorem dX6_takeMarket_111 : decode cX6_takeMarket 111 = .ok (.aload_n 0, 1) := by decide +kernel
theorem dX6_takeMarket_112 : decode cX6_takeMarket 112 = .ok (.getfield 35, 3) := by decide +kernel
theorem dX6_takeMarket_115 : decode cX6_takeMarket 115 = .ok (.iload_n 1, 1) := by decide +kernel
theorem dX6_takeMarket_116 : decode cX6_takeMarket 116 = .ok (.aload_n 0, 1) := by decide +kernel
theorem dX6_takeMarket_117 : decode cX6_takeMarket 117 = .ok (.getfield 47, 3) := by decide +kernel
theorem dX6_takeMarket_120 : decode cX6_takeMarket 120 = .ok (.iconst 4, 1) := by decide +kernel
theorem dX6_takeMarket_121 : decode cX6_takeMarket 121 = .ok (.iload_n 1, 1) := by decide +kernel
theorem dX6_takeMarket_122 : decode cX6_takeMarket 122 = .ok (.imul, 1) := by decide +kernel
theorem dX6_takeMarket_123 : decode cX6_takeMarket 123 = .ok (.iconst 2, 1) := by decide +kernel
theorem dX6_takeMarket_124 : decode cX6_takeMarket 124 = .ok (.iadd, 1) := by decide +kernel
theorem dX6_takeMarket_125 : decode cX6_takeMarket 125 = .ok (.iaload, 1) := by decide +kernel
theorem dX6_takeMarket_126 : decode cX6_takeMarket 126 = .ok (.iastore, 1) := by decide +kernel
theorem dX6_takeMarket_127 : decode cX6_takeMarket 127 = .ok (.aload_n 0, 1) := by decide +kernel
theorem dX6_takeMarket_128 : decode cX6_takeMarket 128 = .ok (.getfield 38, 3) := by decide +kernel
theorem dX6_takeMarket_131 : decode cX6_takeMarket 131 = .ok (.iload_n 1, 1) := by decide +kernel
theorem dX6_takeMarket_132 : decode cX6_takeMarket 132 = .ok (.aload_n 0, 1) := by decide +kernel
theorem dX6_takeMarket_133 : decode cX6_takeMarket 133 = .ok (.getfield 47, 3) := by decide +kernel
theorem dX6_takeMarket_136 : decode cX6_takeMarket 136 = .ok (.iconst 4, 1) := by decide +kernel
theorem dX6_takeMarket_137 : decode cX6_takeMarket 137 = .ok (.iload_n 1, 1) := by decide +kernel
theorem dX6_takeMarket_138 : decode cX6_takeMarket 138 = .ok (.imul, 1) := by decide +kernel
theorem dX6_takeMarket_139 : decode cX6_takeMarket 139 = .ok (.iconst 3, 1) := by decide +kernel
theorem dX6_takeMarket_140 : decode cX6_takeMarket 140 = .ok (.iadd, 1) := by decide +kernel
theorem dX6_takeMarket_141 : decode cX6_takeMarket 141 = .ok (.iaload, 1) := by decide +kernel
theorem dX6_takeMarket_142 : decode cX6_takeMarket 142 = .ok (.iastore, 1) := by decide +kernel
theorem dX6_takeMarket_143 : decode cX6_takeMarket 143 = .ok (.aload_n 0, 1) := by decide +kernel
theorem dX6_takeMarket_144 : decode cX6_takeMarket 144 = .ok (.getfield 41, 3) := by decide +kernel
theorem dX6_takeMarket_147 : decode cX6_takeMarket 147 = .ok (.iload_n 1, 1) := by decide +kernel
theorem dX6_takeMarket_148 : decode cX6_takeMarket 148 = .ok (.iconst 0, 1) := by decide +kernel
theorem dX6_takeMarket_149 : decode cX6_takeMarket 149 = .ok (.bastore, 1) := by decide +kernel
theorem dX6_takeMarket_150 : decode cX6_takeMarket 150 = .ok (.iinc 1 1, 3) := by decide +kernel
theorem dX6_takeMarket_153 : decode cX6_takeMarket 153 = .ok (.goto (-80), 3) := by decide +kernel
theorem dX6_takeMarket_156 : decode cX6_takeMarket 156 = .ok (.aload_n 0, 1) := by decide +kernel
theorem dX6_takeMarket_157 : decode cX6_takeMarket 157 = .ok (.iconst 0, 1) := by decide +kernel
theorem dX6_takeMarket_158 : decode cX6_takeMarket 158 = .ok (.putfield 135, 3) := by decide +kernel
theorem dX6_takeMarket_161 : decode cX6_takeMarket 161 = .ok (.return_, 1) := by decide +kernel
theorem dX6_readMarket_0 : decode cX6_readMarket 0 = .ok (.aload_n 0, 1) := by decide +kernel
theorem dX6_readMarket_1 : decode cX6_readMarket 1 = .ok (.iconst 0, 1) := by decide +kernel
theorem dX6_readMarket_2 : decode cX6_readMarket 2 = .ok (.putfield 126, 3) := by decide +kernel
theorem dX6_readMarket_5 : decode cX6_readMarket 5 = .ok (.aload_n 0, 1) := by decide +kernel
theorem dX6_readMarket_6 : decode cX6_readMarket 6 = .ok (.iconst 0, 1) := by decide +kernel
theorem dX6_readMarket_7 : decode cX6_readMarket 7 = .ok (.putfield 132, 3) := by decide +kernel
theorem dX6_readMarket_10 : decode cX6_readMarket 10 = .ok (.aload_n 0, 1) := by decide +kernel
theorem dX6_readMarket_11 : decode cX6_readMarket 11 = .ok (.iload_n 1, 1) := by decide +kernel
theorem dX6_readMarket_12 : decode cX6_readMarket 12 = .ok (.bipush 109, 2) := by decide +kernel
theorem dX6_readMarket_14 : decode cX6_readMarket 14 = .ok (.invokevirtual 138, 3) := by decide +kernel
theorem dX6_readMarket_17 : decode cX6_readMarket 17 = .ok (.ifCond .ne 5, 3) := by decide +kernel
theorem dX6_readMarket_20 : decode cX6_readMarket 20 = .ok (.iconst 0, 1) := by decide +kernel
theorem dX6_readMarket_21 : decode cX6_readMarket 21 = .ok (.ireturn, 1) := by decide +kernel
theorem dX6_readMarket_22 : decode cX6_readMarket 22 = .ok (.aload_n 0, 1) := by decide +kernel
theorem dX6_readMarket_23 : decode cX6_readMarket 23 = .ok (.aload_n 0, 1) := by decide +kernel
theorem dX6_readMarket_24 : decode cX6_readMarket 24 = .ok (.iload_n 1, 1) := by decide +kernel
theorem dX6_readMarket_25 : decode cX6_readMarket 25 = .ok (.iconst 1, 1) := by decide +kernel
theorem dX6_readMarket_26 : decode cX6_readMarket 26 = .ok (.bipush 9, 2) := by decide +kernel
theorem dX6_readMarket_28 : decode cX6_readMarket 28 = .ok (.invokevirtual 142, 3) := by decide +kernel
theorem dX6_readMarket_31 : decode cX6_readMarket 31 = .ok (.putfield 120, 3) := by decide +kernel
theorem dX6_readMarket_34 : decode cX6_readMarket 34 = .ok (.aload_n 0, 1) := by decide +kernel
theorem dX6_readMarket_35 : decode cX6_readMarket 35 = .ok (.getfield 120, 3) := by decide +kernel
theorem dX6_readMarket_38 : decode cX6_readMarket 38 = .ok (.bipush (-9), 2) := by decide +kernel
theorem dX6_readMarket_40 : decode cX6_readMarket 40 = .ok (.if_icmp .eq 21, 3) := by decide +kernel
theorem dX6_readMarket_43 : decode cX6_readMarket 43 = .ok (.aload_n 0, 1) := by decide +kernel
theorem dX6_readMarket_44 : decode cX6_readMarket 44 = .ok (.iload_n 1, 1) := by decide +kernel
theorem dX6_readMarket_45 : decode cX6_readMarket 45 = .ok (.bipush 44, 2) := by decide +kernel
theorem dX6_readMarket_47 : decode cX6_readMarket 47 = .ok (.invokevirtual 138, 3) := by decide +kernel
theorem dX6_readMarket_50 : decode cX6_readMarket 50 = .ok (.ifCond .eq 11, 3) := by decide +kernel
theorem dX6_readMarket_53 : decode cX6_readMarket 53 = .ok (.aload_n 0, 1) := by decide +kernel
theorem dX6_readMarket_54 : decode cX6_readMarket 54 = .ok (.iload_n 1, 1) := by decide +kernel
theorem dX6_readMarket_55 : decode cX6_readMarket 55 = .ok (.invokevirtual 146, 3) := by decide +kernel
theorem dX6_readMarket_58 : decode cX6_readMarket 58 = .ok (.ifCond .ne 5, 3) := by decide +kernel
theorem dX6_readMarket_61 : decode cX6_readMarket 61 = .ok (.iconst 0, 1) := by decide +kernel
theorem dX6_readMarket_62 : decode cX6_readMarket 62 = .ok (.ireturn, 1) := by decide +kernel
theorem dX6_readMarket_63 : decode cX6_readMarket 63 = .ok (.aload_n 0, 1) := by decide +kernel
theorem dX6_readMarket_64 : decode cX6_readMarket 64 = .ok (.getfield 126, 3) := by decide +kernel
theorem dX6_readMarket_67 : decode cX6_readMarket 67 = .ok (.iconst 4, 1) := by decide +kernel
theorem dX6_readMarket_68 : decode cX6_readMarket 68 = .ok (.if_icmp .ge 23, 3) := by decide +kernel
theorem dX6_readMarket_71 : decode cX6_readMarket 71 = .ok (.aload_n 0, 1) := by decide +kernel
theorem dX6_readMarket_72 : decode cX6_readMarket 72 = .ok (.iload_n 1, 1) := by decide +kernel
theorem dX6_readMarket_73 : decode cX6_readMarket 73 = .ok (.bipush 44, 2) := by decide +kernel
theorem dX6_readMarket_75 : decode cX6_readMarket 75 = .ok (.invokevirtual 138, 3) := by decide +kernel
theorem dX6_readMarket_78 : decode cX6_readMarket 78 = .ok (.ifCond .eq 13, 3) := by decide +kernel
theorem dX6_readMarket_81 : decode cX6_readMarket 81 = .ok (.aload_n 0, 1) := by decide +kernel
theorem dX6_readMarket_82 : decode cX6_readMarket 82 = .ok (.iload_n 1, 1) := by decide +kernel
theorem dX6_readMarket_83 : decode cX6_readMarket 83 = .ok (.invokevirtual 146, 3) := by decide +kernel
theorem dX6_readMarket_86 : decode cX6_readMarket 86 = .ok (.ifCond .ne (-23), 3) := by decide +kernel
theorem dX6_readMarket_89 : decode cX6_readMarket 89 = .ok (.iconst 0, 1) := by decide +kernel
theorem dX6_readMarket_90 : decode cX6_readMarket 90 = .ok (.ireturn, 1) := by decide +kernel
theorem dX6_readMarket_91 : decode cX6_readMarket 91 = .ok (.aload_n 0, 1) := by decide +kernel
theorem dX6_readMarket_92 : decode cX6_readMarket 92 = .ok (.getfield 132, 3) := by decide +kernel
theorem dX6_readMarket_95 : decode cX6_readMarket 95 = .ok (.ifCond .eq 20, 3) := by decide +kernel
theorem dX6_readMarket_98 : decode cX6_readMarket 98 = .ok (.aload_n 0, 1) := by decide +kernel
theorem dX6_readMarket_99 : decode cX6_readMarket 99 = .ok (.getfield 132, 3) := by decide +kernel
theorem dX6_readMarket_102 : decode cX6_readMarket 102 = .ok (.bipush 6, 2) := by decide +kernel
theorem dX6_readMarket_104 : decode cX6_readMarket 104 = .ok (.if_icmp .ge 31, 3) := by decide +kernel
theorem dX6_readMarket_107 : decode cX6_readMarket 107 = .ok (.aload_n 0, 1) := by decide +kernel
theorem dX6_readMarket_108 : decode cX6_readMarket 108 = .ok (.getfield 96, 3) := by decide +kernel
theorem dX6_readMarket_111 : decode cX6_readMarket 111 = .ok (.iload_n 1, 1) := by decide +kernel
theorem dX6_readMarket_112 : decode cX6_readMarket 112 = .ok (.if_icmp .ge 23, 3) := by decide +kernel
theorem dX6_readMarket_115 : decode cX6_readMarket 115 = .ok (.aload_n 0, 1) := by decide +kernel
theorem dX6_readMarket_116 : decode cX6_readMarket 116 = .ok (.iload_n 1, 1) := by decide +kernel
theorem dX6_readMarket_117 : decode cX6_readMarket 117 = .ok (.bipush 59, 2) := by decide +kernel
theorem dX6_readMarket_119 : decode cX6_readMarket 119 = .ok (.invokevirtual 138, 3) := by decide +kernel
theorem dX6_readMarket_122 : decode cX6_readMarket 122 = .ok (.ifCond .eq 11, 3) := by decide +kernel
theorem dX6_readMarket_125 : decode cX6_readMarket 125 = .ok (.aload_n 0, 1) := by decide +kernel
theorem dX6_readMarket_126 : decode cX6_readMarket 126 = .ok (.iload_n 1, 1) := by decide +kernel
theorem dX6_readMarket_127 : decode cX6_readMarket 127 = .ok (.invokevirtual 149, 3) := by decide +kernel
theorem dX6_readMarket_130 : decode cX6_readMarket 130 = .ok (.ifCond .ne (-39), 3) := by decide +kernel
theorem dX6_readMarket_133 : decode cX6_readMarket 133 = .ok (.iconst 0, 1) := by decide +kernel
theorem dX6_readMarket_134 : decode cX6_readMarket 134 = .ok (.ireturn, 1) := by decide +kernel
theorem dX6_readMarket_135 : decode cX6_readMarket 135 = .ok (.aload_n 0, 1) := by decide +kernel
theorem dX6_readMarket_136 : decode cX6_readMarket 136 = .ok (.getfield 96, 3) := by decide +kernel
theorem dX6_readMarket_139 : decode cX6_readMarket 139 = .ok (.iload_n 1, 1) := by decide +kernel
theorem dX6_readMarket_140 : decode cX6_readMarket 140 = .ok (.if_icmp .ne 7, 3) := by decide +kernel
theorem dX6_readMarket_143 : decode cX6_readMarket 143 = .ok (.iconst 1, 1) := by decide +kernel
theorem dX6_readMarket_144 : decode cX6_readMarket 144 = .ok (.goto 4, 3) := by decide +kernel
theorem dX6_readMarket_147 : decode cX6_readMarket 147 = .ok (.iconst 0, 1) := by decide +kernel
theorem dX6_readMarket_148 : decode cX6_readMarket 148 = .ok (.ireturn, 1) := by decide +kernel
theorem dX6_readPerson_0 : decode cX6_readPerson 0 = .ok (.aload_n 0, 1) := by decide +kernel
theorem dX6_readPerson_1 : decode cX6_readPerson 1 = .ok (.iload_n 1, 1) := by decide +kernel
theorem dX6_readPerson_2 : decode cX6_readPerson 2 = .ok (.iconst 0, 1) := by decide +kernel
theorem dX6_readPerson_3 : decode cX6_readPerson 3 = .ok (.bipush 9, 2) := by decide +kernel
theorem dX6_readPerson_5 : decode cX6_readPerson 5 = .ok (.invokevirtual 142, 3) := by decide +kernel
theorem dX6_readPerson_8 : decode cX6_readPerson 8 = .ok (.istore_n 2, 1) := by decide +kernel
theorem dX6_readPerson_9 : decode cX6_readPerson 9 = .ok (.iload_n 2, 1) := by decide +kernel
theorem dX6_readPerson_10 : decode cX6_readPerson 10 = .ok (.bipush (-9), 2) := by decide +kernel
theorem dX6_readPerson_12 : decode cX6_readPerson 12 = .ok (.if_icmp .ne 5, 3) := by decide +kernel
theorem dX6_readPerson_15 : decode cX6_readPerson 15 = .ok (.iconst 0, 1) := by decide +kernel
theorem dX6_readPerson_16 : decode cX6_readPerson 16 = .ok (.ireturn, 1) := by decide +kernel
theorem dX6_readPerson_17 : decode cX6_readPerson 17 = .ok (.aload_n 0, 1) := by decide +kernel
theorem dX6_readPerson_18 : decode cX6_readPerson 18 = .ok (.iload_n 1, 1) := by decide +kernel
theorem dX6_readPerson_19 : decode cX6_readPerson 19 = .ok (.iconst 0, 1) := by decide +kernel
theorem dX6_readPerson_20 : decode cX6_readPerson 20 = .ok (.bipush 9, 2) := by decide +kernel
theorem dX6_readPerson_22 : decode cX6_readPerson 22 = .ok (.invokevirtual 142, 3) := by decide +kernel
theorem dX6_readPerson_25 : decode cX6_readPerson 25 = .ok (.istore_n 3, 1) := by decide +kernel
theorem dX6_readPerson_26 : decode cX6_readPerson 26 = .ok (.iload_n 3, 1) := by decide +kernel
theorem dX6_readPerson_27 : decode cX6_readPerson 27 = .ok (.bipush (-9), 2) := by decide +kernel
theorem dX6_readPerson_29 : decode cX6_readPerson 29 = .ok (.if_icmp .ne 5, 3) := by decide +kernel
theorem dX6_readPerson_32 : decode cX6_readPerson 32 = .ok (.iconst 0, 1) := by decide +kernel
theorem dX6_readPerson_33 : decode cX6_readPerson 33 = .ok (.ireturn, 1) := by decide +kernel
theorem dX6_readPerson_34 : decode cX6_readPerson 34 = .ok (.aload_n 0, 1) := by decide +kernel
theorem dX6_readPerson_35 : decode cX6_readPerson 35 = .ok (.getfield 44, 3) := by decide +kernel
theorem dX6_readPerson_38 : decode cX6_readPerson 38 = .ok (.aload_n 0, 1) := by decide +kernel
theorem dX6_readPerson_39 : decode cX6_readPerson 39 = .ok (.getfield 126, 3) := by decide +kernel
theorem dX6_readPerson_42 : decode cX6_readPerson 42 = .ok (.bipush 10, 2) := by decide +kernel
theorem dX6_readPerson_44 : decode cX6_readPerson 44 = .ok (.iload_n 2, 1) := by decide +kernel
theorem dX6_readPerson_45 : decode cX6_readPerson 45 = .ok (.imul, 1) := by decide +kernel
theorem dX6_readPerson_46 : decode cX6_readPerson 46 = .ok (.iload_n 3, 1) := by decide +kernel
theorem dX6_readPerson_47 : decode cX6_readPerson 47 = .ok (.iadd, 1) := by decide +kernel
theorem dX6_readPerson_48 : decode cX6_readPerson 48 = .ok (.iastore, 1) := by decide +kernel
theorem dX6_readPerson_49 : decode cX6_readPerson 49 = .ok (.aload_n 0, 1) := by decide +kernel
theorem dX6_readPerson_50 : decode cX6_readPerson 50 = .ok (.dup, 1) := by decide +kernel
theorem dX6_readPerson_51 : decode cX6_readPerson 51 = .ok (.getfield 126, 3) := by decide +kernel
theorem dX6_readPerson_54 : decode cX6_readPerson 54 = .ok (.iconst 1, 1) := by decide +kernel
theorem dX6_readPerson_55 : decode cX6_readPerson 55 = .ok (.iadd, 1) := by decide +kernel
theorem dX6_readPerson_56 : decode cX6_readPerson 56 = .ok (.putfield 126, 3) := by decide +kernel
theorem dX6_readPerson_59 : decode cX6_readPerson 59 = .ok (.iconst 1, 1) := by decide +kernel
theorem dX6_readPerson_60 : decode cX6_readPerson 60 = .ok (.ireturn, 1) := by decide +kernel
theorem dX6_readMorning_0 : decode cX6_readMorning 0 = .ok (.aload_n 0, 1) := by decide +kernel
theorem dX6_readMorning_1 : decode cX6_readMorning 1 = .ok (.getfield 96, 3) := by decide +kernel
theorem dX6_readMorning_4 : decode cX6_readMorning 4 = .ok (.iload_n 1, 1) := by decide +kernel
theorem dX6_readMorning_5 : decode cX6_readMorning 5 = .ok (.if_icmp .ge 15, 3) := by decide +kernel
theorem dX6_readMorning_8 : decode cX6_readMorning 8 = .ok (.aload_n 0, 1) := by decide +kernel
theorem dX6_readMorning_9 : decode cX6_readMorning 9 = .ok (.getfield 16, 3) := by decide +kernel
theorem dX6_readMorning_12 : decode cX6_readMorning 12 = .ok (.aload_n 0, 1) := by decide +kernel
theorem dX6_readMorning_13 : decode cX6_readMorning 13 = .ok (.getfield 96, 3) := by decide +kernel
theorem dX6_readMorning_16 : decode cX6_readMorning 16 = .ok (.iaload, 1) := by decide +kernel
theorem dX6_readMorning_17 : decode cX6_readMorning 17 = .ok (.goto 4, 3) := by decide +kernel
theorem dX6_readMorning_20 : decode cX6_readMorning 20 = .ok (.iconst 0, 1) := by decide +kernel
theorem dX6_readMorning_21 : decode cX6_readMorning 21 = .ok (.istore_n 2, 1) := by decide +kernel
theorem dX6_readMorning_22 : decode cX6_readMorning 22 = .ok (.iconst 4, 1) := by decide +kernel
theorem dX6_readMorning_23 : decode cX6_readMorning 23 = .ok (.aload_n 0, 1) := by decide +kernel
theorem dX6_readMorning_24 : decode cX6_readMorning 24 = .ok (.getfield 132, 3) := by decide +kernel
theorem dX6_readMorning_27 : decode cX6_readMorning 27 = .ok (.imul, 1) := by decide +kernel
theorem dX6_readMorning_28 : decode cX6_readMorning 28 = .ok (.istore_n 3, 1) := by decide +kernel
theorem dX6_readMorning_29 : decode cX6_readMorning 29 = .ok (.aload_n 0, 1) := by decide +kernel
theorem dX6_readMorning_30 : decode cX6_readMorning 30 = .ok (.getfield 47, 3) := by decide +kernel
theorem dX6_readMorning_33 : decode cX6_readMorning 33 = .ok (.iload_n 3, 1) := by decide +kernel
theorem dX6_readMorning_34 : decode cX6_readMorning 34 = .ok (.iload_n 2, 1) := by decide +kernel
theorem dX6_readMorning_35 : decode cX6_readMorning 35 = .ok (.bipush 99, 2) := by decide +kernel
theorem dX6_readMorning_37 : decode cX6_readMorning 37 = .ok (.if_icmp .ne 7, 3) := by decide +kernel
theorem dX6_readMorning_40 : decode cX6_readMorning 40 = .ok (.iconst 0, 1) := by decide +kernel
theorem dX6_readMorning_41 : decode cX6_readMorning 41 = .ok (.goto 25, 3) := by decide +kernel
theorem dX6_readMorning_44 : decode cX6_readMorning 44 = .ok (.iload_n 2, 1) := by decide +kernel
theorem dX6_readMorning_45 : decode cX6_readMorning 45 = .ok (.bipush 102, 2) := by decide +kernel
theorem dX6_readMorning_47 : decode cX6_readMorning 47 = .ok (.if_icmp .ne 7, 3) := by decide +kernel
theorem dX6_readMorning_50 : decode cX6_readMorning 50 = .ok (.iconst 1, 1) := by decide +kernel
theorem dX6_readMorning_51 : decode cX6_readMorning 51 = .ok (.goto 15, 3) := by decide +kernel
theorem dX6_readMorning_54 : decode cX6_readMorning 54 = .ok (.iload_n 2, 1) := by decide +kernel
theorem dX6_readMorning_55 : decode cX6_readMorning 55 = .ok (.bipush 112, 2) := by decide +kernel
theorem dX6_readMorning_57 : decode cX6_readMorning 57 = .ok (.if_icmp .ne 7, 3) := by decide +kernel
theorem dX6_readMorning_60 : decode cX6_readMorning 60 = .ok (.iconst 2, 1) := by decide +kernel
theorem dX6_readMorning_61 : decode cX6_readMorning 61 = .ok (.goto 5, 3) := by decide +kernel
theorem dX6_readMorning_64 : decode cX6_readMorning 64 = .ok (.bipush (-9), 2) := by decide +kernel
theorem dX6_readMorning_66 : decode cX6_readMorning 66 = .ok (.iastore, 1) := by decide +kernel
theorem dX6_readMorning_67 : decode cX6_readMorning 67 = .ok (.aload_n 0, 1) := by decide +kernel
theorem dX6_readMorning_68 : decode cX6_readMorning 68 = .ok (.getfield 47, 3) := by decide +kernel
theorem dX6_readMorning_71 : decode cX6_readMorning 71 = .ok (.iload_n 3, 1) := by decide +kernel
theorem dX6_readMorning_72 : decode cX6_readMorning 72 = .ok (.iaload, 1) := by decide +kernel
theorem dX6_readMorning_73 : decode cX6_readMorning 73 = .ok (.bipush (-9), 2) := by decide +kernel
theorem dX6_readMorning_75 : decode cX6_readMorning 75 = .ok (.if_icmp .ne 5, 3) := by decide +kernel
theorem dX6_readMorning_78 : decode cX6_readMorning 78 = .ok (.iconst 0, 1) := by decide +kernel
theorem dX6_readMorning_79 : decode cX6_readMorning 79 = .ok (.ireturn, 1) := by decide +kernel
theorem dX6_readMorning_80 : decode cX6_readMorning 80 = .ok (.aload_n 0, 1) := by decide +kernel
theorem dX6_readMorning_81 : decode cX6_readMorning 81 = .ok (.dup, 1) := by decide +kernel
theorem dX6_readMorning_82 : decode cX6_readMorning 82 = .ok (.getfield 96, 3) := by decide +kernel
theorem dX6_readMorning_85 : decode cX6_readMorning 85 = .ok (.iconst 1, 1) := by decide +kernel
theorem dX6_readMorning_86 : decode cX6_readMorning 86 = .ok (.iadd, 1) := by decide +kernel
theorem dX6_readMorning_87 : decode cX6_readMorning 87 = .ok (.putfield 96, 3) := by decide +kernel
theorem dX6_readMorning_90 : decode cX6_readMorning 90 = .ok (.iconst 1, 1) := by decide +kernel
theorem dX6_readMorning_91 : decode cX6_readMorning 91 = .ok (.istore 4, 2) := by decide +kernel
theorem dX6_readMorning_93 : decode cX6_readMorning 93 = .ok (.iload 4, 2) := by decide +kernel
theorem dX6_readMorning_95 : decode cX6_readMorning 95 = .ok (.iconst 4, 1) := by decide +kernel
theorem dX6_readMorning_96 : decode cX6_readMorning 96 = .ok (.if_icmp .ge 57, 3) := by decide +kernel
theorem dX6_readMorning_99 : decode cX6_readMorning 99 = .ok (.aload_n 0, 1) := by decide +kernel
theorem dX6_readMorning_100 : decode cX6_readMorning 100 = .ok (.getfield 47, 3) := by decide +kernel
theorem dX6_readMorning_103 : decode cX6_readMorning 103 = .ok (.iload_n 3, 1) := by decide +kernel
theorem dX6_readMorning_104 : decode cX6_readMorning 104 = .ok (.iload 4, 2) := by decide +kernel
theorem dX6_readMorning_106 : decode cX6_readMorning 106 = .ok (.iadd, 1) := by decide +kernel
theorem dX6_readMorning_107 : decode cX6_readMorning 107 = .ok (.aload_n 0, 1) := by decide +kernel
theorem dX6_readMorning_108 : decode cX6_readMorning 108 = .ok (.iload_n 1, 1) := by decide +kernel
theorem dX6_readMorning_109 : decode cX6_readMorning 109 = .ok (.iconst 0, 1) := by decide +kernel
theorem dX6_readMorning_110 : decode cX6_readMorning 110 = .ok (.iload 4, 2) := by decide +kernel
theorem dX6_readMorning_112 : decode cX6_readMorning 112 = .ok (.iconst 1, 1) := by decide +kernel
theorem dX6_readMorning_113 : decode cX6_readMorning 113 = .ok (.if_icmp .ne 12, 3) := by decide +kernel
theorem dX6_readMorning_116 : decode cX6_readMorning 116 = .ok (.aload_n 0, 1) := by decide +kernel
theorem dX6_readMorning_117 : decode cX6_readMorning 117 = .ok (.getfield 126, 3) := by decide +kernel
theorem dX6_readMorning_120 : decode cX6_readMorning 120 = .ok (.iconst 1, 1) := by decide +kernel
theorem dX6_readMorning_121 : decode cX6_readMorning 121 = .ok (.isub, 1) := by decide +kernel
theorem dX6_readMorning_122 : decode cX6_readMorning 122 = .ok (.goto 5, 3) := by decide +kernel
theorem dX6_readMorning_125 : decode cX6_readMorning 125 = .ok (.bipush 9, 2) := by decide +kernel
theorem dX6_readMorning_127 : decode cX6_readMorning 127 = .ok (.invokevirtual 142, 3) := by decide +kernel
theorem dX6_readMorning_130 : decode cX6_readMorning 130 = .ok (.iastore, 1) := by decide +kernel
theorem dX6_readMorning_131 : decode cX6_readMorning 131 = .ok (.aload_n 0, 1) := by decide +kernel
theorem dX6_readMorning_132 : decode cX6_readMorning 132 = .ok (.getfield 47, 3) := by decide +kernel
theorem dX6_readMorning_135 : decode cX6_readMorning 135 = .ok (.iload_n 3, 1) := by decide +kernel
theorem dX6_readMorning_136 : decode cX6_readMorning 136 = .ok (.iload 4, 2) := by decide +kernel
theorem dX6_readMorning_138 : decode cX6_readMorning 138 = .ok (.iadd, 1) := by decide +kernel
theorem dX6_readMorning_139 : decode cX6_readMorning 139 = .ok (.iaload, 1) := by decide +kernel
theorem dX6_readMorning_140 : decode cX6_readMorning 140 = .ok (.bipush (-9), 2) := by decide +kernel
theorem dX6_readMorning_142 : decode cX6_readMorning 142 = .ok (.if_icmp .ne 5, 3) := by decide +kernel
theorem dX6_readMorning_145 : decode cX6_readMorning 145 = .ok (.iconst 0, 1) := by decide +kernel
theorem dX6_readMorning_146 : decode cX6_readMorning 146 = .ok (.ireturn, 1) := by decide +kernel
theorem dX6_readMorning_147 : decode cX6_readMorning 147 = .ok (.iinc 4 1, 3) := by decide +kernel
theorem dX6_readMorning_150 : decode cX6_readMorning 150 = .ok (.goto (-57), 3) := by decide +kernel
theorem dX6_readMorning_153 : decode cX6_readMorning 153 = .ok (.aload_n 0, 1) := by decide +kernel
theorem dX6_readMorning_154 : decode cX6_readMorning 154 = .ok (.dup, 1) := by decide +kernel
theorem dX6_readMorning_155 : decode cX6_readMorning 155 = .ok (.getfield 132, 3) := by decide +kernel
theorem dX6_readMorning_158 : decode cX6_readMorning 158 = .ok (.iconst 1, 1) := by decide +kernel
theorem dX6_readMorning_159 : decode cX6_readMorning 159 = .ok (.iadd, 1) := by decide +kernel
theorem dX6_readMorning_160 : decode cX6_readMorning 160 = .ok (.putfield 132, 3) := by decide +kernel
theorem dX6_readMorning_163 : decode cX6_readMorning 163 = .ok (.iconst 1, 1) := by decide +kernel
theorem dX6_readMorning_164 : decode cX6_readMorning 164 = .ok (.ireturn, 1) := by decide +kernel
theorem dX6_freshOn_0 : decode cX6_freshOn 0 = .ok (.iload_n 2, 1) := by decide +kernel
theorem dX6_freshOn_1 : decode cX6_freshOn 1 = .ok (.aload_n 0, 1) := by decide +kernel
theorem dX6_freshOn_2 : decode cX6_freshOn 2 = .ok (.getfield 35, 3) := by decide +kernel
theorem dX6_freshOn_5 : decode cX6_freshOn 5 = .ok (.iload_n 1, 1) := by decide +kernel
theorem dX6_freshOn_6 : decode cX6_freshOn 6 = .ok (.iaload, 1) := by decide +kernel
theorem dX6_freshOn_7 : decode cX6_freshOn 7 = .ok (.if_icmp .ge 5, 3) := by decide +kernel
theorem dX6_freshOn_10 : decode cX6_freshOn 10 = .ok (.iconst 0, 1) := by decide +kernel
theorem dX6_freshOn_11 : decode cX6_freshOn 11 = .ok (.ireturn, 1) := by decide +kernel
theorem dX6_freshOn_12 : decode cX6_freshOn 12 = .ok (.iload_n 2, 1) := by decide +kernel
theorem dX6_freshOn_13 : decode cX6_freshOn 13 = .ok (.aload_n 0, 1) := by decide +kernel
theorem dX6_freshOn_14 : decode cX6_freshOn 14 = .ok (.getfield 35, 3) := by decide +kernel
theorem dX6_freshOn_17 : decode cX6_freshOn 17 = .ok (.iload_n 1, 1) := by decide +kernel
theorem dX6_freshOn_18 : decode cX6_freshOn 18 = .ok (.iaload, 1) := by decide +kernel
theorem dX6_freshOn_19 : decode cX6_freshOn 19 = .ok (.isub, 1) := by decide +kernel
theorem dX6_freshOn_20 : decode cX6_freshOn 20 = .ok (.istore_n 3, 1) := by decide +kernel
theorem dX6_freshOn_21 : decode cX6_freshOn 21 = .ok (.aload_n 0, 1) := by decide +kernel
theorem dX6_freshOn_22 : decode cX6_freshOn 22 = .ok (.getfield 38, 3) := by decide +kernel
theorem dX6_freshOn_25 : decode cX6_freshOn 25 = .ok (.iload_n 1, 1) := by decide +kernel
theorem dX6_freshOn_26 : decode cX6_freshOn 26 = .ok (.iaload, 1) := by decide +kernel
theorem dX6_freshOn_27 : decode cX6_freshOn 27 = .ok (.aload_n 0, 1) := by decide +kernel
theorem dX6_freshOn_28 : decode cX6_freshOn 28 = .ok (.getfield 29, 3) := by decide +kernel
theorem dX6_freshOn_31 : decode cX6_freshOn 31 = .ok (.iload_n 1, 1) := by decide +kernel
theorem dX6_freshOn_32 : decode cX6_freshOn 32 = .ok (.iaload, 1) := by decide +kernel
theorem dX6_freshOn_33 : decode cX6_freshOn 33 = .ok (.iconst 1, 1) := by decide +kernel
theorem dX6_freshOn_34 : decode cX6_freshOn 34 = .ok (.if_icmp .ne 9, 3) := by decide +kernel
theorem dX6_freshOn_37 : decode cX6_freshOn 37 = .ok (.iload_n 3, 1) := by decide +kernel
theorem dX6_freshOn_38 : decode cX6_freshOn 38 = .ok (.iconst 3, 1) := by decide +kernel
theorem dX6_freshOn_39 : decode cX6_freshOn 39 = .ok (.idiv, 1) := by decide +kernel
theorem dX6_freshOn_40 : decode cX6_freshOn 40 = .ok (.goto 4, 3) := by decide +kernel
theorem dX6_freshOn_43 : decode cX6_freshOn 43 = .ok (.iload_n 3, 1) := by decide +kernel
theorem dX6_freshOn_44 : decode cX6_freshOn 44 = .ok (.isub, 1) := by decide +kernel
theorem dX6_freshOn_45 : decode cX6_freshOn 45 = .ok (.istore 4, 2) := by decide +kernel
theorem dX6_freshOn_47 : decode cX6_freshOn 47 = .ok (.iload 4, 2) := by decide +kernel
theorem dX6_freshOn_49 : decode cX6_freshOn 49 = .ok (.ifCond .ge 5, 3) := by decide +kernel
theorem dX6_freshOn_52 : decode cX6_freshOn 52 = .ok (.iconst 0, 1) := by decide +kernel
theorem dX6_freshOn_53 : decode cX6_freshOn 53 = .ok (.ireturn, 1) := by decide +kernel
theorem dX6_freshOn_54 : decode cX6_freshOn 54 = .ok (.aload_n 0, 1) := by decide +kernel
theorem dX6_freshOn_55 : decode cX6_freshOn 55 = .ok (.getfield 29, 3) := by decide +kernel
theorem dX6_freshOn_58 : decode cX6_freshOn 58 = .ok (.iload_n 1, 1) := by decide +kernel
theorem dX6_freshOn_59 : decode cX6_freshOn 59 = .ok (.iaload, 1) := by decide +kernel
theorem dX6_freshOn_60 : decode cX6_freshOn 60 = .ok (.iconst 2, 1) := by decide +kernel
theorem dX6_freshOn_61 : decode cX6_freshOn 61 = .ok (.if_icmp .ne 10, 3) := by decide +kernel
theorem dX6_freshOn_64 : decode cX6_freshOn 64 = .ok (.iload 4, 2) := by decide +kernel
theorem dX6_freshOn_66 : decode cX6_freshOn 66 = .ok (.iconst 2, 1) := by decide +kernel
theorem dX6_freshOn_67 : decode cX6_freshOn 67 = .ok (.idiv, 1) := by decide +kernel
theorem dX6_freshOn_68 : decode cX6_freshOn 68 = .ok (.goto 5, 3) := by decide +kernel
theorem dX6_freshOn_71 : decode cX6_freshOn 71 = .ok (.iload 4, 2) := by decide +kernel
theorem dX6_freshOn_73 : decode cX6_freshOn 73 = .ok (.ireturn, 1) := by decide +kernel
theorem dX6_priceOf_0 : decode cX6_priceOf 0 = .ok (.aload_n 0, 1) := by decide +kernel
theorem dX6_priceOf_1 : decode cX6_priceOf 1 = .ok (.getfield 123, 3) := by decide +kernel
theorem dX6_priceOf_4 : decode cX6_priceOf 4 = .ok (.aload_n 0, 1) := by decide +kernel
theorem dX6_priceOf_5 : decode cX6_priceOf 5 = .ok (.iload_n 1, 1) := by decide +kernel
theorem dX6_priceOf_6 : decode cX6_priceOf 6 = .ok (.aload_n 0, 1) := by decide +kernel
theorem dX6_priceOf_7 : decode cX6_priceOf 7 = .ok (.getfield 129, 3) := by decide +kernel
theorem dX6_priceOf_10 : decode cX6_priceOf 10 = .ok (.invokevirtual 152, 3) := by decide +kernel
theorem dX6_priceOf_13 : decode cX6_priceOf 13 = .ok (.imul, 1) := by decide +kernel
theorem dX6_priceOf_14 : decode cX6_priceOf 14 = .ok (.ireturn, 1) := by decide +kernel
theorem dX6_ofMorning_0 : decode cX6_ofMorning 0 = .ok (.aload_n 0, 1) := by decide +kernel
theorem dX6_ofMorning_1 : decode cX6_ofMorning 1 = .ok (.iload_n 1, 1) := by decide +kernel
theorem dX6_ofMorning_2 : decode cX6_ofMorning 2 = .ok (.invokevirtual 156, 3) := by decide +kernel
theorem dX6_ofMorning_5 : decode cX6_ofMorning 5 = .ok (.ifCond .ne 5, 3) := by decide +kernel
theorem dX6_ofMorning_8 : decode cX6_ofMorning 8 = .ok (.iconst (-1), 1) := by decide +kernel
theorem dX6_ofMorning_9 : decode cX6_ofMorning 9 = .ok (.ireturn, 1) := by decide +kernel
theorem dX6_ofMorning_10 : decode cX6_ofMorning 10 = .ok (.iload_n 2, 1) := by decide +kernel
theorem dX6_ofMorning_11 : decode cX6_ofMorning 11 = .ok (.tableswitch 76 0 4 #[33, 40, 47, 54, 61], 33) := by decide +kernel
theorem dX6_ofMorning_44 : decode cX6_ofMorning 44 = .ok (.aload_n 0, 1) := by decide +kernel
theorem dX6_ofMorning_45 : decode cX6_ofMorning 45 = .ok (.getfield 29, 3) := by decide +kernel
theorem dX6_ofMorning_48 : decode cX6_ofMorning 48 = .ok (.iload_n 1, 1) := by decide +kernel
theorem dX6_ofMorning_49 : decode cX6_ofMorning 49 = .ok (.iaload, 1) := by decide +kernel
theorem dX6_ofMorning_50 : decode cX6_ofMorning 50 = .ok (.ireturn, 1) := by decide +kernel
theorem dX6_ofMorning_51 : decode cX6_ofMorning 51 = .ok (.aload_n 0, 1) := by decide +kernel
theorem dX6_ofMorning_52 : decode cX6_ofMorning 52 = .ok (.getfield 32, 3) := by decide +kernel
theorem dX6_ofMorning_55 : decode cX6_ofMorning 55 = .ok (.iload_n 1, 1) := by decide +kernel
theorem dX6_ofMorning_56 : decode cX6_ofMorning 56 = .ok (.iaload, 1) := by decide +kernel
theorem dX6_ofMorning_57 : decode cX6_ofMorning 57 = .ok (.ireturn, 1) := by decide +kernel
theorem dX6_ofMorning_58 : decode cX6_ofMorning 58 = .ok (.aload_n 0, 1) := by decide +kernel
theorem dX6_ofMorning_59 : decode cX6_ofMorning 59 = .ok (.getfield 35, 3) := by decide +kernel
theorem dX6_ofMorning_62 : decode cX6_ofMorning 62 = .ok (.iload_n 1, 1) := by decide +kernel
theorem dX6_ofMorning_63 : decode cX6_ofMorning 63 = .ok (.iaload, 1) := by decide +kernel
theorem dX6_ofMorning_64 : decode cX6_ofMorning 64 = .ok (.ireturn, 1) := by decide +kernel
theorem dX6_ofMorning_65 : decode cX6_ofMorning 65 = .ok (.aload_n 0, 1) := by decide +kernel
theorem dX6_ofMorning_66 : decode cX6_ofMorning 66 = .ok (.getfield 38, 3) := by decide +kernel
theorem dX6_ofMorning_69 : decode cX6_ofMorning 69 = .ok (.iload_n 1, 1) := by decide +kernel
theorem dX6_ofMorning_70 : decode cX6_ofMorning 70 = .ok (.iaload, 1) := by decide +kernel
theorem dX6_ofMorning_71 : decode cX6_ofMorning 71 = .ok (.ireturn, 1) := by decide +kernel
theorem dX6_ofMorning_72 : decode cX6_ofMorning 72 = .ok (.aload_n 0, 1) := by decide +kernel
theorem dX6_ofMorning_73 : decode cX6_ofMorning 73 = .ok (.getfield 41, 3) := by decide +kernel
theorem dX6_ofMorning_76 : decode cX6_ofMorning 76 = .ok (.iload_n 1, 1) := by decide +kernel
theorem dX6_ofMorning_77 : decode cX6_ofMorning 77 = .ok (.baload, 1) := by decide +kernel
theorem dX6_ofMorning_78 : decode cX6_ofMorning 78 = .ok (.ifCond .eq 7, 3) := by decide +kernel
theorem dX6_ofMorning_81 : decode cX6_ofMorning 81 = .ok (.iconst 1, 1) := by decide +kernel
theorem dX6_ofMorning_82 : decode cX6_ofMorning 82 = .ok (.goto 4, 3) := by decide +kernel
theorem dX6_ofMorning_85 : decode cX6_ofMorning 85 = .ok (.iconst 0, 1) := by decide +kernel
theorem dX6_ofMorning_86 : decode cX6_ofMorning 86 = .ok (.ireturn, 1) := by decide +kernel
theorem dX6_ofMorning_87 : decode cX6_ofMorning 87 = .ok (.bipush (-2), 2) := by decide +kernel
theorem dX6_ofMorning_89 : decode cX6_ofMorning 89 = .ok (.ireturn, 1) := by decide +kernel
theorem dX6_ownOf_0 : decode cX6_ownOf 0 = .ok (.iconst 0, 1) := by decide +kernel
theorem dX6_ownOf_1 : decode cX6_ownOf 1 = .ok (.istore_n 2, 1) := by decide +kernel
theorem dX6_ownOf_2 : decode cX6_ownOf 2 = .ok (.iconst 0, 1) := by decide +kernel
theorem dX6_ownOf_3 : decode cX6_ownOf 3 = .ok (.istore_n 3, 1) := by decide +kernel
theorem dX6_ownOf_4 : decode cX6_ownOf 4 = .ok (.iload_n 3, 1) := by decide +kernel
theorem dX6_ownOf_5 : decode cX6_ownOf 5 = .ok (.aload_n 0, 1) := by decide +kernel
theorem dX6_ownOf_6 : decode cX6_ownOf 6 = .ok (.getfield 93, 3) := by decide +kernel
theorem dX6_ownOf_9 : decode cX6_ownOf 9 = .ok (.if_icmp .ge 38, 3) := by decide +kernel
theorem dX6_ownOf_12 : decode cX6_ownOf 12 = .ok (.iload_n 2, 1) := by decide +kernel
theorem dX6_ownOf_13 : decode cX6_ownOf 13 = .ok (.aload_n 0, 1) := by decide +kernel
theorem dX6_ownOf_14 : decode cX6_ownOf 14 = .ok (.getfield 32, 3) := by decide +kernel
theorem dX6_ownOf_17 : decode cX6_ownOf 17 = .ok (.iload_n 3, 1) := by decide +kernel
theorem dX6_ownOf_18 : decode cX6_ownOf 18 = .ok (.iaload, 1) := by decide +kernel
theorem dX6_ownOf_19 : decode cX6_ownOf 19 = .ok (.iload_n 1, 1) := by decide +kernel
theorem dX6_ownOf_20 : decode cX6_ownOf 20 = .ok (.if_icmp .ne 18, 3) := by decide +kernel
theorem dX6_ownOf_23 : decode cX6_ownOf 23 = .ok (.aload_n 0, 1) := by decide +kernel
theorem dX6_ownOf_24 : decode cX6_ownOf 24 = .ok (.getfield 41, 3) := by decide +kernel
theorem dX6_ownOf_27 : decode cX6_ownOf 27 = .ok (.iload_n 3, 1) := by decide +kernel
theorem dX6_ownOf_28 : decode cX6_ownOf 28 = .ok (.baload, 1) := by decide +kernel
theorem dX6_ownOf_29 : decode cX6_ownOf 29 = .ok (.ifCond .ne 9, 3) := by decide +kernel
theorem dX6_ownOf_32 : decode cX6_ownOf 32 = .ok (.iconst 1, 1) := by decide +kernel
theorem dX6_ownOf_33 : decode cX6_ownOf 33 = .ok (.iload_n 3, 1) := by decide +kernel
theorem dX6_ownOf_34 : decode cX6_ownOf 34 = .ok (.ishl, 1) := by decide +kernel
theorem dX6_ownOf_35 : decode cX6_ownOf 35 = .ok (.goto 4, 3) := by decide +kernel
theorem dX6_ownOf_38 : decode cX6_ownOf 38 = .ok (.iconst 0, 1) := by decide +kernel
theorem dX6_ownOf_39 : decode cX6_ownOf 39 = .ok (.ior, 1) := by decide +kernel
theorem dX6_ownOf_40 : decode cX6_ownOf 40 = .ok (.istore_n 2, 1) := by decide +kernel
theorem dX6_ownOf_41 : decode cX6_ownOf 41 = .ok (.iinc 3 1, 3) := by decide +kernel
theorem dX6_ownOf_44 : decode cX6_ownOf 44 = .ok (.goto (-40), 3) := by decide +kernel
theorem dX6_ownOf_47 : decode cX6_ownOf 47 = .ok (.iload_n 2, 1) := by decide +kernel
theorem dX6_ownOf_48 : decode cX6_ownOf 48 = .ok (.ireturn, 1) := by decide +kernel
theorem dX6_size_0 : decode cX6_size 0 = .ok (.iconst 0, 1) := by decide +kernel
theorem dX6_size_1 : decode cX6_size 1 = .ok (.istore_n 1, 1) := by decide +kernel
theorem dX6_size_2 : decode cX6_size 2 = .ok (.iload_n 0, 1) := by decide +kernel
theorem dX6_size_3 : decode cX6_size 3 = .ok (.istore_n 2, 1) := by decide +kernel
theorem dX6_size_4 : decode cX6_size 4 = .ok (.iload_n 2, 1) := by decide +kernel
theorem dX6_size_5 : decode cX6_size 5 = .ok (.ifCond .le 16, 3) := by decide +kernel
theorem dX6_size_8 : decode cX6_size 8 = .ok (.iload_n 1, 1) := by decide +kernel
theorem dX6_size_9 : decode cX6_size 9 = .ok (.iload_n 2, 1) := by decide +kernel
theorem dX6_size_10 : decode cX6_size 10 = .ok (.iconst 1, 1) := by decide +kernel
theorem dX6_size_11 : decode cX6_size 11 = .ok (.iand, 1) := by decide +kernel
theorem dX6_size_12 : decode cX6_size 12 = .ok (.iadd, 1) := by decide +kernel
theorem dX6_size_13 : decode cX6_size 13 = .ok (.istore_n 1, 1) := by decide +kernel
theorem dX6_size_14 : decode cX6_size 14 = .ok (.iload_n 2, 1) := by decide +kernel
theorem dX6_size_15 : decode cX6_size 15 = .ok (.iconst 1, 1) := by decide +kernel
theorem dX6_size_16 : decode cX6_size 16 = .ok (.ishr, 1) := by decide +kernel
theorem dX6_size_17 : decode cX6_size 17 = .ok (.istore_n 2, 1) := by decide +kernel
theorem dX6_size_18 : decode cX6_size 18 = .ok (.goto (-14), 3) := by decide +kernel
theorem dX6_size_21 : decode cX6_size 21 = .ok (.iload_n 1, 1) := by decide +kernel
theorem dX6_size_22 : decode cX6_size 22 = .ok (.ireturn, 1) := by decide +kernel
theorem dX6_ofPerson_0 : decode cX6_ofPerson 0 = .ok (.aload_n 0, 1) := by decide +kernel
theorem dX6_ofPerson_1 : decode cX6_ofPerson 1 = .ok (.iload_n 1, 1) := by decide +kernel
theorem dX6_ofPerson_2 : decode cX6_ofPerson 2 = .ok (.invokevirtual 159, 3) := by decide +kernel
theorem dX6_ofPerson_5 : decode cX6_ofPerson 5 = .ok (.ifCond .ne 5, 3) := by decide +kernel
theorem dX6_ofPerson_8 : decode cX6_ofPerson 8 = .ok (.iconst (-1), 1) := by decide +kernel
theorem dX6_ofPerson_9 : decode cX6_ofPerson 9 = .ok (.ireturn, 1) := by decide +kernel
theorem dX6_ofPerson_10 : decode cX6_ofPerson 10 = .ok (.iload_n 2, 1) := by decide +kernel
theorem dX6_ofPerson_11 : decode cX6_ofPerson 11 = .ok (.tableswitch 67 0 3 #[29, 36, 43, 52], 29) := by decide +kernel
theorem dX6_ofPerson_40 : decode cX6_ofPerson 40 = .ok (.aload_n 0, 1) := by decide +kernel
theorem dX6_ofPerson_41 : decode cX6_ofPerson 41 = .ok (.getfield 19, 3) := by decide +kernel
theorem dX6_ofPerson_44 : decode cX6_ofPerson 44 = .ok (.iload_n 1, 1) := by decide +kernel
theorem dX6_ofPerson_45 : decode cX6_ofPerson 45 = .ok (.iaload, 1) := by decide +kernel
theorem dX6_ofPerson_46 : decode cX6_ofPerson 46 = .ok (.ireturn, 1) := by decide +kernel
theorem dX6_ofPerson_47 : decode cX6_ofPerson 47 = .ok (.aload_n 0, 1) := by decide +kernel
theorem dX6_ofPerson_48 : decode cX6_ofPerson 48 = .ok (.getfield 22, 3) := by decide +kernel
theorem dX6_ofPerson_51 : decode cX6_ofPerson 51 = .ok (.iload_n 1, 1) := by decide +kernel
theorem dX6_ofPerson_52 : decode cX6_ofPerson 52 = .ok (.iaload, 1) := by decide +kernel
theorem dX6_ofPerson_53 : decode cX6_ofPerson 53 = .ok (.ireturn, 1) := by decide +kernel
theorem dX6_ofPerson_54 : decode cX6_ofPerson 54 = .ok (.aload_n 0, 1) := by decide +kernel
theorem dX6_ofPerson_55 : decode cX6_ofPerson 55 = .ok (.iload_n 1, 1) := by decide +kernel
theorem dX6_ofPerson_56 : decode cX6_ofPerson 56 = .ok (.invokevirtual 162, 3) := by decide +kernel
theorem dX6_ofPerson_59 : decode cX6_ofPerson 59 = .ok (.invokestatic 165, 3) := by decide +kernel
theorem dX6_ofPerson_62 : decode cX6_ofPerson 62 = .ok (.ireturn, 1) := by decide +kernel
theorem dX6_ofPerson_63 : decode cX6_ofPerson 63 = .ok (.aload_n 0, 1) := by decide +kernel
theorem dX6_ofPerson_64 : decode cX6_ofPerson 64 = .ok (.getfield 25, 3) := by decide +kernel
theorem dX6_ofPerson_67 : decode cX6_ofPerson 67 = .ok (.iload_n 1, 1) := by decide +kernel
theorem dX6_ofPerson_68 : decode cX6_ofPerson 68 = .ok (.baload, 1) := by decide +kernel
theorem dX6_ofPerson_69 : decode cX6_ofPerson 69 = .ok (.ifCond .eq 7, 3) := by decide +kernel
theorem dX6_ofPerson_72 : decode cX6_ofPerson 72 = .ok (.iconst 1, 1) := by decide +kernel
theorem dX6_ofPerson_73 : decode cX6_ofPerson 73 = .ok (.goto 4, 3) := by decide +kernel
theorem dX6_ofPerson_76 : decode cX6_ofPerson 76 = .ok (.iconst 0, 1) := by decide +kernel
theorem dX6_ofPerson_77 : decode cX6_ofPerson 77 = .ok (.ireturn, 1) := by decide +kernel
theorem dX6_ofPerson_78 : decode cX6_ofPerson 78 = .ok (.bipush (-2), 2) := by decide +kernel
theorem dX6_ofPerson_80 : decode cX6_ofPerson 80 = .ok (.ireturn, 1) := by decide +kernel
theorem dX6_fill_0 : decode cX6_fill 0 = .ok (.aload_n 0, 1) := by decide +kernel
theorem dX6_fill_1 : decode cX6_fill 1 = .ok (.iload_n 1, 1) := by decide +kernel
theorem dX6_fill_2 : decode cX6_fill 2 = .ok (.invokevirtual 159, 3) := by decide +kernel
theorem dX6_fill_5 : decode cX6_fill 5 = .ok (.ifCond .ne 5, 3) := by decide +kernel
theorem dX6_fill_8 : decode cX6_fill 8 = .ok (.iconst (-1), 1) := by decide +kernel
theorem dX6_fill_9 : decode cX6_fill 9 = .ok (.ireturn, 1) := by decide +kernel
theorem dX6_fill_10 : decode cX6_fill 10 = .ok (.iload_n 2, 1) := by decide +kernel
theorem dX6_fill_11 : decode cX6_fill 11 = .ok (.iconst 0, 1) := by decide +kernel
theorem dX6_fill_12 : decode cX6_fill 12 = .ok (.bipush 99, 2) := by decide +kernel
theorem dX6_fill_14 : decode cX6_fill 14 = .ok (.invokestatic 86, 3) := by decide +kernel
theorem dX6_fill_17 : decode cX6_fill 17 = .ok (.ifCond .ne 6, 3) := by decide +kernel
theorem dX6_fill_20 : decode cX6_fill 20 = .ok (.bipush (-2), 2) := by decide +kernel
theorem dX6_fill_22 : decode cX6_fill 22 = .ok (.ireturn, 1) := by decide +kernel
theorem dX6_fill_23 : decode cX6_fill 23 = .ok (.aload_n 0, 1) := by decide +kernel
theorem dX6_fill_24 : decode cX6_fill 24 = .ok (.getfield 19, 3) := by decide +kernel
theorem dX6_fill_27 : decode cX6_fill 27 = .ok (.iload_n 1, 1) := by decide +kernel
theorem dX6_fill_28 : decode cX6_fill 28 = .ok (.iaload, 1) := by decide +kernel
theorem dX6_fill_29 : decode cX6_fill 29 = .ok (.istore_n 3, 1) := by decide +kernel
theorem dX6_fill_30 : decode cX6_fill 30 = .ok (.aload_n 0, 1) := by decide +kernel
theorem dX6_fill_31 : decode cX6_fill 31 = .ok (.getfield 19, 3) := by decide +kernel
theorem dX6_fill_34 : decode cX6_fill 34 = .ok (.iload_n 1, 1) := by decide +kernel
theorem dX6_fill_35 : decode cX6_fill 35 = .ok (.iload_n 2, 1) := by decide +kernel
theorem dX6_fill_36 : decode cX6_fill 36 = .ok (.iastore, 1) := by decide +kernel
theorem dX6_fill_37 : decode cX6_fill 37 = .ok (.iload_n 3, 1) := by decide +kernel
theorem dX6_fill_38 : decode cX6_fill 38 = .ok (.ireturn, 1) := by decide +kernel
theorem dX6_rate_0 : decode cX6_rate 0 = .ok (.iload_n 1, 1) := by decide +kernel
theorem dX6_rate_1 : decode cX6_rate 1 = .ok (.iconst 1, 1) := by decide +kernel
theorem dX6_rate_2 : decode cX6_rate 2 = .ok (.bipush 9, 2) := by decide +kernel
theorem dX6_rate_4 : decode cX6_rate 4 = .ok (.invokestatic 86, 3) := by decide +kernel
theorem dX6_rate_7 : decode cX6_rate 7 = .ok (.ifCond .ne 6, 3) := by decide +kernel
theorem dX6_rate_10 : decode cX6_rate 10 = .ok (.bipush (-2), 2) := by decide +kernel
theorem dX6_rate_12 : decode cX6_rate 12 = .ok (.ireturn, 1) := by decide +kernel
theorem dX6_rate_13 : decode cX6_rate 13 = .ok (.aload_n 0, 1) := by decide +kernel
theorem dX6_rate_14 : decode cX6_rate 14 = .ok (.getfield 90, 3) := by decide +kernel
theorem dX6_rate_17 : decode cX6_rate 17 = .ok (.ifCond .ne 6, 3) := by decide +kernel
theorem dX6_rate_20 : decode cX6_rate 20 = .ok (.bipush (-3), 2) := by decide +kernel
theorem dX6_rate_22 : decode cX6_rate 22 = .ok (.ireturn, 1) := by decide +kernel
theorem dX6_rate_23 : decode cX6_rate 23 = .ok (.aload_n 0, 1) := by decide +kernel
theorem dX6_rate_24 : decode cX6_rate 24 = .ok (.getfield 123, 3) := by decide +kernel
theorem dX6_rate_27 : decode cX6_rate 27 = .ok (.istore_n 2, 1) := by decide +kernel
theorem dX6_rate_28 : decode cX6_rate 28 = .ok (.aload_n 0, 1) := by decide +kernel
theorem dX6_rate_29 : decode cX6_rate 29 = .ok (.iload_n 1, 1) := by decide +kernel
theorem dX6_rate_30 : decode cX6_rate 30 = .ok (.putfield 123, 3) := by decide +kernel
theorem dX6_rate_33 : decode cX6_rate 33 = .ok (.iload_n 2, 1) := by decide +kernel
theorem dX6_rate_34 : decode cX6_rate 34 = .ok (.ireturn, 1) := by decide +kernel
theorem dX6_fresh_0 : decode cX6_fresh 0 = .ok (.aload_n 0, 1) := by decide +kernel
theorem dX6_fresh_1 : decode cX6_fresh 1 = .ok (.iload_n 1, 1) := by decide +kernel
theorem dX6_fresh_2 : decode cX6_fresh 2 = .ok (.invokevirtual 156, 3) := by decide +kernel
theorem dX6_fresh_5 : decode cX6_fresh 5 = .ok (.ifCond .ne 5, 3) := by decide +kernel
theorem dX6_fresh_8 : decode cX6_fresh 8 = .ok (.iconst (-1), 1) := by decide +kernel
theorem dX6_fresh_9 : decode cX6_fresh 9 = .ok (.ireturn, 1) := by decide +kernel
theorem dX6_fresh_10 : decode cX6_fresh 10 = .ok (.iload_n 2, 1) := by decide +kernel
theorem dX6_fresh_11 : decode cX6_fresh 11 = .ok (.iconst 0, 1) := by decide +kernel
theorem dX6_fresh_12 : decode cX6_fresh 12 = .ok (.bipush 99, 2) := by decide +kernel
theorem dX6_fresh_14 : decode cX6_fresh 14 = .ok (.invokestatic 86, 3) := by decide +kernel
theorem dX6_fresh_17 : decode cX6_fresh 17 = .ok (.ifCond .eq 12, 3) := by decide +kernel
theorem dX6_fresh_20 : decode cX6_fresh 20 = .ok (.aload_n 0, 1) := by decide +kernel
theorem dX6_fresh_21 : decode cX6_fresh 21 = .ok (.iload_n 1, 1) := by decide +kernel
theorem dX6_fresh_22 : decode cX6_fresh 22 = .ok (.iload_n 2, 1) := by decide +kernel
theorem dX6_fresh_23 : decode cX6_fresh 23 = .ok (.invokevirtual 152, 3) := by decide +kernel
theorem dX6_fresh_26 : decode cX6_fresh 26 = .ok (.goto 5, 3) := by decide +kernel
theorem dX6_fresh_29 : decode cX6_fresh 29 = .ok (.bipush (-2), 2) := by decide +kernel
theorem dX6_fresh_31 : decode cX6_fresh 31 = .ok (.ireturn, 1) := by decide +kernel
theorem dX6_price_0 : decode cX6_price 0 = .ok (.aload_n 0, 1) := by decide +kernel
theorem dX6_price_1 : decode cX6_price 1 = .ok (.iload_n 1, 1) := by decide +kernel
theorem dX6_price_2 : decode cX6_price 2 = .ok (.invokevirtual 156, 3) := by decide +kernel
theorem dX6_price_5 : decode cX6_price 5 = .ok (.ifCond .eq 11, 3) := by decide +kernel
theorem dX6_price_8 : decode cX6_price 8 = .ok (.aload_n 0, 1) := by decide +kernel
theorem dX6_price_9 : decode cX6_price 9 = .ok (.iload_n 1, 1) := by decide +kernel
theorem dX6_price_10 : decode cX6_price 10 = .ok (.invokevirtual 168, 3) := by decide +kernel
theorem dX6_price_13 : decode cX6_price 13 = .ok (.goto 4, 3) := by decide +kernel
theorem dX6_price_16 : decode cX6_price 16 = .ok (.iconst (-1), 1) := by decide +kernel
theorem dX6_price_17 : decode cX6_price 17 = .ok (.ireturn, 1) := by decide +kernel
theorem dX6_maySell_0 : decode cX6_maySell 0 = .ok (.aload_n 0, 1) := by decide +kernel
theorem dX6_maySell_1 : decode cX6_maySell 1 = .ok (.getfield 41, 3) := by decide +kernel
theorem dX6_maySell_4 : decode cX6_maySell 4 = .ok (.iload_n 1, 1) := by decide +kernel
theorem dX6_maySell_5 : decode cX6_maySell 5 = .ok (.baload, 1) := by decide +kernel
theorem dX6_maySell_6 : decode cX6_maySell 6 = .ok (.ifCond .ne 39, 3) := by decide +kernel
theorem dX6_maySell_9 : decode cX6_maySell 9 = .ok (.aload_n 0, 1) := by decide +kernel
theorem dX6_maySell_10 : decode cX6_maySell 10 = .ok (.iload_n 2, 1) := by decide +kernel
theorem dX6_maySell_11 : decode cX6_maySell 11 = .ok (.invokevirtual 159, 3) := by decide +kernel
theorem dX6_maySell_14 : decode cX6_maySell 14 = .ok (.ifCond .eq 31, 3) := by decide +kernel
theorem dX6_maySell_17 : decode cX6_maySell 17 = .ok (.iload_n 2, 1) := by decide +kernel
theorem dX6_maySell_18 : decode cX6_maySell 18 = .ok (.aload_n 0, 1) := by decide +kernel
theorem dX6_maySell_19 : decode cX6_maySell 19 = .ok (.getfield 32, 3) := by decide +kernel
theorem dX6_maySell_22 : decode cX6_maySell 22 = .ok (.iload_n 1, 1) := by decide +kernel
theorem dX6_maySell_23 : decode cX6_maySell 23 = .ok (.iaload, 1) := by decide +kernel
theorem dX6_maySell_24 : decode cX6_maySell 24 = .ok (.if_icmp .eq 21, 3) := by decide +kernel
theorem dX6_maySell_27 : decode cX6_maySell 27 = .ok (.aload_n 0, 1) := by decide +kernel
theorem dX6_maySell_28 : decode cX6_maySell 28 = .ok (.iload_n 1, 1) := by decide +kernel
theorem dX6_maySell_29 : decode cX6_maySell 29 = .ok (.invokevirtual 168, 3) := by decide +kernel
theorem dX6_maySell_32 : decode cX6_maySell 32 = .ok (.aload_n 0, 1) := by decide +kernel
theorem dX6_maySell_33 : decode cX6_maySell 33 = .ok (.getfield 19, 3) := by decide +kernel
theorem dX6_maySell_36 : decode cX6_maySell 36 = .ok (.iload_n 2, 1) := by decide +kernel
theorem dX6_maySell_37 : decode cX6_maySell 37 = .ok (.iaload, 1) := by decide +kernel
theorem dX6_maySell_38 : decode cX6_maySell 38 = .ok (.if_icmp .gt 7, 3) := by decide +kernel
theorem dX6_maySell_41 : decode cX6_maySell 41 = .ok (.iconst 1, 1) := by decide +kernel
theorem dX6_maySell_42 : decode cX6_maySell 42 = .ok (.goto 4, 3) := by decide +kernel
theorem dX6_maySell_45 : decode cX6_maySell 45 = .ok (.iconst 0, 1) := by decide +kernel
theorem dX6_maySell_46 : decode cX6_maySell 46 = .ok (.ireturn, 1) := by decide +kernel
theorem dX6_doSell_0 : decode cX6_doSell 0 = .ok (.aload_n 0, 1) := by decide +kernel
theorem dX6_doSell_1 : decode cX6_doSell 1 = .ok (.getfield 19, 3) := by decide +kernel
theorem dX6_doSell_4 : decode cX6_doSell 4 = .ok (.iload_n 2, 1) := by decide +kernel
theorem dX6_doSell_5 : decode cX6_doSell 5 = .ok (.dup2, 1) := by decide +kernel
theorem dX6_doSell_6 : decode cX6_doSell 6 = .ok (.iaload, 1) := by decide +kernel
theorem dX6_doSell_7 : decode cX6_doSell 7 = .ok (.aload_n 0, 1) := by decide +kernel
theorem dX6_doSell_8 : decode cX6_doSell 8 = .ok (.iload_n 1, 1) := by decide +kernel
theorem dX6_doSell_9 : decode cX6_doSell 9 = .ok (.invokevirtual 168, 3) := by decide +kernel
theorem dX6_doSell_12 : decode cX6_doSell 12 = .ok (.isub, 1) := by decide +kernel
theorem dX6_doSell_13 : decode cX6_doSell 13 = .ok (.iastore, 1) := by decide +kernel
theorem dX6_doSell_14 : decode cX6_doSell 14 = .ok (.aload_n 0, 1) := by decide +kernel
theorem dX6_doSell_15 : decode cX6_doSell 15 = .ok (.getfield 19, 3) := by decide +kernel
theorem dX6_doSell_18 : decode cX6_doSell 18 = .ok (.aload_n 0, 1) := by decide +kernel
theorem dX6_doSell_19 : decode cX6_doSell 19 = .ok (.getfield 32, 3) := by decide +kernel
theorem dX6_doSell_22 : decode cX6_doSell 22 = .ok (.iload_n 1, 1) := by decide +kernel
theorem dX6_doSell_23 : decode cX6_doSell 23 = .ok (.iaload, 1) := by decide +kernel
theorem dX6_doSell_24 : decode cX6_doSell 24 = .ok (.dup2, 1) := by decide +kernel
theorem dX6_doSell_25 : decode cX6_doSell 25 = .ok (.iaload, 1) := by decide +kernel
theorem dX6_doSell_26 : decode cX6_doSell 26 = .ok (.aload_n 0, 1) := by decide +kernel
theorem dX6_doSell_27 : decode cX6_doSell 27 = .ok (.iload_n 1, 1) := by decide +kernel
theorem dX6_doSell_28 : decode cX6_doSell 28 = .ok (.invokevirtual 168, 3) := by decide +kernel
theorem dX6_doSell_31 : decode cX6_doSell 31 = .ok (.iadd, 1) := by decide +kernel
theorem dX6_doSell_32 : decode cX6_doSell 32 = .ok (.iastore, 1) := by decide +kernel
theorem dX6_doSell_33 : decode cX6_doSell 33 = .ok (.aload_n 0, 1) := by decide +kernel
theorem dX6_doSell_34 : decode cX6_doSell 34 = .ok (.getfield 32, 3) := by decide +kernel
theorem dX6_doSell_37 : decode cX6_doSell 37 = .ok (.iload_n 1, 1) := by decide +kernel
theorem dX6_doSell_38 : decode cX6_doSell 38 = .ok (.iload_n 2, 1) := by decide +kernel
theorem dX6_doSell_39 : decode cX6_doSell 39 = .ok (.iastore, 1) := by decide +kernel
theorem dX6_doSell_40 : decode cX6_doSell 40 = .ok (.return_, 1) := by decide +kernel
theorem dX6_doOpen_0 : decode cX6_doOpen 0 = .ok (.aload_n 0, 1) := by decide +kernel
theorem dX6_doOpen_1 : decode cX6_doOpen 1 = .ok (.getfield 32, 3) := by decide +kernel
theorem dX6_doOpen_4 : decode cX6_doOpen 4 = .ok (.iload_n 1, 1) := by decide +kernel
theorem dX6_doOpen_5 : decode cX6_doOpen 5 = .ok (.iaload, 1) := by decide +kernel
theorem dX6_doOpen_6 : decode cX6_doOpen 6 = .ok (.istore_n 2, 1) := by decide +kernel
theorem dX6_doOpen_7 : decode cX6_doOpen 7 = .ok (.aload_n 0, 1) := by decide +kernel
theorem dX6_doOpen_8 : decode cX6_doOpen 8 = .ok (.getfield 25, 3) := by decide +kernel
theorem dX6_doOpen_11 : decode cX6_doOpen 11 = .ok (.iload_n 2, 1) := by decide +kernel
theorem dX6_doOpen_12 : decode cX6_doOpen 12 = .ok (.baload, 1) := by decide +kernel
theorem dX6_doOpen_13 : decode cX6_doOpen 13 = .ok (.ifCond .eq 17, 3) := by decide +kernel
theorem dX6_doOpen_16 : decode cX6_doOpen 16 = .ok (.aload_n 0, 1) := by decide +kernel
theorem dX6_doOpen_17 : decode cX6_doOpen 17 = .ok (.iload_n 1, 1) := by decide +kernel
theorem dX6_doOpen_18 : decode cX6_doOpen 18 = .ok (.aload_n 0, 1) := by decide +kernel
theorem dX6_doOpen_19 : decode cX6_doOpen 19 = .ok (.getfield 129, 3) := by decide +kernel
theorem dX6_doOpen_22 : decode cX6_doOpen 22 = .ok (.invokevirtual 152, 3) := by decide +kernel
theorem dX6_doOpen_25 : decode cX6_doOpen 25 = .ok (.iconst 2, 1) := by decide +kernel
theorem dX6_doOpen_26 : decode cX6_doOpen 26 = .ok (.idiv, 1) := by decide +kernel
theorem dX6_doOpen_27 : decode cX6_doOpen 27 = .ok (.goto 12, 3) := by decide +kernel
theorem dX6_doOpen_30 : decode cX6_doOpen 30 = .ok (.aload_n 0, 1) := by decide +kernel
theorem dX6_doOpen_31 : decode cX6_doOpen 31 = .ok (.iload_n 1, 1) := by decide +kernel
theorem dX6_doOpen_32 : decode cX6_doOpen 32 = .ok (.aload_n 0, 1) := by decide +kernel
theorem dX6_doOpen_33 : decode cX6_doOpen 33 = .ok (.getfield 129, 3) := by decide +kernel
theorem dX6_doOpen_36 : decode cX6_doOpen 36 = .ok (.invokevirtual 152, 3) := by decide +kernel
theorem dX6_doOpen_39 : decode cX6_doOpen 39 = .ok (.istore_n 3, 1) := by decide +kernel
theorem dX6_doOpen_40 : decode cX6_doOpen 40 = .ok (.aload_n 0, 1) := by decide +kernel
theorem dX6_doOpen_41 : decode cX6_doOpen 41 = .ok (.getfield 25, 3) := by decide +kernel
theorem dX6_doOpen_44 : decode cX6_doOpen 44 = .ok (.iload_n 2, 1) := by decide +kernel
theorem dX6_doOpen_45 : decode cX6_doOpen 45 = .ok (.iconst 1, 1) := by decide +kernel
theorem dX6_doOpen_46 : decode cX6_doOpen 46 = .ok (.bastore, 1) := by decide +kernel
theorem dX6_doOpen_47 : decode cX6_doOpen 47 = .ok (.aload_n 0, 1) := by decide +kernel
theorem dX6_doOpen_48 : decode cX6_doOpen 48 = .ok (.getfield 41, 3) := by decide +kernel
theorem dX6_doOpen_51 : decode cX6_doOpen 51 = .ok (.iload_n 1, 1) := by decide +kernel
theorem dX6_doOpen_52 : decode cX6_doOpen 52 = .ok (.iconst 1, 1) := by decide +kernel
theorem dX6_doOpen_53 : decode cX6_doOpen 53 = .ok (.bastore, 1) := by decide +kernel
theorem dX6_doOpen_54 : decode cX6_doOpen 54 = .ok (.aload_n 0, 1) := by decide +kernel
theorem dX6_doOpen_55 : decode cX6_doOpen 55 = .ok (.getfield 22, 3) := by decide +kernel
theorem dX6_doOpen_58 : decode cX6_doOpen 58 = .ok (.iload_n 2, 1) := by decide +kernel
theorem dX6_doOpen_59 : decode cX6_doOpen 59 = .ok (.dup2, 1) := by decide +kernel
theorem dX6_doOpen_60 : decode cX6_doOpen 60 = .ok (.iaload, 1) := by decide +kernel
theorem dX6_doOpen_61 : decode cX6_doOpen 61 = .ok (.iload_n 3, 1) := by decide +kernel
theorem dX6_doOpen_62 : decode cX6_doOpen 62 = .ok (.iadd, 1) := by decide +kernel
theorem dX6_doOpen_63 : decode cX6_doOpen 63 = .ok (.iastore, 1) := by decide +kernel
theorem dX6_doOpen_64 : decode cX6_doOpen 64 = .ok (.iload_n 3, 1) := by decide +kernel
theorem dX6_doOpen_65 : decode cX6_doOpen 65 = .ok (.ireturn, 1) := by decide +kernel
theorem dX6_doSleep_0 : decode cX6_doSleep 0 = .ok (.aload_n 0, 1) := by decide +kernel
theorem dX6_doSleep_1 : decode cX6_doSleep 1 = .ok (.dup, 1) := by decide +kernel
theorem dX6_doSleep_2 : decode cX6_doSleep 2 = .ok (.getfield 129, 3) := by decide +kernel
theorem dX6_doSleep_5 : decode cX6_doSleep 5 = .ok (.iload_n 1, 1) := by decide +kernel
theorem dX6_doSleep_6 : decode cX6_doSleep 6 = .ok (.iadd, 1) := by decide +kernel
theorem dX6_doSleep_7 : decode cX6_doSleep 7 = .ok (.putfield 129, 3) := by decide +kernel
theorem dX6_doSleep_10 : decode cX6_doSleep 10 = .ok (.iconst 0, 1) := by decide +kernel
theorem dX6_doSleep_11 : decode cX6_doSleep 11 = .ok (.istore_n 2, 1) := by decide +kernel
theorem dX6_doSleep_12 : decode cX6_doSleep 12 = .ok (.iload_n 2, 1) := by decide +kernel
theorem dX6_doSleep_13 : decode cX6_doSleep 13 = .ok (.aload_n 0, 1) := by decide +kernel
theorem dX6_doSleep_14 : decode cX6_doSleep 14 = .ok (.getfield 90, 3) := by decide +kernel
theorem dX6_doSleep_17 : decode cX6_doSleep 17 = .ok (.if_icmp .ge 20, 3) := by decide +kernel
theorem dX6_doSleep_20 : decode cX6_doSleep 20 = .ok (.iload_n 1, 1) := by decide +kernel
theorem dX6_doSleep_21 : decode cX6_doSleep 21 = .ok (.ifCond .le 16, 3) := by decide +kernel
theorem dX6_doSleep_24 : decode cX6_doSleep 24 = .ok (.aload_n 0, 1) := by decide +kernel
theorem dX6_doSleep_25 : decode cX6_doSleep 25 = .ok (.getfield 25, 3) := by decide +kernel
theorem dX6_doSleep_28 : decode cX6_doSleep 28 = .ok (.iload_n 2, 1) := by decide +kernel
theorem dX6_doSleep_29 : decode cX6_doSleep 29 = .ok (.iconst 0, 1) := by decide +kernel
theorem dX6_doSleep_30 : decode cX6_doSleep 30 = .ok (.bastore, 1) := by decide +kernel
theorem dX6_doSleep_31 : decode cX6_doSleep 31 = .ok (.iinc 2 1, 3) := by decide +kernel
theorem dX6_doSleep_34 : decode cX6_doSleep 34 = .ok (.goto (-22), 3) := by decide +kernel
theorem dX6_doSleep_37 : decode cX6_doSleep 37 = .ok (.return_, 1) := by decide +kernel
theorem dX6_sell_0 : decode cX6_sell 0 = .ok (.aload_n 0, 1) := by decide +kernel
theorem dX6_sell_1 : decode cX6_sell 1 = .ok (.iload_n 1, 1) := by decide +kernel
theorem dX6_sell_2 : decode cX6_sell 2 = .ok (.invokevirtual 156, 3) := by decide +kernel
theorem dX6_sell_5 : decode cX6_sell 5 = .ok (.ifCond .eq 11, 3) := by decide +kernel
theorem dX6_sell_8 : decode cX6_sell 8 = .ok (.aload_n 0, 1) := by decide +kernel
theorem dX6_sell_9 : decode cX6_sell 9 = .ok (.iload_n 2, 1) := by decide +kernel
theorem dX6_sell_10 : decode cX6_sell 10 = .ok (.invokevirtual 159, 3) := by decide +kernel
theorem dX6_sell_13 : decode cX6_sell 13 = .ok (.ifCond .ne 5, 3) := by decide +kernel
theorem dX6_sell_16 : decode cX6_sell 16 = .ok (.iconst (-1), 1) := by decide +kernel
theorem dX6_sell_17 : decode cX6_sell 17 = .ok (.ireturn, 1) := by decide +kernel
theorem dX6_sell_18 : decode cX6_sell 18 = .ok (.aload_n 0, 1) := by decide +kernel
theorem dX6_sell_19 : decode cX6_sell 19 = .ok (.iload_n 1, 1) := by decide +kernel
theorem dX6_sell_20 : decode cX6_sell 20 = .ok (.iload_n 2, 1) := by decide +kernel
theorem dX6_sell_21 : decode cX6_sell 21 = .ok (.invokevirtual 171, 3) := by decide +kernel
theorem dX6_sell_24 : decode cX6_sell 24 = .ok (.ifCond .ne 6, 3) := by decide +kernel
theorem dX6_sell_27 : decode cX6_sell 27 = .ok (.bipush (-3), 2) := by decide +kernel
theorem dX6_sell_29 : decode cX6_sell 29 = .ok (.ireturn, 1) := by decide +kernel
theorem dX6_sell_30 : decode cX6_sell 30 = .ok (.aload_n 0, 1) := by decide +kernel
theorem dX6_sell_31 : decode cX6_sell 31 = .ok (.iload_n 1, 1) := by decide +kernel
theorem dX6_sell_32 : decode cX6_sell 32 = .ok (.invokevirtual 168, 3) := by decide +kernel
theorem dX6_sell_35 : decode cX6_sell 35 = .ok (.istore_n 3, 1) := by decide +kernel
theorem dX6_sell_36 : decode cX6_sell 36 = .ok (.aload_n 0, 1) := by decide +kernel
theorem dX6_sell_37 : decode cX6_sell 37 = .ok (.iload_n 1, 1) := by decide +kernel
theorem dX6_sell_38 : decode cX6_sell 38 = .ok (.iload_n 2, 1) := by decide +kernel
theorem dX6_sell_39 : decode cX6_sell 39 = .ok (.invokevirtual 174, 3) := by decide +kernel
theorem dX6_sell_42 : decode cX6_sell 42 = .ok (.iload_n 3, 1) := by decide +kernel
theorem dX6_sell_43 : decode cX6_sell 43 = .ok (.ireturn, 1) := by decide +kernel
theorem dX6_open_0 : decode cX6_open 0 = .ok (.aload_n 0, 1) := by decide +kernel
theorem dX6_open_1 : decode cX6_open 1 = .ok (.iload_n 1, 1) := by decide +kernel
theorem dX6_open_2 : decode cX6_open 2 = .ok (.invokevirtual 156, 3) := by decide +kernel
theorem dX6_open_5 : decode cX6_open 5 = .ok (.ifCond .ne 5, 3) := by decide +kernel
theorem dX6_open_8 : decode cX6_open 8 = .ok (.iconst (-1), 1) := by decide +kernel
theorem dX6_open_9 : decode cX6_open 9 = .ok (.ireturn, 1) := by decide +kernel
theorem dX6_open_10 : decode cX6_open 10 = .ok (.aload_n 0, 1) := by decide +kernel
theorem dX6_open_11 : decode cX6_open 11 = .ok (.getfield 41, 3) := by decide +kernel
theorem dX6_open_14 : decode cX6_open 14 = .ok (.iload_n 1, 1) := by decide +kernel
theorem dX6_open_15 : decode cX6_open 15 = .ok (.baload, 1) := by decide +kernel
theorem dX6_open_16 : decode cX6_open 16 = .ok (.ifCond .eq 8, 3) := by decide +kernel
theorem dX6_open_19 : decode cX6_open 19 = .ok (.bipush (-3), 2) := by decide +kernel
theorem dX6_open_21 : decode cX6_open 21 = .ok (.goto 8, 3) := by decide +kernel
theorem dX6_open_24 : decode cX6_open 24 = .ok (.aload_n 0, 1) := by decide +kernel
theorem dX6_open_25 : decode cX6_open 25 = .ok (.iload_n 1, 1) := by decide +kernel
theorem dX6_open_26 : decode cX6_open 26 = .ok (.invokevirtual 178, 3) := by decide +kernel
theorem dX6_open_29 : decode cX6_open 29 = .ok (.ireturn, 1) := by decide +kernel
theorem dX6_sleep_0 : decode cX6_sleep 0 = .ok (.iload_n 1, 1) := by decide +kernel
theorem dX6_sleep_1 : decode cX6_sleep 1 = .ok (.iconst 0, 1) := by decide +kernel
theorem dX6_sleep_2 : decode cX6_sleep 2 = .ok (.bipush 9, 2) := by decide +kernel
theorem dX6_sleep_4 : decode cX6_sleep 4 = .ok (.invokestatic 86, 3) := by decide +kernel
theorem dX6_sleep_7 : decode cX6_sleep 7 = .ok (.ifCond .ne 6, 3) := by decide +kernel
theorem dX6_sleep_10 : decode cX6_sleep 10 = .ok (.bipush (-2), 2) := by decide +kernel
theorem dX6_sleep_12 : decode cX6_sleep 12 = .ok (.ireturn, 1) := by decide +kernel
theorem dX6_sleep_13 : decode cX6_sleep 13 = .ok (.aload_n 0, 1) := by decide +kernel
theorem dX6_sleep_14 : decode cX6_sleep 14 = .ok (.getfield 90, 3) := by decide +kernel
theorem dX6_sleep_17 : decode cX6_sleep 17 = .ok (.ifCond .eq 14, 3) := by decide +kernel
theorem dX6_sleep_20 : decode cX6_sleep 20 = .ok (.aload_n 0, 1) := by decide +kernel
theorem dX6_sleep_21 : decode cX6_sleep 21 = .ok (.getfield 129, 3) := by decide +kernel
theorem dX6_sleep_24 : decode cX6_sleep 24 = .ok (.iload_n 1, 1) := by decide +kernel
theorem dX6_sleep_25 : decode cX6_sleep 25 = .ok (.iadd, 1) := by decide +kernel
theorem dX6_sleep_26 : decode cX6_sleep 26 = .ok (.bipush 99, 2) := by decide +kernel
theorem dX6_sleep_28 : decode cX6_sleep 28 = .ok (.if_icmp .le 6, 3) := by decide +kernel
theorem dX6_sleep_31 : decode cX6_sleep 31 = .ok (.bipush (-3), 2) := by decide +kernel
theorem dX6_sleep_33 : decode cX6_sleep 33 = .ok (.ireturn, 1) := by decide +kernel
theorem dX6_sleep_34 : decode cX6_sleep 34 = .ok (.aload_n 0, 1) := by decide +kernel
theorem dX6_sleep_35 : decode cX6_sleep 35 = .ok (.iload_n 1, 1) := by decide +kernel
theorem dX6_sleep_36 : decode cX6_sleep 36 = .ok (.invokevirtual 181, 3) := by decide +kernel
theorem dX6_sleep_39 : decode cX6_sleep 39 = .ok (.aload_n 0, 1) := by decide +kernel
theorem dX6_sleep_40 : decode cX6_sleep 40 = .ok (.getfield 129, 3) := by decide +kernel
theorem dX6_sleep_43 : decode cX6_sleep 43 = .ok (.ireturn, 1) := by decide +kernel
theorem dX6_keepAll_0 : decode cX6_keepAll 0 = .ok (.aload_n 0, 1) := by decide +kernel
theorem dX6_keepAll_1 : decode cX6_keepAll 1 = .ok (.aload_n 0, 1) := by decide +kernel
theorem dX6_keepAll_2 : decode cX6_keepAll 2 = .ok (.getfield 129, 3) := by decide +kernel
theorem dX6_keepAll_5 : decode cX6_keepAll 5 = .ok (.putfield 185, 3) := by decide +kernel
theorem dX6_keepAll_8 : decode cX6_keepAll 8 = .ok (.iconst 0, 1) := by decide +kernel
theorem dX6_keepAll_9 : decode cX6_keepAll 9 = .ok (.istore_n 1, 1) := by decide +kernel
theorem dX6_keepAll_10 : decode cX6_keepAll 10 = .ok (.iload_n 1, 1) := by decide +kernel
theorem dX6_keepAll_11 : decode cX6_keepAll 11 = .ok (.iconst 4, 1) := by decide +kernel
theorem dX6_keepAll_12 : decode cX6_keepAll 12 = .ok (.if_icmp .ge 45, 3) := by decide +kernel
theorem dX6_keepAll_15 : decode cX6_keepAll 15 = .ok (.aload_n 0, 1) := by decide +kernel
theorem dX6_keepAll_16 : decode cX6_keepAll 16 = .ok (.getfield 50, 3) := by decide +kernel
theorem dX6_keepAll_19 : decode cX6_keepAll 19 = .ok (.iload_n 1, 1) := by decide +kernel
theorem dX6_keepAll_20 : decode cX6_keepAll 20 = .ok (.aload_n 0, 1) := by decide +kernel
theorem dX6_keepAll_21 : decode cX6_keepAll 21 = .ok (.getfield 19, 3) := by decide +kernel
theorem dX6_keepAll_24 : decode cX6_keepAll 24 = .ok (.iload_n 1, 1) := by decide +kernel
theorem dX6_keepAll_25 : decode cX6_keepAll 25 = .ok (.iaload, 1) := by decide +kernel
theorem dX6_keepAll_26 : decode cX6_keepAll 26 = .ok (.iastore, 1) := by decide +kernel
theorem dX6_keepAll_27 : decode cX6_keepAll 27 = .ok (.aload_n 0, 1) := by decide +kernel
theorem dX6_keepAll_28 : decode cX6_keepAll 28 = .ok (.getfield 53, 3) := by decide +kernel
theorem dX6_keepAll_31 : decode cX6_keepAll 31 = .ok (.iload_n 1, 1) := by decide +kernel
theorem dX6_keepAll_32 : decode cX6_keepAll 32 = .ok (.aload_n 0, 1) := by decide +kernel
theorem dX6_keepAll_33 : decode cX6_keepAll 33 = .ok (.getfield 22, 3) := by decide +kernel
theorem dX6_keepAll_36 : decode cX6_keepAll 36 = .ok (.iload_n 1, 1) := by decide +kernel
theorem dX6_keepAll_37 : decode cX6_keepAll 37 = .ok (.iaload, 1) := by decide +kernel
theorem dX6_keepAll_38 : decode cX6_keepAll 38 = .ok (.iastore, 1) := by decide +kernel
theorem dX6_keepAll_39 : decode cX6_keepAll 39 = .ok (.aload_n 0, 1) := by decide +kernel
theorem dX6_keepAll_40 : decode cX6_keepAll 40 = .ok (.getfield 56, 3) := by decide +kernel
theorem dX6_keepAll_43 : decode cX6_keepAll 43 = .ok (.iload_n 1, 1) := by decide +kernel
theorem dX6_keepAll_44 : decode cX6_keepAll 44 = .ok (.aload_n 0, 1) := by decide +kernel
theorem dX6_keepAll_45 : decode cX6_keepAll 45 = .ok (.getfield 25, 3) := by decide +kernel
theorem dX6_keepAll_48 : decode cX6_keepAll 48 = .ok (.iload_n 1, 1) := by decide +kernel
theorem dX6_keepAll_49 : decode cX6_keepAll 49 = .ok (.baload, 1) := by decide +kernel
theorem dX6_keepAll_50 : decode cX6_keepAll 50 = .ok (.bastore, 1) := by decide +kernel
theorem dX6_keepAll_51 : decode cX6_keepAll 51 = .ok (.iinc 1 1, 3) := by decide +kernel
theorem dX6_keepAll_54 : decode cX6_keepAll 54 = .ok (.goto (-44), 3) := by decide +kernel
theorem dX6_keepAll_57 : decode cX6_keepAll 57 = .ok (.iconst 0, 1) := by decide +kernel
theorem dX6_keepAll_58 : decode cX6_keepAll 58 = .ok (.istore_n 1, 1) := by decide +kernel
theorem dX6_keepAll_59 : decode cX6_keepAll 59 = .ok (.iload_n 1, 1) := by decide +kernel
theorem dX6_keepAll_60 : decode cX6_keepAll 60 = .ok (.bipush 6, 2) := by decide +kernel
theorem dX6_keepAll_62 : decode cX6_keepAll 62 = .ok (.if_icmp .ge 33, 3) := by decide +kernel
theorem dX6_keepAll_65 : decode cX6_keepAll 65 = .ok (.aload_n 0, 1) := by decide +kernel
theorem dX6_keepAll_66 : decode cX6_keepAll 66 = .ok (.getfield 59, 3) := by decide +kernel
theorem dX6_keepAll_69 : decode cX6_keepAll 69 = .ok (.iload_n 1, 1) := by decide +kernel
theorem dX6_keepAll_70 : decode cX6_keepAll 70 = .ok (.aload_n 0, 1) := by decide +kernel
theorem dX6_keepAll_71 : decode cX6_keepAll 71 = .ok (.getfield 32, 3) := by decide +kernel
theorem dX6_keepAll_74 : decode cX6_keepAll 74 = .ok (.iload_n 1, 1) := by decide +kernel
theorem dX6_keepAll_75 : decode cX6_keepAll 75 = .ok (.iaload, 1) := by decide +kernel
theorem dX6_keepAll_76 : decode cX6_keepAll 76 = .ok (.iastore, 1) := by decide +kernel
theorem dX6_keepAll_77 : decode cX6_keepAll 77 = .ok (.aload_n 0, 1) := by decide +kernel
theorem dX6_keepAll_78 : decode cX6_keepAll 78 = .ok (.getfield 62, 3) := by decide +kernel
theorem dX6_keepAll_81 : decode cX6_keepAll 81 = .ok (.iload_n 1, 1) := by decide +kernel
theorem dX6_keepAll_82 : decode cX6_keepAll 82 = .ok (.aload_n 0, 1) := by decide +kernel
theorem dX6_keepAll_83 : decode cX6_keepAll 83 = .ok (.getfield 41, 3) := by decide +kernel
theorem dX6_keepAll_86 : decode cX6_keepAll 86 = .ok (.iload_n 1, 1) := by decide +kernel
theorem dX6_keepAll_87 : decode cX6_keepAll 87 = .ok (.baload, 1) := by decide +kernel
theorem dX6_keepAll_88 : decode cX6_keepAll 88 = .ok (.bastore, 1) := by decide +kernel
theorem dX6_keepAll_89 : decode cX6_keepAll 89 = .ok (.iinc 1 1, 3) := by decide +kernel
theorem dX6_keepAll_92 : decode cX6_keepAll 92 = .ok (.goto (-33), 3) := by decide +kernel
theorem dX6_keepAll_95 : decode cX6_keepAll 95 = .ok (.return_, 1) := by decide +kernel
theorem dX6_putBack_0 : decode cX6_putBack 0 = .ok (.aload_n 0, 1) := by decide +kernel
theorem dX6_putBack_1 : decode cX6_putBack 1 = .ok (.aload_n 0, 1) := by decide +kernel
theorem dX6_putBack_2 : decode cX6_putBack 2 = .ok (.getfield 185, 3) := by decide +kernel
theorem dX6_putBack_5 : decode cX6_putBack 5 = .ok (.putfield 129, 3) := by decide +kernel
theorem dX6_putBack_8 : decode cX6_putBack 8 = .ok (.iconst 0, 1) := by decide +kernel
theorem dX6_putBack_9 : decode cX6_putBack 9 = .ok (.istore_n 1, 1) := by decide +kernel
theorem dX6_putBack_10 : decode cX6_putBack 10 = .ok (.iload_n 1, 1) := by decide +kernel
theorem dX6_putBack_11 : decode cX6_putBack 11 = .ok (.iconst 4, 1) := by decide +kernel
theorem dX6_putBack_12 : decode cX6_putBack 12 = .ok (.if_icmp .ge 45, 3) := by decide +kernel
theorem dX6_putBack_15 : decode cX6_putBack 15 = .ok (.aload_n 0, 1) := by decide +kernel
theorem dX6_putBack_16 : decode cX6_putBack 16 = .ok (.getfield 19, 3) := by decide +kernel
theorem dX6_putBack_19 : decode cX6_putBack 19 = .ok (.iload_n 1, 1) := by decide +kernel
theorem dX6_putBack_20 : decode cX6_putBack 20 = .ok (.aload_n 0, 1) := by decide +kernel
theorem dX6_putBack_21 : decode cX6_putBack 21 = .ok (.getfield 50, 3) := by decide +kernel
theorem dX6_putBack_24 : decode cX6_putBack 24 = .ok (.iload_n 1, 1) := by decide +kernel
theorem dX6_putBack_25 : decode cX6_putBack 25 = .ok (.iaload, 1) := by decide +kernel
theorem dX6_putBack_26 : decode cX6_putBack 26 = .ok (.iastore, 1) := by decide +kernel
theorem dX6_putBack_27 : decode cX6_putBack 27 = .ok (.aload_n 0, 1) := by decide +kernel
theorem dX6_putBack_28 : decode cX6_putBack 28 = .ok (.getfield 22, 3) := by decide +kernel
theorem dX6_putBack_31 : decode cX6_putBack 31 = .ok (.iload_n 1, 1) := by decide +kernel
theorem dX6_putBack_32 : decode cX6_putBack 32 = .ok (.aload_n 0, 1) := by decide +kernel
theorem dX6_putBack_33 : decode cX6_putBack 33 = .ok (.getfield 53, 3) := by decide +kernel
theorem dX6_putBack_36 : decode cX6_putBack 36 = .ok (.iload_n 1, 1) := by decide +kernel
theorem dX6_putBack_37 : decode cX6_putBack 37 = .ok (.iaload, 1) := by decide +kernel
theorem dX6_putBack_38 : decode cX6_putBack 38 = .ok (.iastore, 1) := by decide +kernel
theorem dX6_putBack_39 : decode cX6_putBack 39 = .ok (.aload_n 0, 1) := by decide +kernel
theorem dX6_putBack_40 : decode cX6_putBack 40 = .ok (.getfield 25, 3) := by decide +kernel
theorem dX6_putBack_43 : decode cX6_putBack 43 = .ok (.iload_n 1, 1) := by decide +kernel
theorem dX6_putBack_44 : decode cX6_putBack 44 = .ok (.aload_n 0, 1) := by decide +kernel
theorem dX6_putBack_45 : decode cX6_putBack 45 = .ok (.getfield 56, 3) := by decide +kernel
theorem dX6_putBack_48 : decode cX6_putBack 48 = .ok (.iload_n 1, 1) := by decide +kernel
theorem dX6_putBack_49 : decode cX6_putBack 49 = .ok (.baload, 1) := by decide +kernel
theorem dX6_putBack_50 : decode cX6_putBack 50 = .ok (.bastore, 1) := by decide +kernel
theorem dX6_putBack_51 : decode cX6_putBack 51 = .ok (.iinc 1 1, 3) := by decide +kernel
theorem dX6_putBack_54 : decode cX6_putBack 54 = .ok (.goto (-44), 3) := by decide +kernel
theorem dX6_putBack_57 : decode cX6_putBack 57 = .ok (.iconst 0, 1) := by decide +kernel
theorem dX6_putBack_58 : decode cX6_putBack 58 = .ok (.istore_n 1, 1) := by decide +kernel
theorem dX6_putBack_59 : decode cX6_putBack 59 = .ok (.iload_n 1, 1) := by decide +kernel
theorem dX6_putBack_60 : decode cX6_putBack 60 = .ok (.bipush 6, 2) := by decide +kernel
theorem dX6_putBack_62 : decode cX6_putBack 62 = .ok (.if_icmp .ge 33, 3) := by decide +kernel
theorem dX6_putBack_65 : decode cX6_putBack 65 = .ok (.aload_n 0, 1) := by decide +kernel
theorem dX6_putBack_66 : decode cX6_putBack 66 = .ok (.getfield 32, 3) := by decide +kernel
theorem dX6_putBack_69 : decode cX6_putBack 69 = .ok (.iload_n 1, 1) := by decide +kernel
theorem dX6_putBack_70 : decode cX6_putBack 70 = .ok (.aload_n 0, 1) := by decide +kernel
theorem dX6_putBack_71 : decode cX6_putBack 71 = .ok (.getfield 59, 3) := by decide +kernel
theorem dX6_putBack_74 : decode cX6_putBack 74 = .ok (.iload_n 1, 1) := by decide +kernel
theorem dX6_putBack_75 : decode cX6_putBack 75 = .ok (.iaload, 1) := by decide +kernel
theorem dX6_putBack_76 : decode cX6_putBack 76 = .ok (.iastore, 1) := by decide +kernel
theorem dX6_putBack_77 : decode cX6_putBack 77 = .ok (.aload_n 0, 1) := by decide +kernel
theorem dX6_putBack_78 : decode cX6_putBack 78 = .ok (.getfield 41, 3) := by decide +kernel
theorem dX6_putBack_81 : decode cX6_putBack 81 = .ok (.iload_n 1, 1) := by decide +kernel
theorem dX6_putBack_82 : decode cX6_putBack 82 = .ok (.aload_n 0, 1) := by decide +kernel
theorem dX6_putBack_83 : decode cX6_putBack 83 = .ok (.getfield 62, 3) := by decide +kernel
theorem dX6_putBack_86 : decode cX6_putBack 86 = .ok (.iload_n 1, 1) := by decide +kernel
theorem dX6_putBack_87 : decode cX6_putBack 87 = .ok (.baload, 1) := by decide +kernel
theorem dX6_putBack_88 : decode cX6_putBack 88 = .ok (.bastore, 1) := by decide +kernel
theorem dX6_putBack_89 : decode cX6_putBack 89 = .ok (.iinc 1 1, 3) := by decide +kernel
theorem dX6_putBack_92 : decode cX6_putBack 92 = .ok (.goto (-33), 3) := by decide +kernel
theorem dX6_putBack_95 : decode cX6_putBack 95 = .ok (.return_, 1) := by decide +kernel
theorem dX6_goes_0 : decode cX6_goes 0 = .ok (.iload_n 2, 1) := by decide +kernel
theorem dX6_goes_1 : decode cX6_goes 1 = .ok (.bipush 9, 2) := by decide +kernel
theorem dX6_goes_3 : decode cX6_goes 3 = .ok (.if_icmp .ne 23, 3) := by decide +kernel
theorem dX6_goes_6 : decode cX6_goes 6 = .ok (.aload_n 0, 1) := by decide +kernel
theorem dX6_goes_7 : decode cX6_goes 7 = .ok (.getfield 129, 3) := by decide +kernel
theorem dX6_goes_10 : decode cX6_goes 10 = .ok (.iload_n 1, 1) := by decide +kernel
theorem dX6_goes_11 : decode cX6_goes 11 = .ok (.iadd, 1) := by decide +kernel
theorem dX6_goes_12 : decode cX6_goes 12 = .ok (.bipush 99, 2) := by decide +kernel
theorem dX6_goes_14 : decode cX6_goes 14 = .ok (.if_icmp .le 5, 3) := by decide +kernel
theorem dX6_goes_17 : decode cX6_goes 17 = .ok (.iconst 0, 1) := by decide +kernel
theorem dX6_goes_18 : decode cX6_goes 18 = .ok (.ireturn, 1) := by decide +kernel
theorem dX6_goes_19 : decode cX6_goes 19 = .ok (.aload_n 0, 1) := by decide +kernel
theorem dX6_goes_20 : decode cX6_goes 20 = .ok (.iload_n 1, 1) := by decide +kernel
theorem dX6_goes_21 : decode cX6_goes 21 = .ok (.invokevirtual 181, 3) := by decide +kernel
theorem dX6_goes_24 : decode cX6_goes 24 = .ok (.iconst 1, 1) := by decide +kernel
theorem dX6_goes_25 : decode cX6_goes 25 = .ok (.ireturn, 1) := by decide +kernel
theorem dX6_goes_26 : decode cX6_goes 26 = .ok (.iload_n 2, 1) := by decide +kernel
theorem dX6_goes_27 : decode cX6_goes 27 = .ok (.bipush 8, 2) := by decide +kernel
theorem dX6_goes_29 : decode cX6_goes 29 = .ok (.if_icmp .ne 22, 3) := by decide +kernel
theorem dX6_goes_32 : decode cX6_goes 32 = .ok (.aload_n 0, 1) := by decide +kernel
theorem dX6_goes_33 : decode cX6_goes 33 = .ok (.getfield 41, 3) := by decide +kernel
theorem dX6_goes_36 : decode cX6_goes 36 = .ok (.iload_n 1, 1) := by decide +kernel
theorem dX6_goes_37 : decode cX6_goes 37 = .ok (.baload, 1) := by decide +kernel
theorem dX6_goes_38 : decode cX6_goes 38 = .ok (.ifCond .eq 5, 3) := by decide +kernel
theorem dX6_goes_41 : decode cX6_goes 41 = .ok (.iconst 0, 1) := by decide +kernel
theorem dX6_goes_42 : decode cX6_goes 42 = .ok (.ireturn, 1) := by decide +kernel
theorem dX6_goes_43 : decode cX6_goes 43 = .ok (.aload_n 0, 1) := by decide +kernel
theorem dX6_goes_44 : decode cX6_goes 44 = .ok (.iload_n 1, 1) := by decide +kernel
theorem dX6_goes_45 : decode cX6_goes 45 = .ok (.invokevirtual 178, 3) := by decide +kernel
theorem dX6_goes_48 : decode cX6_goes 48 = .ok (.pop, 1) := by decide +kernel
theorem dX6_goes_49 : decode cX6_goes 49 = .ok (.iconst 1, 1) := by decide +kernel
theorem dX6_goes_50 : decode cX6_goes 50 = .ok (.ireturn, 1) := by decide +kernel
theorem dX6_goes_51 : decode cX6_goes 51 = .ok (.aload_n 0, 1) := by decide +kernel
theorem dX6_goes_52 : decode cX6_goes 52 = .ok (.iload_n 1, 1) := by decide +kernel
theorem dX6_goes_53 : decode cX6_goes 53 = .ok (.iload_n 2, 1) := by decide +kernel
theorem dX6_goes_54 : decode cX6_goes 54 = .ok (.invokevirtual 171, 3) := by decide +kernel
theorem dX6_goes_57 : decode cX6_goes 57 = .ok (.ifCond .ne 5, 3) := by decide +kernel
theorem dX6_goes_60 : decode cX6_goes 60 = .ok (.iconst 0, 1) := by decide +kernel
theorem dX6_goes_61 : decode cX6_goes 61 = .ok (.ireturn, 1) := by decide +kernel
theorem dX6_goes_62 : decode cX6_goes 62 = .ok (.aload_n 0, 1) := by decide +kernel
theorem dX6_goes_63 : decode cX6_goes 63 = .ok (.iload_n 1, 1) := by decide +kernel
theorem dX6_goes_64 : decode cX6_goes 64 = .ok (.iload_n 2, 1) := by decide +kernel
theorem dX6_goes_65 : decode cX6_goes 65 = .ok (.invokevirtual 174, 3) := by decide +kernel
theorem dX6_goes_68 : decode cX6_goes 68 = .ok (.iconst 1, 1) := by decide +kernel
theorem dX6_goes_69 : decode cX6_goes 69 = .ok (.ireturn, 1) := by decide +kernel
theorem dX6_year_0 : decode cX6_year 0 = .ok (.aload_n 0, 1) := by decide +kernel
theorem dX6_year_1 : decode cX6_year 1 = .ok (.iconst 0, 1) := by decide +kernel
theorem dX6_year_2 : decode cX6_year 2 = .ok (.putfield 80, 3) := by decide +kernel
theorem dX6_year_5 : decode cX6_year 5 = .ok (.iload_n 1, 1) := by decide +kernel
theorem dX6_year_6 : decode cX6_year 6 = .ok (.invokestatic 99, 3) := by decide +kernel
theorem dX6_year_9 : decode cX6_year 9 = .ok (.ifCond .ne 5, 3) := by decide +kernel
theorem dX6_year_12 : decode cX6_year 12 = .ok (.iconst (-1), 1) := by decide +kernel
theorem dX6_year_13 : decode cX6_year 13 = .ok (.ireturn, 1) := by decide +kernel
theorem dX6_year_14 : decode cX6_year 14 = .ok (.iload 5, 2) := by decide +kernel
theorem dX6_year_16 : decode cX6_year 16 = .ok (.iconst 0, 1) := by decide +kernel
theorem dX6_year_17 : decode cX6_year 17 = .ok (.iconst 3, 1) := by decide +kernel
theorem dX6_year_18 : decode cX6_year 18 = .ok (.invokestatic 86, 3) := by decide +kernel
theorem dX6_year_21 : decode cX6_year 21 = .ok (.ifCond .ne 39, 3) := by decide +kernel
theorem dX6_year_24 : decode cX6_year 24 = .ok (.iload 5, 2) := by decide +kernel
theorem dX6_year_26 : decode cX6_year 26 = .ok (.bipush 10, 2) := by decide +kernel
theorem dX6_year_28 : decode cX6_year 28 = .ok (.bipush 13, 2) := by decide +kernel
theorem dX6_year_30 : decode cX6_year 30 = .ok (.invokestatic 86, 3) := by decide +kernel
theorem dX6_year_33 : decode cX6_year 33 = .ok (.ifCond .ne 27, 3) := by decide +kernel
theorem dX6_year_36 : decode cX6_year 36 = .ok (.iload 5, 2) := by decide +kernel
theorem dX6_year_38 : decode cX6_year 38 = .ok (.bipush 20, 2) := by decide +kernel
theorem dX6_year_40 : decode cX6_year 40 = .ok (.bipush 23, 2) := by decide +kernel
theorem dX6_year_42 : decode cX6_year 42 = .ok (.invokestatic 86, 3) := by decide +kernel
theorem dX6_year_45 : decode cX6_year 45 = .ok (.ifCond .ne 15, 3) := by decide +kernel
theorem dX6_year_48 : decode cX6_year 48 = .ok (.iload 5, 2) := by decide +kernel
theorem dX6_year_50 : decode cX6_year 50 = .ok (.bipush 30, 2) := by decide +kernel
theorem dX6_year_52 : decode cX6_year 52 = .ok (.bipush 35, 2) := by decide +kernel
theorem dX6_year_54 : decode cX6_year 54 = .ok (.invokestatic 86, 3) := by decide +kernel
theorem dX6_year_57 : decode cX6_year 57 = .ok (.ifCond .eq 7, 3) := by decide +kernel
theorem dX6_year_60 : decode cX6_year 60 = .ok (.iconst 1, 1) := by decide +kernel
theorem dX6_year_61 : decode cX6_year 61 = .ok (.goto 4, 3) := by decide +kernel
theorem dX6_year_64 : decode cX6_year 64 = .ok (.iconst 0, 1) := by decide +kernel
theorem dX6_year_65 : decode cX6_year 65 = .ok (.istore 6, 2) := by decide +kernel
theorem dX6_year_67 : decode cX6_year 67 = .ok (.iload_n 2, 1) := by decide +kernel
theorem dX6_year_68 : decode cX6_year 68 = .ok (.invokestatic 103, 3) := by decide +kernel
theorem dX6_year_71 : decode cX6_year 71 = .ok (.ifCond .eq 19, 3) := by decide +kernel
theorem dX6_year_74 : decode cX6_year 74 = .ok (.iload 4, 2) := by decide +kernel
theorem dX6_year_76 : decode cX6_year 76 = .ok (.iconst 0, 1) := by decide +kernel
theorem dX6_year_77 : decode cX6_year 77 = .ok (.bipush 20, 2) := by decide +kernel
theorem dX6_year_79 : decode cX6_year 79 = .ok (.invokestatic 86, 3) := by decide +kernel
theorem dX6_year_82 : decode cX6_year 82 = .ok (.ifCond .eq 8, 3) := by decide +kernel
theorem dX6_year_85 : decode cX6_year 85 = .ok (.iload 6, 2) := by decide +kernel
theorem dX6_year_87 : decode cX6_year 87 = .ok (.ifCond .ne 6, 3) := by decide +kernel
theorem dX6_year_90 : decode cX6_year 90 = .ok (.bipush (-2), 2) := by decide +kernel
theorem dX6_year_92 : decode cX6_year 92 = .ok (.ireturn, 1) := by decide +kernel
theorem dX6_year_93 : decode cX6_year 93 = .ok (.aload_n 0, 1) := by decide +kernel
theorem dX6_year_94 : decode cX6_year 94 = .ok (.iload_n 1, 1) := by decide +kernel
theorem dX6_year_95 : decode cX6_year 95 = .ok (.iload_n 2, 1) := by decide +kernel
theorem dX6_year_96 : decode cX6_year 96 = .ok (.iload_n 3, 1) := by decide +kernel
theorem dX6_year_97 : decode cX6_year 97 = .ok (.iconst 2, 1) := by decide +kernel
theorem dX6_year_98 : decode cX6_year 98 = .ok (.iload 4, 2) := by decide +kernel
theorem dX6_year_100 : decode cX6_year 100 = .ok (.imul, 1) := by decide +kernel
theorem dX6_year_101 : decode cX6_year 101 = .ok (.invokevirtual 106, 3) := by decide +kernel
theorem dX6_year_104 : decode cX6_year 104 = .ok (.istore 7, 2) := by decide +kernel
theorem dX6_year_106 : decode cX6_year 106 = .ok (.iload 7, 2) := by decide +kernel
theorem dX6_year_108 : decode cX6_year 108 = .ok (.ifCond .eq 10, 3) := by decide +kernel
theorem dX6_year_111 : decode cX6_year 111 = .ok (.aload_n 0, 1) := by decide +kernel
theorem dX6_year_112 : decode cX6_year 112 = .ok (.iload 7, 2) := by decide +kernel
theorem dX6_year_114 : decode cX6_year 114 = .ok (.invokevirtual 110, 3) := by decide +kernel
theorem dX6_year_117 : decode cX6_year 117 = .ok (.ireturn, 1) := by decide +kernel
theorem dX6_year_118 : decode cX6_year 118 = .ok (.aload_n 0, 1) := by decide +kernel
theorem dX6_year_119 : decode cX6_year 119 = .ok (.getfield 90, 3) := by decide +kernel
theorem dX6_year_122 : decode cX6_year 122 = .ok (.ifCond .ne 6, 3) := by decide +kernel
theorem dX6_year_125 : decode cX6_year 125 = .ok (.bipush (-3), 2) := by decide +kernel
theorem dX6_year_127 : decode cX6_year 127 = .ok (.ireturn, 1) := by decide +kernel
theorem dX6_year_128 : decode cX6_year 128 = .ok (.bipush 60, 2) := by decide +kernel
theorem dX6_year_130 : decode cX6_year 130 = .ok (.iload_n 1, 1) := by decide +kernel
theorem dX6_year_131 : decode cX6_year 131 = .ok (.imul, 1) := by decide +kernel
theorem dX6_year_132 : decode cX6_year 132 = .ok (.iload_n 3, 1) := by decide +kernel
theorem dX6_year_133 : decode cX6_year 133 = .ok (.iadd, 1) := by decide +kernel
theorem dX6_year_134 : decode cX6_year 134 = .ok (.istore 8, 2) := by decide +kernel
theorem dX6_year_136 : decode cX6_year 136 = .ok (.iconst 0, 1) := by decide +kernel
theorem dX6_year_137 : decode cX6_year 137 = .ok (.istore 9, 2) := by decide +kernel
theorem dX6_year_139 : decode cX6_year 139 = .ok (.iload 9, 2) := by decide +kernel
theorem dX6_year_141 : decode cX6_year 141 = .ok (.iload 4, 2) := by decide +kernel
theorem dX6_year_143 : decode cX6_year 143 = .ok (.if_icmp .ge 49, 3) := by decide +kernel
theorem dX6_year_146 : decode cX6_year 146 = .ok (.aload_n 0, 1) := by decide +kernel
theorem dX6_year_147 : decode cX6_year 147 = .ok (.aload_n 0, 1) := by decide +kernel
theorem dX6_year_148 : decode cX6_year 148 = .ok (.getfield 16, 3) := by decide +kernel
theorem dX6_year_151 : decode cX6_year 151 = .ok (.iload 8, 2) := by decide +kernel
theorem dX6_year_153 : decode cX6_year 153 = .ok (.iconst 2, 1) := by decide +kernel
theorem dX6_year_154 : decode cX6_year 154 = .ok (.iload 9, 2) := by decide +kernel
theorem dX6_year_156 : decode cX6_year 156 = .ok (.imul, 1) := by decide +kernel
theorem dX6_year_157 : decode cX6_year 157 = .ok (.iadd, 1) := by decide +kernel
theorem dX6_year_158 : decode cX6_year 158 = .ok (.iaload, 1) := by decide +kernel
theorem dX6_year_159 : decode cX6_year 159 = .ok (.aload_n 0, 1) := by decide +kernel
theorem dX6_year_160 : decode cX6_year 160 = .ok (.getfield 16, 3) := by decide +kernel
theorem dX6_year_163 : decode cX6_year 163 = .ok (.iload 8, 2) := by decide +kernel
theorem dX6_year_165 : decode cX6_year 165 = .ok (.iconst 2, 1) := by decide +kernel
theorem dX6_year_166 : decode cX6_year 166 = .ok (.iload 9, 2) := by decide +kernel
theorem dX6_year_168 : decode cX6_year 168 = .ok (.imul, 1) := by decide +kernel
theorem dX6_year_169 : decode cX6_year 169 = .ok (.iadd, 1) := by decide +kernel
theorem dX6_year_170 : decode cX6_year 170 = .ok (.iconst 1, 1) := by decide +kernel
theorem dX6_year_171 : decode cX6_year 171 = .ok (.iadd, 1) := by decide +kernel
theorem dX6_year_172 : decode cX6_year 172 = .ok (.iaload, 1) := by decide +kernel
theorem dX6_year_173 : decode cX6_year 173 = .ok (.invokevirtual 188, 3) := by decide +kernel
theorem dX6_year_176 : decode cX6_year 176 = .ok (.istore 10, 2) := by decide +kernel
theorem dX6_year_178 : decode cX6_year 178 = .ok (.iload 10, 2) := by decide +kernel
theorem dX6_year_180 : decode cX6_year 180 = .ok (.ifCond .eq 6, 3) := by decide +kernel
theorem dX6_year_183 : decode cX6_year 183 = .ok (.iload 10, 2) := by decide +kernel
theorem dX6_year_185 : decode cX6_year 185 = .ok (.ireturn, 1) := by decide +kernel
theorem dX6_year_186 : decode cX6_year 186 = .ok (.iinc 9 1, 3) := by decide +kernel
theorem dX6_year_189 : decode cX6_year 189 = .ok (.goto (-50), 3) := by decide +kernel
theorem dX6_year_192 : decode cX6_year 192 = .ok (.aload_n 0, 1) := by decide +kernel
theorem dX6_year_193 : decode cX6_year 193 = .ok (.invokevirtual 191, 3) := by decide +kernel
theorem dX6_year_196 : decode cX6_year 196 = .ok (.bipush (-9), 2) := by decide +kernel
theorem dX6_year_198 : decode cX6_year 198 = .ok (.istore 9, 2) := by decide +kernel
theorem dX6_year_200 : decode cX6_year 200 = .ok (.iconst 0, 1) := by decide +kernel
theorem dX6_year_201 : decode cX6_year 201 = .ok (.istore 10, 2) := by decide +kernel
theorem dX6_year_203 : decode cX6_year 203 = .ok (.iload 10, 2) := by decide +kernel
theorem dX6_year_205 : decode cX6_year 205 = .ok (.iload 4, 2) := by decide +kernel
theorem dX6_year_207 : decode cX6_year 207 = .ok (.if_icmp .ge 58, 3) := by decide +kernel
theorem dX6_year_210 : decode cX6_year 210 = .ok (.iload 9, 2) := by decide +kernel
theorem dX6_year_212 : decode cX6_year 212 = .ok (.bipush (-9), 2) := by decide +kernel
theorem dX6_year_214 : decode cX6_year 214 = .ok (.if_icmp .ne 51, 3) := by decide +kernel
theorem dX6_year_217 : decode cX6_year 217 = .ok (.aload_n 0, 1) := by decide +kernel
theorem dX6_year_218 : decode cX6_year 218 = .ok (.aload_n 0, 1) := by decide +kernel
theorem dX6_year_219 : decode cX6_year 219 = .ok (.getfield 16, 3) := by decide +kernel
theorem dX6_year_222 : decode cX6_year 222 = .ok (.iload 8, 2) := by decide +kernel
theorem dX6_year_224 : decode cX6_year 224 = .ok (.iconst 2, 1) := by decide +kernel
theorem dX6_year_225 : decode cX6_year 225 = .ok (.iload 10, 2) := by decide +kernel
theorem dX6_year_227 : decode cX6_year 227 = .ok (.imul, 1) := by decide +kernel
theorem dX6_year_228 : decode cX6_year 228 = .ok (.iadd, 1) := by decide +kernel
theorem dX6_year_229 : decode cX6_year 229 = .ok (.iaload, 1) := by decide +kernel
theorem dX6_year_230 : decode cX6_year 230 = .ok (.aload_n 0, 1) := by decide +kernel
theorem dX6_year_231 : decode cX6_year 231 = .ok (.getfield 16, 3) := by decide +kernel
theorem dX6_year_234 : decode cX6_year 234 = .ok (.iload 8, 2) := by decide +kernel
theorem dX6_year_236 : decode cX6_year 236 = .ok (.iconst 2, 1) := by decide +kernel
theorem dX6_year_237 : decode cX6_year 237 = .ok (.iload 10, 2) := by decide +kernel
theorem dX6_year_239 : decode cX6_year 239 = .ok (.imul, 1) := by decide +kernel
theorem dX6_year_240 : decode cX6_year 240 = .ok (.iadd, 1) := by decide +kernel
theorem dX6_year_241 : decode cX6_year 241 = .ok (.iconst 1, 1) := by decide +kernel
theorem dX6_year_242 : decode cX6_year 242 = .ok (.iadd, 1) := by decide +kernel
theorem dX6_year_243 : decode cX6_year 243 = .ok (.iaload, 1) := by decide +kernel
theorem dX6_year_244 : decode cX6_year 244 = .ok (.invokevirtual 194, 3) := by decide +kernel
theorem dX6_year_247 : decode cX6_year 247 = .ok (.ifCond .eq 8, 3) := by decide +kernel
theorem dX6_year_250 : decode cX6_year 250 = .ok (.bipush (-9), 2) := by decide +kernel
theorem dX6_year_252 : decode cX6_year 252 = .ok (.goto 5, 3) := by decide +kernel
theorem dX6_year_255 : decode cX6_year 255 = .ok (.iload 10, 2) := by decide +kernel
theorem dX6_year_257 : decode cX6_year 257 = .ok (.istore 9, 2) := by decide +kernel
theorem dX6_year_259 : decode cX6_year 259 = .ok (.iinc 10 1, 3) := by decide +kernel
theorem dX6_year_262 : decode cX6_year 262 = .ok (.goto (-59), 3) := by decide +kernel
theorem dX6_year_265 : decode cX6_year 265 = .ok (.aload_n 0, 1) := by decide +kernel
theorem dX6_year_266 : decode cX6_year 266 = .ok (.iload 5, 2) := by decide +kernel
theorem dX6_year_268 : decode cX6_year 268 = .ok (.invokevirtual 197, 3) := by decide +kernel
theorem dX6_year_271 : decode cX6_year 271 = .ok (.istore 10, 2) := by decide +kernel
theorem dX6_year_273 : decode cX6_year 273 = .ok (.aload_n 0, 1) := by decide +kernel
theorem dX6_year_274 : decode cX6_year 274 = .ok (.invokevirtual 200, 3) := by decide +kernel
theorem dX6_year_277 : decode cX6_year 277 = .ok (.iload 5, 2) := by decide +kernel
theorem dX6_year_279 : decode cX6_year 279 = .ok (.iconst 1, 1) := by decide +kernel
theorem dX6_year_280 : decode cX6_year 280 = .ok (.if_icmp .ne 8, 3) := by decide +kernel
theorem dX6_year_283 : decode cX6_year 283 = .ok (.iload 9, 2) := by decide +kernel
theorem dX6_year_285 : decode cX6_year 285 = .ok (.goto 20, 3) := by decide +kernel
theorem dX6_year_288 : decode cX6_year 288 = .ok (.iload 9, 2) := by decide +kernel
theorem dX6_year_290 : decode cX6_year 290 = .ok (.bipush (-9), 2) := by decide +kernel
theorem dX6_year_292 : decode cX6_year 292 = .ok (.if_icmp .ne 8, 3) := by decide +kernel
theorem dX6_year_295 : decode cX6_year 295 = .ok (.iload 10, 2) := by decide +kernel
theorem dX6_year_297 : decode cX6_year 297 = .ok (.goto 8, 3) := by decide +kernel
theorem dX6_year_300 : decode cX6_year 300 = .ok (.bipush (-100), 2) := by decide +kernel
theorem dX6_year_302 : decode cX6_year 302 = .ok (.iload 9, 2) := by decide +kernel
theorem dX6_year_304 : decode cX6_year 304 = .ok (.isub, 1) := by decide +kernel
theorem dX6_year_305 : decode cX6_year 305 = .ok (.ireturn, 1) := by decide +kernel
theorem dX6_refusesPair_0 : decode cX6_refusesPair 0 = .ok (.iload_n 2, 1) := by decide +kernel
theorem dX6_refusesPair_1 : decode cX6_refusesPair 1 = .ok (.iconst 0, 1) := by decide +kernel
theorem dX6_refusesPair_2 : decode cX6_refusesPair 2 = .ok (.iconst 3, 1) := by decide +kernel
theorem dX6_refusesPair_3 : decode cX6_refusesPair 3 = .ok (.invokestatic 86, 3) := by decide +kernel
theorem dX6_refusesPair_6 : decode cX6_refusesPair 6 = .ok (.ifCond .ne 15, 3) := by decide +kernel
theorem dX6_refusesPair_9 : decode cX6_refusesPair 9 = .ok (.iload_n 2, 1) := by decide +kernel
theorem dX6_refusesPair_10 : decode cX6_refusesPair 10 = .ok (.bipush 8, 2) := by decide +kernel
theorem dX6_refusesPair_12 : decode cX6_refusesPair 12 = .ok (.if_icmp .eq 9, 3) := by decide +kernel
theorem dX6_refusesPair_15 : decode cX6_refusesPair 15 = .ok (.iload_n 2, 1) := by decide +kernel
theorem dX6_refusesPair_16 : decode cX6_refusesPair 16 = .ok (.bipush 9, 2) := by decide +kernel
theorem dX6_refusesPair_18 : decode cX6_refusesPair 18 = .ok (.if_icmp .ne 19, 3) := by decide +kernel
theorem dX6_refusesPair_21 : decode cX6_refusesPair 21 = .ok (.iload_n 2, 1) := by decide +kernel
theorem dX6_refusesPair_22 : decode cX6_refusesPair 22 = .ok (.bipush 9, 2) := by decide +kernel
theorem dX6_refusesPair_24 : decode cX6_refusesPair 24 = .ok (.if_icmp .ne 16, 3) := by decide +kernel
theorem dX6_refusesPair_27 : decode cX6_refusesPair 27 = .ok (.iload_n 1, 1) := by decide +kernel
theorem dX6_refusesPair_28 : decode cX6_refusesPair 28 = .ok (.iconst 0, 1) := by decide +kernel
theorem dX6_refusesPair_29 : decode cX6_refusesPair 29 = .ok (.bipush 9, 2) := by decide +kernel
theorem dX6_refusesPair_31 : decode cX6_refusesPair 31 = .ok (.invokestatic 86, 3) := by decide +kernel
theorem dX6_refusesPair_34 : decode cX6_refusesPair 34 = .ok (.ifCond .ne 6, 3) := by decide +kernel
theorem dX6_refusesPair_37 : decode cX6_refusesPair 37 = .ok (.bipush (-2), 2) := by decide +kernel
theorem dX6_refusesPair_39 : decode cX6_refusesPair 39 = .ok (.ireturn, 1) := by decide +kernel
theorem dX6_refusesPair_40 : decode cX6_refusesPair 40 = .ok (.iload_n 2, 1) := by decide +kernel
theorem dX6_refusesPair_41 : decode cX6_refusesPair 41 = .ok (.bipush 9, 2) := by decide +kernel
theorem dX6_refusesPair_43 : decode cX6_refusesPair 43 = .ok (.if_icmp .eq 15, 3) := by decide +kernel
theorem dX6_refusesPair_46 : decode cX6_refusesPair 46 = .ok (.aload_n 0, 1) := by decide +kernel
theorem dX6_refusesPair_47 : decode cX6_refusesPair 47 = .ok (.iload_n 1, 1) := by decide +kernel
theorem dX6_refusesPair_48 : decode cX6_refusesPair 48 = .ok (.invokevirtual 156, 3) := by decide +kernel
theorem dX6_refusesPair_51 : decode cX6_refusesPair 51 = .ok (.ifCond .ne 7, 3) := by decide +kernel
theorem dX6_refusesPair_54 : decode cX6_refusesPair 54 = .ok (.iconst (-1), 1) := by decide +kernel
theorem dX6_refusesPair_55 : decode cX6_refusesPair 55 = .ok (.goto 4, 3) := by decide +kernel
theorem dX6_refusesPair_58 : decode cX6_refusesPair 58 = .ok (.iconst 0, 1) := by decide +kernel
theorem dX6_refusesPair_59 : decode cX6_refusesPair 59 = .ok (.ireturn, 1) := by decide +kernel
theorem dX6_tellYear_0 : decode cX6_tellYear 0 = .ok (.iload_n 1, 1) := by decide +kernel
theorem dX6_tellYear_1 : decode cX6_tellYear 1 = .ok (.bipush 30, 2) := by decide +kernel
theorem dX6_tellYear_3 : decode cX6_tellYear 3 = .ok (.if_icmp .lt 29, 3) := by decide +kernel
theorem dX6_tellYear_6 : decode cX6_tellYear 6 = .ok (.aload_n 0, 1) := by decide +kernel
theorem dX6_tellYear_7 : decode cX6_tellYear 7 = .ok (.iload_n 1, 1) := by decide +kernel
theorem dX6_tellYear_8 : decode cX6_tellYear 8 = .ok (.bipush 30, 2) := by decide +kernel
theorem dX6_tellYear_10 : decode cX6_tellYear 10 = .ok (.isub, 1) := by decide +kernel
theorem dX6_tellYear_11 : decode cX6_tellYear 11 = .ok (.invokevirtual 156, 3) := by decide +kernel
theorem dX6_tellYear_14 : decode cX6_tellYear 14 = .ok (.ifCond .eq 15, 3) := by decide +kernel
theorem dX6_tellYear_17 : decode cX6_tellYear 17 = .ok (.aload_n 0, 1) := by decide +kernel
theorem dX6_tellYear_18 : decode cX6_tellYear 18 = .ok (.getfield 32, 3) := by decide +kernel
theorem dX6_tellYear_21 : decode cX6_tellYear 21 = .ok (.iload_n 1, 1) := by decide +kernel
theorem dX6_tellYear_22 : decode cX6_tellYear 22 = .ok (.bipush 30, 2) := by decide +kernel
theorem dX6_tellYear_24 : decode cX6_tellYear 24 = .ok (.isub, 1) := by decide +kernel
theorem dX6_tellYear_25 : decode cX6_tellYear 25 = .ok (.iaload, 1) := by decide +kernel
theorem dX6_tellYear_26 : decode cX6_tellYear 26 = .ok (.goto 5, 3) := by decide +kernel
theorem dX6_tellYear_29 : decode cX6_tellYear 29 = .ok (.bipush (-9), 2) := by decide +kernel
theorem dX6_tellYear_31 : decode cX6_tellYear 31 = .ok (.ireturn, 1) := by decide +kernel
theorem dX6_tellYear_32 : decode cX6_tellYear 32 = .ok (.iload_n 1, 1) := by decide +kernel
theorem dX6_tellYear_33 : decode cX6_tellYear 33 = .ok (.bipush 20, 2) := by decide +kernel
theorem dX6_tellYear_35 : decode cX6_tellYear 35 = .ok (.if_icmp .lt 39, 3) := by decide +kernel
theorem dX6_tellYear_38 : decode cX6_tellYear 38 = .ok (.aload_n 0, 1) := by decide +kernel
theorem dX6_tellYear_39 : decode cX6_tellYear 39 = .ok (.iload_n 1, 1) := by decide +kernel
theorem dX6_tellYear_40 : decode cX6_tellYear 40 = .ok (.bipush 20, 2) := by decide +kernel
theorem dX6_tellYear_42 : decode cX6_tellYear 42 = .ok (.isub, 1) := by decide +kernel
theorem dX6_tellYear_43 : decode cX6_tellYear 43 = .ok (.invokevirtual 159, 3) := by decide +kernel
theorem dX6_tellYear_46 : decode cX6_tellYear 46 = .ok (.ifCond .eq 25, 3) := by decide +kernel
theorem dX6_tellYear_49 : decode cX6_tellYear 49 = .ok (.aload_n 0, 1) := by decide +kernel
theorem dX6_tellYear_50 : decode cX6_tellYear 50 = .ok (.getfield 22, 3) := by decide +kernel
theorem dX6_tellYear_53 : decode cX6_tellYear 53 = .ok (.iload_n 1, 1) := by decide +kernel
theorem dX6_tellYear_54 : decode cX6_tellYear 54 = .ok (.bipush 20, 2) := by decide +kernel
theorem dX6_tellYear_56 : decode cX6_tellYear 56 = .ok (.isub, 1) := by decide +kernel
theorem dX6_tellYear_57 : decode cX6_tellYear 57 = .ok (.iaload, 1) := by decide +kernel
theorem dX6_tellYear_58 : decode cX6_tellYear 58 = .ok (.aload_n 0, 1) := by decide +kernel
theorem dX6_tellYear_59 : decode cX6_tellYear 59 = .ok (.getfield 53, 3) := by decide +kernel
theorem dX6_tellYear_62 : decode cX6_tellYear 62 = .ok (.iload_n 1, 1) := by decide +kernel
theorem dX6_tellYear_63 : decode cX6_tellYear 63 = .ok (.bipush 20, 2) := by decide +kernel
theorem dX6_tellYear_65 : decode cX6_tellYear 65 = .ok (.isub, 1) := by decide +kernel
theorem dX6_tellYear_66 : decode cX6_tellYear 66 = .ok (.iaload, 1) := by decide +kernel
theorem dX6_tellYear_67 : decode cX6_tellYear 67 = .ok (.isub, 1) := by decide +kernel
theorem dX6_tellYear_68 : decode cX6_tellYear 68 = .ok (.goto 5, 3) := by decide +kernel
theorem dX6_tellYear_71 : decode cX6_tellYear 71 = .ok (.bipush (-9), 2) := by decide +kernel
theorem dX6_tellYear_73 : decode cX6_tellYear 73 = .ok (.ireturn, 1) := by decide +kernel
theorem dX6_tellYear_74 : decode cX6_tellYear 74 = .ok (.iload_n 1, 1) := by decide +kernel
theorem dX6_tellYear_75 : decode cX6_tellYear 75 = .ok (.bipush 10, 2) := by decide +kernel
theorem dX6_tellYear_77 : decode cX6_tellYear 77 = .ok (.if_icmp .lt 29, 3) := by decide +kernel
theorem dX6_tellYear_80 : decode cX6_tellYear 80 = .ok (.aload_n 0, 1) := by decide +kernel
theorem dX6_tellYear_81 : decode cX6_tellYear 81 = .ok (.iload_n 1, 1) := by decide +kernel
theorem dX6_tellYear_82 : decode cX6_tellYear 82 = .ok (.bipush 10, 2) := by decide +kernel
theorem dX6_tellYear_84 : decode cX6_tellYear 84 = .ok (.isub, 1) := by decide +kernel
theorem dX6_tellYear_85 : decode cX6_tellYear 85 = .ok (.invokevirtual 159, 3) := by decide +kernel
theorem dX6_tellYear_88 : decode cX6_tellYear 88 = .ok (.ifCond .eq 15, 3) := by decide +kernel
theorem dX6_tellYear_91 : decode cX6_tellYear 91 = .ok (.aload_n 0, 1) := by decide +kernel
theorem dX6_tellYear_92 : decode cX6_tellYear 92 = .ok (.getfield 19, 3) := by decide +kernel
theorem dX6_tellYear_95 : decode cX6_tellYear 95 = .ok (.iload_n 1, 1) := by decide +kernel
theorem dX6_tellYear_96 : decode cX6_tellYear 96 = .ok (.bipush 10, 2) := by decide +kernel
theorem dX6_tellYear_98 : decode cX6_tellYear 98 = .ok (.isub, 1) := by decide +kernel
theorem dX6_tellYear_99 : decode cX6_tellYear 99 = .ok (.iaload, 1) := by decide +kernel
theorem dX6_tellYear_100 : decode cX6_tellYear 100 = .ok (.goto 5, 3) := by decide +kernel
theorem dX6_tellYear_103 : decode cX6_tellYear 103 = .ok (.bipush (-9), 2) := by decide +kernel
theorem dX6_tellYear_105 : decode cX6_tellYear 105 = .ok (.ireturn, 1) := by decide +kernel
theorem dX6_tellYear_106 : decode cX6_tellYear 106 = .ok (.iload_n 1, 1) := by decide +kernel
theorem dX6_tellYear_107 : decode cX6_tellYear 107 = .ok (.ifCond .ne 8, 3) := by decide +kernel
theorem dX6_tellYear_110 : decode cX6_tellYear 110 = .ok (.aload_n 0, 1) := by decide +kernel
theorem dX6_tellYear_111 : decode cX6_tellYear 111 = .ok (.getfield 129, 3) := by decide +kernel
theorem dX6_tellYear_114 : decode cX6_tellYear 114 = .ok (.ireturn, 1) := by decide +kernel
theorem dX6_tellYear_115 : decode cX6_tellYear 115 = .ok (.iconst 0, 1) := by decide +kernel
theorem dX6_tellYear_116 : decode cX6_tellYear 116 = .ok (.istore_n 2, 1) := by decide +kernel
theorem dX6_tellYear_117 : decode cX6_tellYear 117 = .ok (.iconst 0, 1) := by decide +kernel
theorem dX6_tellYear_118 : decode cX6_tellYear 118 = .ok (.istore_n 3, 1) := by decide +kernel
theorem dX6_tellYear_119 : decode cX6_tellYear 119 = .ok (.iload_n 3, 1) := by decide +kernel
theorem dX6_tellYear_120 : decode cX6_tellYear 120 = .ok (.aload_n 0, 1) := by decide +kernel
theorem dX6_tellYear_121 : decode cX6_tellYear 121 = .ok (.getfield 90, 3) := by decide +kernel
theorem dX6_tellYear_124 : decode cX6_tellYear 124 = .ok (.if_icmp .ge 25, 3) := by decide +kernel
theorem dX6_tellYear_127 : decode cX6_tellYear 127 = .ok (.iload_n 2, 1) := by decide +kernel
theorem dX6_tellYear_128 : decode cX6_tellYear 128 = .ok (.aload_n 0, 1) := by decide +kernel
theorem dX6_tellYear_129 : decode cX6_tellYear 129 = .ok (.getfield 22, 3) := by decide +kernel
theorem dX6_tellYear_132 : decode cX6_tellYear 132 = .ok (.iload_n 3, 1) := by decide +kernel
theorem dX6_tellYear_133 : decode cX6_tellYear 133 = .ok (.iaload, 1) := by decide +kernel
theorem dX6_tellYear_134 : decode cX6_tellYear 134 = .ok (.aload_n 0, 1) := by decide +kernel
theorem dX6_tellYear_135 : decode cX6_tellYear 135 = .ok (.getfield 53, 3) := by decide +kernel
theorem dX6_tellYear_138 : decode cX6_tellYear 138 = .ok (.iload_n 3, 1) := by decide +kernel
theorem dX6_tellYear_139 : decode cX6_tellYear 139 = .ok (.iaload, 1) := by decide +kernel
theorem dX6_tellYear_140 : decode cX6_tellYear 140 = .ok (.isub, 1) := by decide +kernel
theorem dX6_tellYear_141 : decode cX6_tellYear 141 = .ok (.iadd, 1) := by decide +kernel
theorem dX6_tellYear_142 : decode cX6_tellYear 142 = .ok (.istore_n 2, 1) := by decide +kernel
theorem dX6_tellYear_143 : decode cX6_tellYear 143 = .ok (.iinc 3 1, 3) := by decide +kernel
theorem dX6_tellYear_146 : decode cX6_tellYear 146 = .ok (.goto (-27), 3) := by decide +kernel
theorem dX6_tellYear_149 : decode cX6_tellYear 149 = .ok (.iconst 0, 1) := by decide +kernel
theorem dX6_tellYear_150 : decode cX6_tellYear 150 = .ok (.istore_n 3, 1) := by decide +kernel
theorem dX6_tellYear_151 : decode cX6_tellYear 151 = .ok (.iconst 0, 1) := by decide +kernel
theorem dX6_tellYear_152 : decode cX6_tellYear 152 = .ok (.istore 4, 2) := by decide +kernel
theorem dX6_tellYear_154 : decode cX6_tellYear 154 = .ok (.iload 4, 2) := by decide +kernel
theorem dX6_tellYear_156 : decode cX6_tellYear 156 = .ok (.aload_n 0, 1) := by decide +kernel
theorem dX6_tellYear_157 : decode cX6_tellYear 157 = .ok (.getfield 93, 3) := by decide +kernel
theorem dX6_tellYear_160 : decode cX6_tellYear 160 = .ok (.if_icmp .ge 30, 3) := by decide +kernel
theorem dX6_tellYear_163 : decode cX6_tellYear 163 = .ok (.iload_n 3, 1) := by decide +kernel
theorem dX6_tellYear_164 : decode cX6_tellYear 164 = .ok (.aload_n 0, 1) := by decide +kernel
theorem dX6_tellYear_165 : decode cX6_tellYear 165 = .ok (.getfield 41, 3) := by decide +kernel
theorem dX6_tellYear_168 : decode cX6_tellYear 168 = .ok (.iload 4, 2) := by decide +kernel
theorem dX6_tellYear_170 : decode cX6_tellYear 170 = .ok (.baload, 1) := by decide +kernel
theorem dX6_tellYear_171 : decode cX6_tellYear 171 = .ok (.ifCond .eq 10, 3) := by decide +kernel
theorem dX6_tellYear_174 : decode cX6_tellYear 174 = .ok (.iconst 1, 1) := by decide +kernel
theorem dX6_tellYear_175 : decode cX6_tellYear 175 = .ok (.iload 4, 2) := by decide +kernel
theorem dX6_tellYear_177 : decode cX6_tellYear 177 = .ok (.ishl, 1) := by decide +kernel
theorem dX6_tellYear_178 : decode cX6_tellYear 178 = .ok (.goto 4, 3) := by decide +kernel
theorem dX6_tellYear_181 : decode cX6_tellYear 181 = .ok (.iconst 0, 1) := by decide +kernel
theorem dX6_tellYear_182 : decode cX6_tellYear 182 = .ok (.ior, 1) := by decide +kernel
theorem dX6_tellYear_183 : decode cX6_tellYear 183 = .ok (.istore_n 3, 1) := by decide +kernel
theorem dX6_tellYear_184 : decode cX6_tellYear 184 = .ok (.iinc 4 1, 3) := by decide +kernel
theorem dX6_tellYear_187 : decode cX6_tellYear 187 = .ok (.goto (-33), 3) := by decide +kernel
theorem dX6_tellYear_190 : decode cX6_tellYear 190 = .ok (.iload_n 1, 1) := by decide +kernel
theorem dX6_tellYear_191 : decode cX6_tellYear 191 = .ok (.iconst 2, 1) := by decide +kernel
theorem dX6_tellYear_192 : decode cX6_tellYear 192 = .ok (.if_icmp .ne 7, 3) := by decide +kernel
