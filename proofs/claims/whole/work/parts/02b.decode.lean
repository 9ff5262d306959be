theorem dX8_init_0 : decode cX8_init 0 = .ok (.aload_n 0, 1) := by decide +kernel
theorem dX8_init_1 : decode cX8_init 1 = .ok (.invokespecial 1, 3) := by decide +kernel
theorem dX8_init_4 : decode cX8_init 4 = .ok (.aload_n 0, 1) := by decide +kernel
theorem dX8_init_5 : decode cX8_init 5 = .ok (.iconst 4, 1) := by decide +kernel
theorem dX8_init_6 : decode cX8_init 6 = .ok (.newarray .int, 2) := by decide +kernel
theorem dX8_init_8 : decode cX8_init 8 = .ok (.dup, 1) := by decide +kernel
theorem dX8_init_9 : decode cX8_init 9 = .ok (.iconst 0, 1) := by decide +kernel
theorem dX8_init_10 : decode cX8_init 10 = .ok (.bipush (-9), 2) := by decide +kernel
theorem dX8_init_12 : decode cX8_init 12 = .ok (.iastore, 1) := by decide +kernel
theorem dX8_init_13 : decode cX8_init 13 = .ok (.dup, 1) := by decide +kernel
theorem dX8_init_14 : decode cX8_init 14 = .ok (.iconst 1, 1) := by decide +kernel
theorem dX8_init_15 : decode cX8_init 15 = .ok (.bipush (-9), 2) := by decide +kernel
theorem dX8_init_17 : decode cX8_init 17 = .ok (.iastore, 1) := by decide +kernel
theorem dX8_init_18 : decode cX8_init 18 = .ok (.dup, 1) := by decide +kernel
theorem dX8_init_19 : decode cX8_init 19 = .ok (.iconst 2, 1) := by decide +kernel
theorem dX8_init_20 : decode cX8_init 20 = .ok (.bipush (-9), 2) := by decide +kernel
theorem dX8_init_22 : decode cX8_init 22 = .ok (.iastore, 1) := by decide +kernel
theorem dX8_init_23 : decode cX8_init 23 = .ok (.dup, 1) := by decide +kernel
theorem dX8_init_24 : decode cX8_init 24 = .ok (.iconst 3, 1) := by decide +kernel
theorem dX8_init_25 : decode cX8_init 25 = .ok (.bipush (-9), 2) := by decide +kernel
theorem dX8_init_27 : decode cX8_init 27 = .ok (.iastore, 1) := by decide +kernel
theorem dX8_init_28 : decode cX8_init 28 = .ok (.putfield 9, 3) := by decide +kernel
theorem dX8_init_31 : decode cX8_init 31 = .ok (.aload_n 0, 1) := by decide +kernel
theorem dX8_init_32 : decode cX8_init 32 = .ok (.iconst 4, 1) := by decide +kernel
theorem dX8_init_33 : decode cX8_init 33 = .ok (.newarray .int, 2) := by decide +kernel
theorem dX8_init_35 : decode cX8_init 35 = .ok (.putfield 13, 3) := by decide +kernel
theorem dX8_init_38 : decode cX8_init 38 = .ok (.aload_n 0, 1) := by decide +kernel
theorem dX8_init_39 : decode cX8_init 39 = .ok (.sipush 200, 3) := by decide +kernel
theorem dX8_init_42 : decode cX8_init 42 = .ok (.newarray .int, 2) := by decide +kernel
theorem dX8_init_44 : decode cX8_init 44 = .ok (.putfield 16, 3) := by decide +kernel
theorem dX8_init_47 : decode cX8_init 47 = .ok (.aload_n 0, 1) := by decide +kernel
theorem dX8_init_48 : decode cX8_init 48 = .ok (.bipush 6, 2) := by decide +kernel
theorem dX8_init_50 : decode cX8_init 50 = .ok (.newarray .int, 2) := by decide +kernel
theorem dX8_init_52 : decode cX8_init 52 = .ok (.putfield 19, 3) := by decide +kernel
theorem dX8_init_55 : decode cX8_init 55 = .ok (.aload_n 0, 1) := by decide +kernel
theorem dX8_init_56 : decode cX8_init 56 = .ok (.bipush 6, 2) := by decide +kernel
theorem dX8_init_58 : decode cX8_init 58 = .ok (.newarray .int, 2) := by decide +kernel
theorem dX8_init_60 : decode cX8_init 60 = .ok (.putfield 22, 3) := by decide +kernel
theorem dX8_init_63 : decode cX8_init 63 = .ok (.aload_n 0, 1) := by decide +kernel
theorem dX8_init_64 : decode cX8_init 64 = .ok (.bipush 12, 2) := by decide +kernel
theorem dX8_init_66 : decode cX8_init 66 = .ok (.newarray .int, 2) := by decide +kernel
theorem dX8_init_68 : decode cX8_init 68 = .ok (.putfield 25, 3) := by decide +kernel
theorem dX8_init_71 : decode cX8_init 71 = .ok (.aload_n 0, 1) := by decide +kernel
theorem dX8_init_72 : decode cX8_init 72 = .ok (.bipush 6, 2) := by decide +kernel
theorem dX8_init_74 : decode cX8_init 74 = .ok (.newarray .boolean, 2) := by decide +kernel
theorem dX8_init_76 : decode cX8_init 76 = .ok (.putfield 28, 3) := by decide +kernel
theorem dX8_init_79 : decode cX8_init 79 = .ok (.aload_n 0, 1) := by decide +kernel
theorem dX8_init_80 : decode cX8_init 80 = .ok (.bipush 6, 2) := by decide +kernel
theorem dX8_init_82 : decode cX8_init 82 = .ok (.newarray .int, 2) := by decide +kernel
theorem dX8_init_84 : decode cX8_init 84 = .ok (.putfield 32, 3) := by decide +kernel
theorem dX8_init_87 : decode cX8_init 87 = .ok (.aload_n 0, 1) := by decide +kernel
theorem dX8_init_88 : decode cX8_init 88 = .ok (.bipush 6, 2) := by decide +kernel
theorem dX8_init_90 : decode cX8_init 90 = .ok (.newarray .int, 2) := by decide +kernel
theorem dX8_init_92 : decode cX8_init 92 = .ok (.putfield 35, 3) := by decide +kernel
theorem dX8_init_95 : decode cX8_init 95 = .ok (.aload_n 0, 1) := by decide +kernel
theorem dX8_init_96 : decode cX8_init 96 = .ok (.bipush 12, 2) := by decide +kernel
theorem dX8_init_98 : decode cX8_init 98 = .ok (.newarray .int, 2) := by decide +kernel
theorem dX8_init_100 : decode cX8_init 100 = .ok (.putfield 38, 3) := by decide +kernel
theorem dX8_init_103 : decode cX8_init 103 = .ok (.aload_n 0, 1) := by decide +kernel
theorem dX8_init_104 : decode cX8_init 104 = .ok (.bipush 9, 2) := by decide +kernel
theorem dX8_init_106 : decode cX8_init 106 = .ok (.newarray .int, 2) := by decide +kernel
theorem dX8_init_108 : decode cX8_init 108 = .ok (.putfield 41, 3) := by decide +kernel
theorem dX8_init_111 : decode cX8_init 111 = .ok (.aload_n 0, 1) := by decide +kernel
theorem dX8_init_112 : decode cX8_init 112 = .ok (.bipush 9, 2) := by decide +kernel
theorem dX8_init_114 : decode cX8_init 114 = .ok (.newarray .int, 2) := by decide +kernel
theorem dX8_init_116 : decode cX8_init 116 = .ok (.putfield 44, 3) := by decide +kernel
theorem dX8_init_119 : decode cX8_init 119 = .ok (.aload_n 0, 1) := by decide +kernel
theorem dX8_init_120 : decode cX8_init 120 = .ok (.bipush 9, 2) := by decide +kernel
theorem dX8_init_122 : decode cX8_init 122 = .ok (.newarray .int, 2) := by decide +kernel
theorem dX8_init_124 : decode cX8_init 124 = .ok (.putfield 47, 3) := by decide +kernel
theorem dX8_init_127 : decode cX8_init 127 = .ok (.aload_n 0, 1) := by decide +kernel
theorem dX8_init_128 : decode cX8_init 128 = .ok (.bipush 9, 2) := by decide +kernel
theorem dX8_init_130 : decode cX8_init 130 = .ok (.newarray .int, 2) := by decide +kernel
theorem dX8_init_132 : decode cX8_init 132 = .ok (.putfield 50, 3) := by decide +kernel
theorem dX8_init_135 : decode cX8_init 135 = .ok (.aload_n 0, 1) := by decide +kernel
theorem dX8_init_136 : decode cX8_init 136 = .ok (.bipush 6, 2) := by decide +kernel
theorem dX8_init_138 : decode cX8_init 138 = .ok (.newarray .int, 2) := by decide +kernel
theorem dX8_init_140 : decode cX8_init 140 = .ok (.putfield 53, 3) := by decide +kernel
theorem dX8_init_143 : decode cX8_init 143 = .ok (.aload_n 0, 1) := by decide +kernel
theorem dX8_init_144 : decode cX8_init 144 = .ok (.sipush 200, 3) := by decide +kernel
theorem dX8_init_147 : decode cX8_init 147 = .ok (.newarray .int, 2) := by decide +kernel
theorem dX8_init_149 : decode cX8_init 149 = .ok (.putfield 56, 3) := by decide +kernel
theorem dX8_init_152 : decode cX8_init 152 = .ok (.aload_n 0, 1) := by decide +kernel
theorem dX8_init_153 : decode cX8_init 153 = .ok (.sipush 200, 3) := by decide +kernel
theorem dX8_init_156 : decode cX8_init 156 = .ok (.newarray .int, 2) := by decide +kernel
theorem dX8_init_158 : decode cX8_init 158 = .ok (.putfield 59, 3) := by decide +kernel
theorem dX8_init_161 : decode cX8_init 161 = .ok (.aload_n 0, 1) := by decide +kernel
theorem dX8_init_162 : decode cX8_init 162 = .ok (.sipush 200, 3) := by decide +kernel
theorem dX8_init_165 : decode cX8_init 165 = .ok (.newarray .int, 2) := by decide +kernel
theorem dX8_init_167 : decode cX8_init 167 = .ok (.putfield 62, 3) := by decide +kernel
theorem dX8_init_170 : decode cX8_init 170 = .ok (.aload_n 0, 1) := by decide +kernel
theorem dX8_init_171 : decode cX8_init 171 = .ok (.sipush 200, 3) := by decide +kernel
theorem dX8_init_174 : decode cX8_init 174 = .ok (.newarray .int, 2) := by decide +kernel
theorem dX8_init_176 : decode cX8_init 176 = .ok (.putfield 65, 3) := by decide +kernel
theorem dX8_init_179 : decode cX8_init 179 = .ok (.aload_n 0, 1) := by decide +kernel
theorem dX8_init_180 : decode cX8_init 180 = .ok (.sipush 200, 3) := by decide +kernel
theorem dX8_init_183 : decode cX8_init 183 = .ok (.newarray .int, 2) := by decide +kernel
theorem dX8_init_185 : decode cX8_init 185 = .ok (.putfield 68, 3) := by decide +kernel
theorem dX8_init_188 : decode cX8_init 188 = .ok (.aload_n 0, 1) := by decide +kernel
theorem dX8_init_189 : decode cX8_init 189 = .ok (.sipush 200, 3) := by decide +kernel
theorem dX8_init_192 : decode cX8_init 192 = .ok (.newarray .int, 2) := by decide +kernel
theorem dX8_init_194 : decode cX8_init 194 = .ok (.putfield 71, 3) := by decide +kernel
theorem dX8_init_197 : decode cX8_init 197 = .ok (.aload_n 0, 1) := by decide +kernel
theorem dX8_init_198 : decode cX8_init 198 = .ok (.sipush 200, 3) := by decide +kernel
theorem dX8_init_201 : decode cX8_init 201 = .ok (.newarray .int, 2) := by decide +kernel
theorem dX8_init_203 : decode cX8_init 203 = .ok (.putfield 74, 3) := by decide +kernel
theorem dX8_init_206 : decode cX8_init 206 = .ok (.aload_n 0, 1) := by decide +kernel
theorem dX8_init_207 : decode cX8_init 207 = .ok (.sipush 200, 3) := by decide +kernel
theorem dX8_init_210 : decode cX8_init 210 = .ok (.newarray .int, 2) := by decide +kernel
theorem dX8_init_212 : decode cX8_init 212 = .ok (.putfield 77, 3) := by decide +kernel
theorem dX8_init_215 : decode cX8_init 215 = .ok (.aload_n 0, 1) := by decide +kernel
theorem dX8_init_216 : decode cX8_init 216 = .ok (.sipush 200, 3) := by decide +kernel
theorem dX8_init_219 : decode cX8_init 219 = .ok (.newarray .int, 2) := by decide +kernel
theorem dX8_init_221 : decode cX8_init 221 = .ok (.putfield 80, 3) := by decide +kernel
theorem dX8_init_224 : decode cX8_init 224 = .ok (.aload_n 0, 1) := by decide +kernel
theorem dX8_init_225 : decode cX8_init 225 = .ok (.sipush 200, 3) := by decide +kernel
theorem dX8_init_228 : decode cX8_init 228 = .ok (.newarray .int, 2) := by decide +kernel
theorem dX8_init_230 : decode cX8_init 230 = .ok (.putfield 83, 3) := by decide +kernel
theorem dX8_init_233 : decode cX8_init 233 = .ok (.aload_n 0, 1) := by decide +kernel
theorem dX8_init_234 : decode cX8_init 234 = .ok (.bipush 8, 2) := by decide +kernel
theorem dX8_init_236 : decode cX8_init 236 = .ok (.newarray .int, 2) := by decide +kernel
theorem dX8_init_238 : decode cX8_init 238 = .ok (.putfield 86, 3) := by decide +kernel
theorem dX8_init_241 : decode cX8_init 241 = .ok (.aload_n 0, 1) := by decide +kernel
theorem dX8_init_242 : decode cX8_init 242 = .ok (.bipush 8, 2) := by decide +kernel
theorem dX8_init_244 : decode cX8_init 244 = .ok (.newarray .int, 2) := by decide +kernel
theorem dX8_init_246 : decode cX8_init 246 = .ok (.putfield 89, 3) := by decide +kernel
theorem dX8_init_249 : decode cX8_init 249 = .ok (.aload_n 0, 1) := by decide +kernel
theorem dX8_init_250 : decode cX8_init 250 = .ok (.bipush 8, 2) := by decide +kernel
theorem dX8_init_252 : decode cX8_init 252 = .ok (.newarray .boolean, 2) := by decide +kernel
theorem dX8_init_254 : decode cX8_init 254 = .ok (.putfield 92, 3) := by decide +kernel
theorem dX8_init_257 : decode cX8_init 257 = .ok (.return_, 1) := by decide +kernel
theorem dX8_fails_0 : decode cX8_fails 0 = .ok (.aload_n 0, 1) := by decide +kernel
theorem dX8_fails_1 : decode cX8_fails 1 = .ok (.iload_n 1, 1) := by decide +kernel
theorem dX8_fails_2 : decode cX8_fails 2 = .ok (.putfield 95, 3) := by decide +kernel
theorem dX8_fails_5 : decode cX8_fails 5 = .ok (.bipush (-10), 2) := by decide +kernel
theorem dX8_fails_7 : decode cX8_fails 7 = .ok (.iload_n 1, 1) := by decide +kernel
theorem dX8_fails_8 : decode cX8_fails 8 = .ok (.isub, 1) := by decide +kernel
theorem dX8_fails_9 : decode cX8_fails 9 = .ok (.ireturn, 1) := by decide +kernel
theorem dX8_lost_0 : decode cX8_lost 0 = .ok (.aload_n 0, 1) := by decide +kernel
theorem dX8_lost_1 : decode cX8_lost 1 = .ok (.iload_n 1, 1) := by decide +kernel
theorem dX8_lost_2 : decode cX8_lost 2 = .ok (.putfield 95, 3) := by decide +kernel
theorem dX8_lost_5 : decode cX8_lost 5 = .ok (.ldc2_w 99, 3) := by decide +kernel
theorem dX8_lost_8 : decode cX8_lost 8 = .ok (.lreturn, 1) := by decide +kernel
theorem dX8_within_0 : decode cX8_within 0 = .ok (.iload_n 0, 1) := by decide +kernel
theorem dX8_within_1 : decode cX8_within 1 = .ok (.iload_n 1, 1) := by decide +kernel
theorem dX8_within_2 : decode cX8_within 2 = .ok (.if_icmp .lt 12, 3) := by decide +kernel
theorem dX8_within_5 : decode cX8_within 5 = .ok (.iload_n 0, 1) := by decide +kernel
theorem dX8_within_6 : decode cX8_within 6 = .ok (.iload_n 2, 1) := by decide +kernel
theorem dX8_within_7 : decode cX8_within 7 = .ok (.if_icmp .gt 7, 3) := by decide +kernel
theorem dX8_within_10 : decode cX8_within 10 = .ok (.iconst 1, 1) := by decide +kernel
theorem dX8_within_11 : decode cX8_within 11 = .ok (.goto 4, 3) := by decide +kernel
theorem dX8_within_14 : decode cX8_within 14 = .ok (.iconst 0, 1) := by decide +kernel
theorem dX8_within_15 : decode cX8_within 15 = .ok (.ireturn, 1) := by decide +kernel
theorem dX8_isSheet_0 : decode cX8_isSheet 0 = .ok (.iload_n 0, 1) := by decide +kernel
theorem dX8_isSheet_1 : decode cX8_isSheet 1 = .ok (.iconst 0, 1) := by decide +kernel
theorem dX8_isSheet_2 : decode cX8_isSheet 2 = .ok (.iconst 3, 1) := by decide +kernel
theorem dX8_isSheet_3 : decode cX8_isSheet 3 = .ok (.invokestatic 101, 3) := by decide +kernel
theorem dX8_isSheet_6 : decode cX8_isSheet 6 = .ok (.ireturn, 1) := by decide +kernel
theorem dX8_isSort_0 : decode cX8_isSort 0 = .ok (.iload_n 0, 1) := by decide +kernel
theorem dX8_isSort_1 : decode cX8_isSort 1 = .ok (.iconst 0, 1) := by decide +kernel
theorem dX8_isSort_2 : decode cX8_isSort 2 = .ok (.iconst 2, 1) := by decide +kernel
theorem dX8_isSort_3 : decode cX8_isSort 3 = .ok (.invokestatic 101, 3) := by decide +kernel
theorem dX8_isSort_6 : decode cX8_isSort 6 = .ok (.ireturn, 1) := by decide +kernel
theorem dX8_against_0 : decode cX8_against 0 = .ok (.aload_n 0, 1) := by decide +kernel
theorem dX8_against_1 : decode cX8_against 1 = .ok (.getfield 9, 3) := by decide +kernel
theorem dX8_against_4 : decode cX8_against 4 = .ok (.iload_n 1, 1) := by decide +kernel
theorem dX8_against_5 : decode cX8_against 5 = .ok (.iaload, 1) := by decide +kernel
theorem dX8_against_6 : decode cX8_against 6 = .ok (.bipush (-9), 2) := by decide +kernel
theorem dX8_against_8 : decode cX8_against 8 = .ok (.if_icmp .eq 15, 3) := by decide +kernel
theorem dX8_against_11 : decode cX8_against 11 = .ok (.aload_n 0, 1) := by decide +kernel
theorem dX8_against_12 : decode cX8_against 12 = .ok (.getfield 9, 3) := by decide +kernel
theorem dX8_against_15 : decode cX8_against 15 = .ok (.iload_n 1, 1) := by decide +kernel
theorem dX8_against_16 : decode cX8_against 16 = .ok (.iaload, 1) := by decide +kernel
theorem dX8_against_17 : decode cX8_against 17 = .ok (.iload_n 2, 1) := by decide +kernel
theorem dX8_against_18 : decode cX8_against 18 = .ok (.if_icmp .eq 5, 3) := by decide +kernel
theorem dX8_against_21 : decode cX8_against 21 = .ok (.iconst 2, 1) := by decide +kernel
theorem dX8_against_22 : decode cX8_against 22 = .ok (.ireturn, 1) := by decide +kernel
theorem dX8_against_23 : decode cX8_against 23 = .ok (.aload_n 0, 1) := by decide +kernel
theorem dX8_against_24 : decode cX8_against 24 = .ok (.getfield 9, 3) := by decide +kernel
theorem dX8_against_27 : decode cX8_against 27 = .ok (.iload_n 1, 1) := by decide +kernel
theorem dX8_against_28 : decode cX8_against 28 = .ok (.iaload, 1) := by decide +kernel
theorem dX8_against_29 : decode cX8_against 29 = .ok (.bipush (-9), 2) := by decide +kernel
theorem dX8_against_31 : decode cX8_against 31 = .ok (.if_icmp .ne 5, 3) := by decide +kernel
theorem dX8_against_34 : decode cX8_against 34 = .ok (.iconst 1, 1) := by decide +kernel
theorem dX8_against_35 : decode cX8_against 35 = .ok (.ireturn, 1) := by decide +kernel
theorem dX8_against_36 : decode cX8_against 36 = .ok (.iload 4, 2) := by decide +kernel
theorem dX8_against_38 : decode cX8_against 38 = .ok (.ifCond .ge 5, 3) := by decide +kernel
theorem dX8_against_41 : decode cX8_against 41 = .ok (.iconst 4, 1) := by decide +kernel
theorem dX8_against_42 : decode cX8_against 42 = .ok (.ireturn, 1) := by decide +kernel
theorem dX8_against_43 : decode cX8_against 43 = .ok (.iload_n 3, 1) := by decide +kernel
theorem dX8_against_44 : decode cX8_against 44 = .ok (.ifCond .lt 26, 3) := by decide +kernel
theorem dX8_against_47 : decode cX8_against 47 = .ok (.iload_n 3, 1) := by decide +kernel
theorem dX8_against_48 : decode cX8_against 48 = .ok (.aload_n 0, 1) := by decide +kernel
theorem dX8_against_49 : decode cX8_against 49 = .ok (.getfield 13, 3) := by decide +kernel
theorem dX8_against_52 : decode cX8_against 52 = .ok (.iload_n 1, 1) := by decide +kernel
theorem dX8_against_53 : decode cX8_against 53 = .ok (.iaload, 1) := by decide +kernel
theorem dX8_against_54 : decode cX8_against 54 = .ok (.if_icmp .gt 16, 3) := by decide +kernel
theorem dX8_against_57 : decode cX8_against 57 = .ok (.iload 4, 2) := by decide +kernel
theorem dX8_against_59 : decode cX8_against 59 = .ok (.aload_n 0, 1) := by decide +kernel
theorem dX8_against_60 : decode cX8_against 60 = .ok (.getfield 13, 3) := by decide +kernel
theorem dX8_against_63 : decode cX8_against 63 = .ok (.iload_n 1, 1) := by decide +kernel
theorem dX8_against_64 : decode cX8_against 64 = .ok (.iaload, 1) := by decide +kernel
theorem dX8_against_65 : decode cX8_against 65 = .ok (.iload_n 3, 1) := by decide +kernel
theorem dX8_against_66 : decode cX8_against 66 = .ok (.isub, 1) := by decide +kernel
theorem dX8_against_67 : decode cX8_against 67 = .ok (.if_icmp .le 7, 3) := by decide +kernel
theorem dX8_against_70 : decode cX8_against 70 = .ok (.iconst 3, 1) := by decide +kernel
theorem dX8_against_71 : decode cX8_against 71 = .ok (.goto 4, 3) := by decide +kernel
theorem dX8_against_74 : decode cX8_against 74 = .ok (.iconst 0, 1) := by decide +kernel
theorem dX8_against_75 : decode cX8_against 75 = .ok (.ireturn, 1) := by decide +kernel
theorem dX8_isPerson_0 : decode cX8_isPerson 0 = .ok (.iload_n 1, 1) := by decide +kernel
theorem dX8_isPerson_1 : decode cX8_isPerson 1 = .ok (.ifCond .lt 15, 3) := by decide +kernel
theorem dX8_isPerson_4 : decode cX8_isPerson 4 = .ok (.iload_n 1, 1) := by decide +kernel
theorem dX8_isPerson_5 : decode cX8_isPerson 5 = .ok (.aload_n 0, 1) := by decide +kernel
theorem dX8_isPerson_6 : decode cX8_isPerson 6 = .ok (.getfield 105, 3) := by decide +kernel
theorem dX8_isPerson_9 : decode cX8_isPerson 9 = .ok (.if_icmp .ge 7, 3) := by decide +kernel
theorem dX8_isPerson_12 : decode cX8_isPerson 12 = .ok (.iconst 1, 1) := by decide +kernel
theorem dX8_isPerson_13 : decode cX8_isPerson 13 = .ok (.goto 4, 3) := by decide +kernel
theorem dX8_isPerson_16 : decode cX8_isPerson 16 = .ok (.iconst 0, 1) := by decide +kernel
theorem dX8_isPerson_17 : decode cX8_isPerson 17 = .ok (.ireturn, 1) := by decide +kernel
theorem dX8_isDawn_0 : decode cX8_isDawn 0 = .ok (.iload_n 0, 1) := by decide +kernel
theorem dX8_isDawn_1 : decode cX8_isDawn 1 = .ok (.iconst 0, 1) := by decide +kernel
theorem dX8_isDawn_2 : decode cX8_isDawn 2 = .ok (.bipush 59, 2) := by decide +kernel
theorem dX8_isDawn_4 : decode cX8_isDawn 4 = .ok (.invokestatic 101, 3) := by decide +kernel
theorem dX8_isDawn_7 : decode cX8_isDawn 7 = .ok (.ireturn, 1) := by decide +kernel
theorem dX8_digit_0 : decode cX8_digit 0 = .ok (.aload_n 0, 1) := by decide +kernel
theorem dX8_digit_1 : decode cX8_digit 1 = .ok (.getfield 108, 3) := by decide +kernel
theorem dX8_digit_4 : decode cX8_digit 4 = .ok (.iload_n 1, 1) := by decide +kernel
theorem dX8_digit_5 : decode cX8_digit 5 = .ok (.if_icmp .ge 26, 3) := by decide +kernel
theorem dX8_digit_8 : decode cX8_digit 8 = .ok (.aload_n 0, 1) := by decide +kernel
theorem dX8_digit_9 : decode cX8_digit 9 = .ok (.getfield 16, 3) := by decide +kernel
theorem dX8_digit_12 : decode cX8_digit 12 = .ok (.aload_n 0, 1) := by decide +kernel
theorem dX8_digit_13 : decode cX8_digit 13 = .ok (.getfield 108, 3) := by decide +kernel
theorem dX8_digit_16 : decode cX8_digit 16 = .ok (.iaload, 1) := by decide +kernel
theorem dX8_digit_17 : decode cX8_digit 17 = .ok (.bipush 48, 2) := by decide +kernel
theorem dX8_digit_19 : decode cX8_digit 19 = .ok (.iload_n 2, 1) := by decide +kernel
theorem dX8_digit_20 : decode cX8_digit 20 = .ok (.iadd, 1) := by decide +kernel
theorem dX8_digit_21 : decode cX8_digit 21 = .ok (.bipush 48, 2) := by decide +kernel
theorem dX8_digit_23 : decode cX8_digit 23 = .ok (.iload_n 3, 1) := by decide +kernel
theorem dX8_digit_24 : decode cX8_digit 24 = .ok (.iadd, 1) := by decide +kernel
theorem dX8_digit_25 : decode cX8_digit 25 = .ok (.invokestatic 101, 3) := by decide +kernel
theorem dX8_digit_28 : decode cX8_digit 28 = .ok (.ifCond .ne 6, 3) := by decide +kernel
theorem dX8_digit_31 : decode cX8_digit 31 = .ok (.bipush (-9), 2) := by decide +kernel
theorem dX8_digit_33 : decode cX8_digit 33 = .ok (.ireturn, 1) := by decide +kernel
theorem dX8_digit_34 : decode cX8_digit 34 = .ok (.aload_n 0, 1) := by decide +kernel
theorem dX8_digit_35 : decode cX8_digit 35 = .ok (.dup, 1) := by decide +kernel
theorem dX8_digit_36 : decode cX8_digit 36 = .ok (.getfield 108, 3) := by decide +kernel
theorem dX8_digit_39 : decode cX8_digit 39 = .ok (.iconst 1, 1) := by decide +kernel
theorem dX8_digit_40 : decode cX8_digit 40 = .ok (.iadd, 1) := by decide +kernel
theorem dX8_digit_41 : decode cX8_digit 41 = .ok (.putfield 108, 3) := by decide +kernel
theorem dX8_digit_44 : decode cX8_digit 44 = .ok (.aload_n 0, 1) := by decide +kernel
theorem dX8_digit_45 : decode cX8_digit 45 = .ok (.getfield 16, 3) := by decide +kernel
theorem dX8_digit_48 : decode cX8_digit 48 = .ok (.aload_n 0, 1) := by decide +kernel
theorem dX8_digit_49 : decode cX8_digit 49 = .ok (.getfield 108, 3) := by decide +kernel
theorem dX8_digit_52 : decode cX8_digit 52 = .ok (.iconst 1, 1) := by decide +kernel
theorem dX8_digit_53 : decode cX8_digit 53 = .ok (.isub, 1) := by decide +kernel
theorem dX8_digit_54 : decode cX8_digit 54 = .ok (.iaload, 1) := by decide +kernel
theorem dX8_digit_55 : decode cX8_digit 55 = .ok (.bipush 48, 2) := by decide +kernel
theorem dX8_digit_57 : decode cX8_digit 57 = .ok (.isub, 1) := by decide +kernel
theorem dX8_digit_58 : decode cX8_digit 58 = .ok (.ireturn, 1) := by decide +kernel
theorem dX8_coast_0 : decode cX8_coast 0 = .ok (.aload_n 0, 1) := by decide +kernel
theorem dX8_coast_1 : decode cX8_coast 1 = .ok (.iconst 0, 1) := by decide +kernel
theorem dX8_coast_2 : decode cX8_coast 2 = .ok (.putfield 95, 3) := by decide +kernel
theorem dX8_coast_5 : decode cX8_coast 5 = .ok (.iload_n 1, 1) := by decide +kernel
theorem dX8_coast_6 : decode cX8_coast 6 = .ok (.invokestatic 111, 3) := by decide +kernel
theorem dX8_coast_9 : decode cX8_coast 9 = .ok (.ifCond .ne 5, 3) := by decide +kernel
theorem dX8_coast_12 : decode cX8_coast 12 = .ok (.iconst (-1), 1) := by decide +kernel
theorem dX8_coast_13 : decode cX8_coast 13 = .ok (.ireturn, 1) := by decide +kernel
theorem dX8_coast_14 : decode cX8_coast 14 = .ok (.iload_n 2, 1) := by decide +kernel
theorem dX8_coast_15 : decode cX8_coast 15 = .ok (.invokestatic 115, 3) := by decide +kernel
theorem dX8_coast_18 : decode cX8_coast 18 = .ok (.ifCond .ne 6, 3) := by decide +kernel
theorem dX8_coast_21 : decode cX8_coast 21 = .ok (.bipush (-2), 2) := by decide +kernel
theorem dX8_coast_23 : decode cX8_coast 23 = .ok (.ireturn, 1) := by decide +kernel
theorem dX8_coast_24 : decode cX8_coast 24 = .ok (.aload_n 0, 1) := by decide +kernel
theorem dX8_coast_25 : decode cX8_coast 25 = .ok (.iload_n 1, 1) := by decide +kernel
theorem dX8_coast_26 : decode cX8_coast 26 = .ok (.iload_n 2, 1) := by decide +kernel
theorem dX8_coast_27 : decode cX8_coast 27 = .ok (.iload_n 3, 1) := by decide +kernel
theorem dX8_coast_28 : decode cX8_coast 28 = .ok (.iload 4, 2) := by decide +kernel
theorem dX8_coast_30 : decode cX8_coast 30 = .ok (.invokevirtual 118, 3) := by decide +kernel
theorem dX8_coast_33 : decode cX8_coast 33 = .ok (.istore 5, 2) := by decide +kernel
theorem dX8_coast_35 : decode cX8_coast 35 = .ok (.iload 5, 2) := by decide +kernel
theorem dX8_coast_37 : decode cX8_coast 37 = .ok (.ifCond .eq 10, 3) := by decide +kernel
theorem dX8_coast_40 : decode cX8_coast 40 = .ok (.aload_n 0, 1) := by decide +kernel
theorem dX8_coast_41 : decode cX8_coast 41 = .ok (.iload 5, 2) := by decide +kernel
theorem dX8_coast_43 : decode cX8_coast 43 = .ok (.invokevirtual 122, 3) := by decide +kernel
theorem dX8_coast_46 : decode cX8_coast 46 = .ok (.ireturn, 1) := by decide +kernel
theorem dX8_coast_47 : decode cX8_coast 47 = .ok (.bipush 50, 2) := by decide +kernel
theorem dX8_coast_49 : decode cX8_coast 49 = .ok (.iload_n 1, 1) := by decide +kernel
theorem dX8_coast_50 : decode cX8_coast 50 = .ok (.imul, 1) := by decide +kernel
theorem dX8_coast_51 : decode cX8_coast 51 = .ok (.iload_n 3, 1) := by decide +kernel
theorem dX8_coast_52 : decode cX8_coast 52 = .ok (.iadd, 1) := by decide +kernel
theorem dX8_coast_53 : decode cX8_coast 53 = .ok (.istore 6, 2) := by decide +kernel
theorem dX8_coast_55 : decode cX8_coast 55 = .ok (.aload_n 0, 1) := by decide +kernel
theorem dX8_coast_56 : decode cX8_coast 56 = .ok (.iload 6, 2) := by decide +kernel
theorem dX8_coast_58 : decode cX8_coast 58 = .ok (.putfield 108, 3) := by decide +kernel
theorem dX8_coast_61 : decode cX8_coast 61 = .ok (.aload_n 0, 1) := by decide +kernel
theorem dX8_coast_62 : decode cX8_coast 62 = .ok (.iload 6, 2) := by decide +kernel
theorem dX8_coast_64 : decode cX8_coast 64 = .ok (.iload 4, 2) := by decide +kernel
theorem dX8_coast_66 : decode cX8_coast 66 = .ok (.iadd, 1) := by decide +kernel
theorem dX8_coast_67 : decode cX8_coast 67 = .ok (.invokevirtual 126, 3) := by decide +kernel
theorem dX8_coast_70 : decode cX8_coast 70 = .ok (.ifCond .ne 14, 3) := by decide +kernel
theorem dX8_coast_73 : decode cX8_coast 73 = .ok (.bipush (-100), 2) := by decide +kernel
theorem dX8_coast_75 : decode cX8_coast 75 = .ok (.aload_n 0, 1) := by decide +kernel
theorem dX8_coast_76 : decode cX8_coast 76 = .ok (.getfield 108, 3) := by decide +kernel
theorem dX8_coast_79 : decode cX8_coast 79 = .ok (.iload 6, 2) := by decide +kernel
theorem dX8_coast_81 : decode cX8_coast 81 = .ok (.isub, 1) := by decide +kernel
theorem dX8_coast_82 : decode cX8_coast 82 = .ok (.isub, 1) := by decide +kernel
theorem dX8_coast_83 : decode cX8_coast 83 = .ok (.ireturn, 1) := by decide +kernel
theorem dX8_coast_84 : decode cX8_coast 84 = .ok (.aload_n 0, 1) := by decide +kernel
theorem dX8_coast_85 : decode cX8_coast 85 = .ok (.aload_n 0, 1) := by decide +kernel
theorem dX8_coast_86 : decode cX8_coast 86 = .ok (.getfield 129, 3) := by decide +kernel
theorem dX8_coast_89 : decode cX8_coast 89 = .ok (.putfield 105, 3) := by decide +kernel
theorem dX8_coast_92 : decode cX8_coast 92 = .ok (.iconst 0, 1) := by decide +kernel
theorem dX8_coast_93 : decode cX8_coast 93 = .ok (.istore 7, 2) := by decide +kernel
theorem dX8_coast_95 : decode cX8_coast 95 = .ok (.iload 7, 2) := by decide +kernel
theorem dX8_coast_97 : decode cX8_coast 97 = .ok (.aload_n 0, 1) := by decide +kernel
theorem dX8_coast_98 : decode cX8_coast 98 = .ok (.getfield 105, 3) := by decide +kernel
theorem dX8_coast_101 : decode cX8_coast 101 = .ok (.if_icmp .ge 85, 3) := by decide +kernel
theorem dX8_coast_104 : decode cX8_coast 104 = .ok (.aload_n 0, 1) := by decide +kernel
theorem dX8_coast_105 : decode cX8_coast 105 = .ok (.getfield 19, 3) := by decide +kernel
theorem dX8_coast_108 : decode cX8_coast 108 = .ok (.iload 7, 2) := by decide +kernel
theorem dX8_coast_110 : decode cX8_coast 110 = .ok (.aload_n 0, 1) := by decide +kernel
theorem dX8_coast_111 : decode cX8_coast 111 = .ok (.getfield 32, 3) := by decide +kernel
theorem dX8_coast_114 : decode cX8_coast 114 = .ok (.iload 7, 2) := by decide +kernel
theorem dX8_coast_116 : decode cX8_coast 116 = .ok (.iaload, 1) := by decide +kernel
theorem dX8_coast_117 : decode cX8_coast 117 = .ok (.iastore, 1) := by decide +kernel
theorem dX8_coast_118 : decode cX8_coast 118 = .ok (.aload_n 0, 1) := by decide +kernel
theorem dX8_coast_119 : decode cX8_coast 119 = .ok (.getfield 22, 3) := by decide +kernel
theorem dX8_coast_122 : decode cX8_coast 122 = .ok (.iload 7, 2) := by decide +kernel
theorem dX8_coast_124 : decode cX8_coast 124 = .ok (.aload_n 0, 1) := by decide +kernel
theorem dX8_coast_125 : decode cX8_coast 125 = .ok (.getfield 35, 3) := by decide +kernel
theorem dX8_coast_128 : decode cX8_coast 128 = .ok (.iload 7, 2) := by decide +kernel
theorem dX8_coast_130 : decode cX8_coast 130 = .ok (.iaload, 1) := by decide +kernel
theorem dX8_coast_131 : decode cX8_coast 131 = .ok (.iastore, 1) := by decide +kernel
theorem dX8_coast_132 : decode cX8_coast 132 = .ok (.aload_n 0, 1) := by decide +kernel
theorem dX8_coast_133 : decode cX8_coast 133 = .ok (.getfield 25, 3) := by decide +kernel
theorem dX8_coast_136 : decode cX8_coast 136 = .ok (.iconst 2, 1) := by decide +kernel
theorem dX8_coast_137 : decode cX8_coast 137 = .ok (.iload 7, 2) := by decide +kernel
theorem dX8_coast_139 : decode cX8_coast 139 = .ok (.imul, 1) := by decide +kernel
theorem dX8_coast_140 : decode cX8_coast 140 = .ok (.aload_n 0, 1) := by decide +kernel
theorem dX8_coast_141 : decode cX8_coast 141 = .ok (.getfield 38, 3) := by decide +kernel
theorem dX8_coast_144 : decode cX8_coast 144 = .ok (.iconst 2, 1) := by decide +kernel
theorem dX8_coast_145 : decode cX8_coast 145 = .ok (.iload 7, 2) := by decide +kernel
theorem dX8_coast_147 : decode cX8_coast 147 = .ok (.imul, 1) := by decide +kernel
theorem dX8_coast_148 : decode cX8_coast 148 = .ok (.iaload, 1) := by decide +kernel
theorem dX8_coast_149 : decode cX8_coast 149 = .ok (.iastore, 1) := by decide +kernel
theorem dX8_coast_150 : decode cX8_coast 150 = .ok (.aload_n 0, 1) := by decide +kernel
theorem dX8_coast_151 : decode cX8_coast 151 = .ok (.getfield 25, 3) := by decide +kernel
theorem dX8_coast_154 : decode cX8_coast 154 = .ok (.iconst 2, 1) := by decide +kernel
theorem dX8_coast_155 : decode cX8_coast 155 = .ok (.iload 7, 2) := by decide +kernel
theorem dX8_coast_157 : decode cX8_coast 157 = .ok (.imul, 1) := by decide +kernel
theorem dX8_coast_158 : decode cX8_coast 158 = .ok (.iconst 1, 1) := by decide +kernel
theorem dX8_coast_159 : decode cX8_coast 159 = .ok (.iadd, 1) := by decide +kernel
theorem dX8_coast_160 : decode cX8_coast 160 = .ok (.aload_n 0, 1) := by decide +kernel
theorem dX8_coast_161 : decode cX8_coast 161 = .ok (.getfield 38, 3) := by decide +kernel
theorem dX8_coast_164 : decode cX8_coast 164 = .ok (.iconst 2, 1) := by decide +kernel
theorem dX8_coast_165 : decode cX8_coast 165 = .ok (.iload 7, 2) := by decide +kernel
theorem dX8_coast_167 : decode cX8_coast 167 = .ok (.imul, 1) := by decide +kernel
theorem dX8_coast_168 : decode cX8_coast 168 = .ok (.iconst 1, 1) := by decide +kernel
theorem dX8_coast_169 : decode cX8_coast 169 = .ok (.iadd, 1) := by decide +kernel
theorem dX8_coast_170 : decode cX8_coast 170 = .ok (.iaload, 1) := by decide +kernel
theorem dX8_coast_171 : decode cX8_coast 171 = .ok (.iastore, 1) := by decide +kernel
theorem dX8_coast_172 : decode cX8_coast 172 = .ok (.aload_n 0, 1) := by decide +kernel
theorem dX8_coast_173 : decode cX8_coast 173 = .ok (.getfield 28, 3) := by decide +kernel
theorem dX8_coast_176 : decode cX8_coast 176 = .ok (.iload 7, 2) := by decide +kernel
theorem dX8_coast_178 : decode cX8_coast 178 = .ok (.iconst 0, 1) := by decide +kernel
theorem dX8_coast_179 : decode cX8_coast 179 = .ok (.bastore, 1) := by decide +kernel
theorem dX8_coast_180 : decode cX8_coast 180 = .ok (.iinc 7 1, 3) := by decide +kernel
theorem dX8_coast_183 : decode cX8_coast 183 = .ok (.goto (-88), 3) := by decide +kernel
theorem dX8_coast_186 : decode cX8_coast 186 = .ok (.aload_n 0, 1) := by decide +kernel
theorem dX8_coast_187 : decode cX8_coast 187 = .ok (.iconst 0, 1) := by decide +kernel
theorem dX8_coast_188 : decode cX8_coast 188 = .ok (.putfield 132, 3) := by decide +kernel
theorem dX8_coast_191 : decode cX8_coast 191 = .ok (.aload_n 0, 1) := by decide +kernel
theorem dX8_coast_192 : decode cX8_coast 192 = .ok (.iconst 0, 1) := by decide +kernel
theorem dX8_coast_193 : decode cX8_coast 193 = .ok (.putfield 135, 3) := by decide +kernel
theorem dX8_coast_196 : decode cX8_coast 196 = .ok (.aload_n 0, 1) := by decide +kernel
theorem dX8_coast_197 : decode cX8_coast 197 = .ok (.getfield 105, 3) := by decide +kernel
theorem dX8_coast_200 : decode cX8_coast 200 = .ok (.ireturn, 1) := by decide +kernel
theorem dX8_readCoast_0 : decode cX8_readCoast 0 = .ok (.aload_n 0, 1) := by decide +kernel
theorem dX8_readCoast_1 : decode cX8_readCoast 1 = .ok (.getfield 108, 3) := by decide +kernel
theorem dX8_readCoast_4 : decode cX8_readCoast 4 = .ok (.iload_n 1, 1) := by decide +kernel
theorem dX8_readCoast_5 : decode cX8_readCoast 5 = .ok (.if_icmp .ge 17, 3) := by decide +kernel
theorem dX8_readCoast_8 : decode cX8_readCoast 8 = .ok (.aload_n 0, 1) := by decide +kernel
theorem dX8_readCoast_9 : decode cX8_readCoast 9 = .ok (.getfield 16, 3) := by decide +kernel
theorem dX8_readCoast_12 : decode cX8_readCoast 12 = .ok (.aload_n 0, 1) := by decide +kernel
theorem dX8_readCoast_13 : decode cX8_readCoast 13 = .ok (.getfield 108, 3) := by decide +kernel
theorem dX8_readCoast_16 : decode cX8_readCoast 16 = .ok (.iaload, 1) := by decide +kernel
theorem dX8_readCoast_17 : decode cX8_readCoast 17 = .ok (.bipush 100, 2) := by decide +kernel
theorem dX8_readCoast_19 : decode cX8_readCoast 19 = .ok (.if_icmp .eq 5, 3) := by decide +kernel
theorem dX8_readCoast_22 : decode cX8_readCoast 22 = .ok (.iconst 0, 1) := by decide +kernel
theorem dX8_readCoast_23 : decode cX8_readCoast 23 = .ok (.ireturn, 1) := by decide +kernel
theorem dX8_readCoast_24 : decode cX8_readCoast 24 = .ok (.aload_n 0, 1) := by decide +kernel
theorem dX8_readCoast_25 : decode cX8_readCoast 25 = .ok (.dup, 1) := by decide +kernel
theorem dX8_readCoast_26 : decode cX8_readCoast 26 = .ok (.getfield 108, 3) := by decide +kernel
theorem dX8_readCoast_29 : decode cX8_readCoast 29 = .ok (.iconst 1, 1) := by decide +kernel
theorem dX8_readCoast_30 : decode cX8_readCoast 30 = .ok (.iadd, 1) := by decide +kernel
theorem dX8_readCoast_31 : decode cX8_readCoast 31 = .ok (.putfield 108, 3) := by decide +kernel
theorem dX8_readCoast_34 : decode cX8_readCoast 34 = .ok (.aload_n 0, 1) := by decide +kernel
theorem dX8_readCoast_35 : decode cX8_readCoast 35 = .ok (.aload_n 0, 1) := by decide +kernel
theorem dX8_readCoast_36 : decode cX8_readCoast 36 = .ok (.iload_n 1, 1) := by decide +kernel
theorem dX8_readCoast_37 : decode cX8_readCoast 37 = .ok (.iconst 2, 1) := by decide +kernel
theorem dX8_readCoast_38 : decode cX8_readCoast 38 = .ok (.bipush 6, 2) := by decide +kernel
theorem dX8_readCoast_40 : decode cX8_readCoast 40 = .ok (.invokevirtual 138, 3) := by decide +kernel
theorem dX8_readCoast_43 : decode cX8_readCoast 43 = .ok (.putfield 129, 3) := by decide +kernel
theorem dX8_readCoast_46 : decode cX8_readCoast 46 = .ok (.aload_n 0, 1) := by decide +kernel
theorem dX8_readCoast_47 : decode cX8_readCoast 47 = .ok (.getfield 129, 3) := by decide +kernel
theorem dX8_readCoast_50 : decode cX8_readCoast 50 = .ok (.bipush (-9), 2) := by decide +kernel
theorem dX8_readCoast_52 : decode cX8_readCoast 52 = .ok (.if_icmp .ne 5, 3) := by decide +kernel
theorem dX8_readCoast_55 : decode cX8_readCoast 55 = .ok (.iconst 0, 1) := by decide +kernel
theorem dX8_readCoast_56 : decode cX8_readCoast 56 = .ok (.ireturn, 1) := by decide +kernel
theorem dX8_readCoast_57 : decode cX8_readCoast 57 = .ok (.iconst 0, 1) := by decide +kernel
theorem dX8_readCoast_58 : decode cX8_readCoast 58 = .ok (.istore_n 2, 1) := by decide +kernel
theorem dX8_readCoast_59 : decode cX8_readCoast 59 = .ok (.iload_n 2, 1) := by decide +kernel
theorem dX8_readCoast_60 : decode cX8_readCoast 60 = .ok (.aload_n 0, 1) := by decide +kernel
theorem dX8_readCoast_61 : decode cX8_readCoast 61 = .ok (.getfield 129, 3) := by decide +kernel
theorem dX8_readCoast_64 : decode cX8_readCoast 64 = .ok (.if_icmp .ge 54, 3) := by decide +kernel
theorem dX8_readCoast_67 : decode cX8_readCoast 67 = .ok (.aload_n 0, 1) := by decide +kernel
theorem dX8_readCoast_68 : decode cX8_readCoast 68 = .ok (.getfield 108, 3) := by decide +kernel
theorem dX8_readCoast_71 : decode cX8_readCoast 71 = .ok (.iload_n 1, 1) := by decide +kernel
theorem dX8_readCoast_72 : decode cX8_readCoast 72 = .ok (.if_icmp .ge 17, 3) := by decide +kernel
theorem dX8_readCoast_75 : decode cX8_readCoast 75 = .ok (.aload_n 0, 1) := by decide +kernel
theorem dX8_readCoast_76 : decode cX8_readCoast 76 = .ok (.getfield 16, 3) := by decide +kernel
theorem dX8_readCoast_79 : decode cX8_readCoast 79 = .ok (.aload_n 0, 1) := by decide +kernel
theorem dX8_readCoast_80 : decode cX8_readCoast 80 = .ok (.getfield 108, 3) := by decide +kernel
theorem dX8_readCoast_83 : decode cX8_readCoast 83 = .ok (.iaload, 1) := by decide +kernel
theorem dX8_readCoast_84 : decode cX8_readCoast 84 = .ok (.bipush 59, 2) := by decide +kernel
theorem dX8_readCoast_86 : decode cX8_readCoast 86 = .ok (.if_icmp .eq 5, 3) := by decide +kernel
theorem dX8_readCoast_89 : decode cX8_readCoast 89 = .ok (.iconst 0, 1) := by decide +kernel
theorem dX8_readCoast_90 : decode cX8_readCoast 90 = .ok (.ireturn, 1) := by decide +kernel
theorem dX8_readCoast_91 : decode cX8_readCoast 91 = .ok (.aload_n 0, 1) := by decide +kernel
theorem dX8_readCoast_92 : decode cX8_readCoast 92 = .ok (.dup, 1) := by decide +kernel
theorem dX8_readCoast_93 : decode cX8_readCoast 93 = .ok (.getfield 108, 3) := by decide +kernel
theorem dX8_readCoast_96 : decode cX8_readCoast 96 = .ok (.iconst 1, 1) := by decide +kernel
theorem dX8_readCoast_97 : decode cX8_readCoast 97 = .ok (.iadd, 1) := by decide +kernel
theorem dX8_readCoast_98 : decode cX8_readCoast 98 = .ok (.putfield 108, 3) := by decide +kernel
theorem dX8_readCoast_101 : decode cX8_readCoast 101 = .ok (.aload_n 0, 1) := by decide +kernel
theorem dX8_readCoast_102 : decode cX8_readCoast 102 = .ok (.iload_n 1, 1) := by decide +kernel
theorem dX8_readCoast_103 : decode cX8_readCoast 103 = .ok (.iload_n 2, 1) := by decide +kernel
theorem dX8_readCoast_104 : decode cX8_readCoast 104 = .ok (.invokevirtual 142, 3) := by decide +kernel
theorem dX8_readCoast_107 : decode cX8_readCoast 107 = .ok (.ifCond .ne 5, 3) := by decide +kernel
theorem dX8_readCoast_110 : decode cX8_readCoast 110 = .ok (.iconst 0, 1) := by decide +kernel
theorem dX8_readCoast_111 : decode cX8_readCoast 111 = .ok (.ireturn, 1) := by decide +kernel
theorem dX8_readCoast_112 : decode cX8_readCoast 112 = .ok (.iinc 2 1, 3) := by decide +kernel
theorem dX8_readCoast_115 : decode cX8_readCoast 115 = .ok (.goto (-56), 3) := by decide +kernel
theorem dX8_readCoast_118 : decode cX8_readCoast 118 = .ok (.aload_n 0, 1) := by decide +kernel
theorem dX8_readCoast_119 : decode cX8_readCoast 119 = .ok (.getfield 108, 3) := by decide +kernel
theorem dX8_readCoast_122 : decode cX8_readCoast 122 = .ok (.iload_n 1, 1) := by decide +kernel
theorem dX8_readCoast_123 : decode cX8_readCoast 123 = .ok (.if_icmp .ne 7, 3) := by decide +kernel
theorem dX8_readCoast_126 : decode cX8_readCoast 126 = .ok (.iconst 1, 1) := by decide +kernel
theorem dX8_readCoast_127 : decode cX8_readCoast 127 = .ok (.goto 4, 3) := by decide +kernel
theorem dX8_readCoast_130 : decode cX8_readCoast 130 = .ok (.iconst 0, 1) := by decide +kernel
theorem dX8_readCoast_131 : decode cX8_readCoast 131 = .ok (.ireturn, 1) := by decide +kernel
theorem dX8_readPerson_0 : decode cX8_readPerson 0 = .ok (.aload_n 0, 1) := by decide +kernel
theorem dX8_readPerson_1 : decode cX8_readPerson 1 = .ok (.getfield 108, 3) := by decide +kernel
theorem dX8_readPerson_4 : decode cX8_readPerson 4 = .ok (.iload_n 1, 1) := by decide +kernel
theorem dX8_readPerson_5 : decode cX8_readPerson 5 = .ok (.if_icmp .ge 15, 3) := by decide +kernel
theorem dX8_readPerson_8 : decode cX8_readPerson 8 = .ok (.aload_n 0, 1) := by decide +kernel
theorem dX8_readPerson_9 : decode cX8_readPerson 9 = .ok (.getfield 16, 3) := by decide +kernel
theorem dX8_readPerson_12 : decode cX8_readPerson 12 = .ok (.aload_n 0, 1) := by decide +kernel
theorem dX8_readPerson_13 : decode cX8_readPerson 13 = .ok (.getfield 108, 3) := by decide +kernel
theorem dX8_readPerson_16 : decode cX8_readPerson 16 = .ok (.iaload, 1) := by decide +kernel
theorem dX8_readPerson_17 : decode cX8_readPerson 17 = .ok (.goto 4, 3) := by decide +kernel
theorem dX8_readPerson_20 : decode cX8_readPerson 20 = .ok (.iconst 0, 1) := by decide +kernel
theorem dX8_readPerson_21 : decode cX8_readPerson 21 = .ok (.istore_n 3, 1) := by decide +kernel
theorem dX8_readPerson_22 : decode cX8_readPerson 22 = .ok (.aload_n 0, 1) := by decide +kernel
theorem dX8_readPerson_23 : decode cX8_readPerson 23 = .ok (.getfield 32, 3) := by decide +kernel
theorem dX8_readPerson_26 : decode cX8_readPerson 26 = .ok (.iload_n 2, 1) := by decide +kernel
theorem dX8_readPerson_27 : decode cX8_readPerson 27 = .ok (.iload_n 3, 1) := by decide +kernel
theorem dX8_readPerson_28 : decode cX8_readPerson 28 = .ok (.bipush 103, 2) := by decide +kernel
theorem dX8_readPerson_30 : decode cX8_readPerson 30 = .ok (.if_icmp .ne 7, 3) := by decide +kernel
theorem dX8_readPerson_33 : decode cX8_readPerson 33 = .ok (.iconst 0, 1) := by decide +kernel
theorem dX8_readPerson_34 : decode cX8_readPerson 34 = .ok (.goto 25, 3) := by decide +kernel
theorem dX8_readPerson_37 : decode cX8_readPerson 37 = .ok (.iload_n 3, 1) := by decide +kernel
theorem dX8_readPerson_38 : decode cX8_readPerson 38 = .ok (.bipush 104, 2) := by decide +kernel
theorem dX8_readPerson_40 : decode cX8_readPerson 40 = .ok (.if_icmp .ne 7, 3) := by decide +kernel
theorem dX8_readPerson_43 : decode cX8_readPerson 43 = .ok (.iconst 1, 1) := by decide +kernel
theorem dX8_readPerson_44 : decode cX8_readPerson 44 = .ok (.goto 15, 3) := by decide +kernel
theorem dX8_readPerson_47 : decode cX8_readPerson 47 = .ok (.iload_n 3, 1) := by decide +kernel
theorem dX8_readPerson_48 : decode cX8_readPerson 48 = .ok (.bipush 111, 2) := by decide +kernel
theorem dX8_readPerson_50 : decode cX8_readPerson 50 = .ok (.if_icmp .ne 7, 3) := by decide +kernel
theorem dX8_readPerson_53 : decode cX8_readPerson 53 = .ok (.iconst 2, 1) := by decide +kernel
theorem dX8_readPerson_54 : decode cX8_readPerson 54 = .ok (.goto 5, 3) := by decide +kernel
theorem dX8_readPerson_57 : decode cX8_readPerson 57 = .ok (.bipush (-9), 2) := by decide +kernel
theorem dX8_readPerson_59 : decode cX8_readPerson 59 = .ok (.iastore, 1) := by decide +kernel
theorem dX8_readPerson_60 : decode cX8_readPerson 60 = .ok (.aload_n 0, 1) := by decide +kernel
theorem dX8_readPerson_61 : decode cX8_readPerson 61 = .ok (.getfield 32, 3) := by decide +kernel
theorem dX8_readPerson_64 : decode cX8_readPerson 64 = .ok (.iload_n 2, 1) := by decide +kernel
theorem dX8_readPerson_65 : decode cX8_readPerson 65 = .ok (.iaload, 1) := by decide +kernel
theorem dX8_readPerson_66 : decode cX8_readPerson 66 = .ok (.bipush (-9), 2) := by decide +kernel
theorem dX8_readPerson_68 : decode cX8_readPerson 68 = .ok (.if_icmp .ne 5, 3) := by decide +kernel
theorem dX8_readPerson_71 : decode cX8_readPerson 71 = .ok (.iconst 0, 1) := by decide +kernel
theorem dX8_readPerson_72 : decode cX8_readPerson 72 = .ok (.ireturn, 1) := by decide +kernel
theorem dX8_readPerson_73 : decode cX8_readPerson 73 = .ok (.aload_n 0, 1) := by decide +kernel
theorem dX8_readPerson_74 : decode cX8_readPerson 74 = .ok (.dup, 1) := by decide +kernel
theorem dX8_readPerson_75 : decode cX8_readPerson 75 = .ok (.getfield 108, 3) := by decide +kernel
theorem dX8_readPerson_78 : decode cX8_readPerson 78 = .ok (.iconst 1, 1) := by decide +kernel
theorem dX8_readPerson_79 : decode cX8_readPerson 79 = .ok (.iadd, 1) := by decide +kernel
theorem dX8_readPerson_80 : decode cX8_readPerson 80 = .ok (.putfield 108, 3) := by decide +kernel
theorem dX8_readPerson_83 : decode cX8_readPerson 83 = .ok (.aload_n 0, 1) := by decide +kernel
theorem dX8_readPerson_84 : decode cX8_readPerson 84 = .ok (.getfield 35, 3) := by decide +kernel
theorem dX8_readPerson_87 : decode cX8_readPerson 87 = .ok (.iload_n 2, 1) := by decide +kernel
theorem dX8_readPerson_88 : decode cX8_readPerson 88 = .ok (.aload_n 0, 1) := by decide +kernel
theorem dX8_readPerson_89 : decode cX8_readPerson 89 = .ok (.iload_n 1, 1) := by decide +kernel
theorem dX8_readPerson_90 : decode cX8_readPerson 90 = .ok (.iconst 1, 1) := by decide +kernel
theorem dX8_readPerson_91 : decode cX8_readPerson 91 = .ok (.bipush 9, 2) := by decide +kernel
theorem dX8_readPerson_93 : decode cX8_readPerson 93 = .ok (.invokevirtual 138, 3) := by decide +kernel
theorem dX8_readPerson_96 : decode cX8_readPerson 96 = .ok (.iastore, 1) := by decide +kernel
theorem dX8_readPerson_97 : decode cX8_readPerson 97 = .ok (.aload_n 0, 1) := by decide +kernel
theorem dX8_readPerson_98 : decode cX8_readPerson 98 = .ok (.getfield 35, 3) := by decide +kernel
theorem dX8_readPerson_101 : decode cX8_readPerson 101 = .ok (.iload_n 2, 1) := by decide +kernel
theorem dX8_readPerson_102 : decode cX8_readPerson 102 = .ok (.iaload, 1) := by decide +kernel
theorem dX8_readPerson_103 : decode cX8_readPerson 103 = .ok (.bipush (-9), 2) := by decide +kernel
theorem dX8_readPerson_105 : decode cX8_readPerson 105 = .ok (.if_icmp .ne 5, 3) := by decide +kernel
theorem dX8_readPerson_108 : decode cX8_readPerson 108 = .ok (.iconst 0, 1) := by decide +kernel
theorem dX8_readPerson_109 : decode cX8_readPerson 109 = .ok (.ireturn, 1) := by decide +kernel
theorem dX8_readPerson_110 : decode cX8_readPerson 110 = .ok (.iconst 0, 1) := by decide +kernel
theorem dX8_readPerson_111 : decode cX8_readPerson 111 = .ok (.istore 4, 2) := by decide +kernel
theorem dX8_readPerson_113 : decode cX8_readPerson 113 = .ok (.iload 4, 2) := by decide +kernel
theorem dX8_readPerson_115 : decode cX8_readPerson 115 = .ok (.iconst 2, 1) := by decide +kernel
theorem dX8_readPerson_116 : decode cX8_readPerson 116 = .ok (.if_icmp .ge 67, 3) := by decide +kernel
theorem dX8_readPerson_119 : decode cX8_readPerson 119 = .ok (.aload_n 0, 1) := by decide +kernel
theorem dX8_readPerson_120 : decode cX8_readPerson 120 = .ok (.iload_n 1, 1) := by decide +kernel
theorem dX8_readPerson_121 : decode cX8_readPerson 121 = .ok (.iconst 0, 1) := by decide +kernel
theorem dX8_readPerson_122 : decode cX8_readPerson 122 = .ok (.aload_n 0, 1) := by decide +kernel
theorem dX8_readPerson_123 : decode cX8_readPerson 123 = .ok (.getfield 129, 3) := by decide +kernel
theorem dX8_readPerson_126 : decode cX8_readPerson 126 = .ok (.iconst 1, 1) := by decide +kernel
theorem dX8_readPerson_127 : decode cX8_readPerson 127 = .ok (.isub, 1) := by decide +kernel
theorem dX8_readPerson_128 : decode cX8_readPerson 128 = .ok (.invokevirtual 138, 3) := by decide +kernel
theorem dX8_readPerson_131 : decode cX8_readPerson 131 = .ok (.istore 5, 2) := by decide +kernel
theorem dX8_readPerson_133 : decode cX8_readPerson 133 = .ok (.iload 5, 2) := by decide +kernel
theorem dX8_readPerson_135 : decode cX8_readPerson 135 = .ok (.iload_n 2, 1) := by decide +kernel
theorem dX8_readPerson_136 : decode cX8_readPerson 136 = .ok (.if_icmp .ne 13, 3) := by decide +kernel
theorem dX8_readPerson_139 : decode cX8_readPerson 139 = .ok (.aload_n 0, 1) := by decide +kernel
theorem dX8_readPerson_140 : decode cX8_readPerson 140 = .ok (.dup, 1) := by decide +kernel
theorem dX8_readPerson_141 : decode cX8_readPerson 141 = .ok (.getfield 108, 3) := by decide +kernel
theorem dX8_readPerson_144 : decode cX8_readPerson 144 = .ok (.iconst 1, 1) := by decide +kernel
theorem dX8_readPerson_145 : decode cX8_readPerson 145 = .ok (.isub, 1) := by decide +kernel
theorem dX8_readPerson_146 : decode cX8_readPerson 146 = .ok (.putfield 108, 3) := by decide +kernel
theorem dX8_readPerson_149 : decode cX8_readPerson 149 = .ok (.iload 5, 2) := by decide +kernel
theorem dX8_readPerson_151 : decode cX8_readPerson 151 = .ok (.bipush (-9), 2) := by decide +kernel
theorem dX8_readPerson_153 : decode cX8_readPerson 153 = .ok (.if_icmp .eq 9, 3) := by decide +kernel
theorem dX8_readPerson_156 : decode cX8_readPerson 156 = .ok (.iload 5, 2) := by decide +kernel
theorem dX8_readPerson_158 : decode cX8_readPerson 158 = .ok (.iload_n 2, 1) := by decide +kernel
theorem dX8_readPerson_159 : decode cX8_readPerson 159 = .ok (.if_icmp .ne 5, 3) := by decide +kernel
theorem dX8_readPerson_162 : decode cX8_readPerson 162 = .ok (.iconst 0, 1) := by decide +kernel
theorem dX8_readPerson_163 : decode cX8_readPerson 163 = .ok (.ireturn, 1) := by decide +kernel
theorem dX8_readPerson_164 : decode cX8_readPerson 164 = .ok (.aload_n 0, 1) := by decide +kernel
theorem dX8_readPerson_165 : decode cX8_readPerson 165 = .ok (.getfield 38, 3) := by decide +kernel
theorem dX8_readPerson_168 : decode cX8_readPerson 168 = .ok (.iconst 2, 1) := by decide +kernel
theorem dX8_readPerson_169 : decode cX8_readPerson 169 = .ok (.iload_n 2, 1) := by decide +kernel
theorem dX8_readPerson_170 : decode cX8_readPerson 170 = .ok (.imul, 1) := by decide +kernel
theorem dX8_readPerson_171 : decode cX8_readPerson 171 = .ok (.iload 4, 2) := by decide +kernel
theorem dX8_readPerson_173 : decode cX8_readPerson 173 = .ok (.iadd, 1) := by decide +kernel
theorem dX8_readPerson_174 : decode cX8_readPerson 174 = .ok (.iload 5, 2) := by decide +kernel
theorem dX8_readPerson_176 : decode cX8_readPerson 176 = .ok (.iastore, 1) := by decide +kernel
theorem dX8_readPerson_177 : decode cX8_readPerson 177 = .ok (.iinc 4 1, 3) := by decide +kernel
theorem dX8_readPerson_180 : decode cX8_readPerson 180 = .ok (.goto (-67), 3) := by decide +kernel
theorem dX8_readPerson_183 : decode cX8_readPerson 183 = .ok (.iconst 1, 1) := by decide +kernel
theorem dX8_readPerson_184 : decode cX8_readPerson 184 = .ok (.ireturn, 1) := by decide +kernel
theorem dX8_touchy_0 : decode cX8_touchy 0 = .ok (.bipush 10, 2) := by decide +kernel
theorem dX8_touchy_2 : decode cX8_touchy 2 = .ok (.aload_n 0, 1) := by decide +kernel
theorem dX8_touchy_3 : decode cX8_touchy 3 = .ok (.getfield 22, 3) := by decide +kernel
theorem dX8_touchy_6 : decode cX8_touchy 6 = .ok (.iload_n 1, 1) := by decide +kernel
theorem dX8_touchy_7 : decode cX8_touchy 7 = .ok (.iaload, 1) := by decide +kernel
theorem dX8_touchy_8 : decode cX8_touchy 8 = .ok (.isub, 1) := by decide +kernel
theorem dX8_touchy_9 : decode cX8_touchy 9 = .ok (.istore_n 2, 1) := by decide +kernel
theorem dX8_touchy_10 : decode cX8_touchy 10 = .ok (.aload_n 0, 1) := by decide +kernel
theorem dX8_touchy_11 : decode cX8_touchy 11 = .ok (.getfield 19, 3) := by decide +kernel
theorem dX8_touchy_14 : decode cX8_touchy 14 = .ok (.iload_n 1, 1) := by decide +kernel
theorem dX8_touchy_15 : decode cX8_touchy 15 = .ok (.iaload, 1) := by decide +kernel
theorem dX8_touchy_16 : decode cX8_touchy 16 = .ok (.ifCond .le 16, 3) := by decide +kernel
theorem dX8_touchy_19 : decode cX8_touchy 19 = .ok (.iload_n 2, 1) := by decide +kernel
theorem dX8_touchy_20 : decode cX8_touchy 20 = .ok (.iconst 3, 1) := by decide +kernel
theorem dX8_touchy_21 : decode cX8_touchy 21 = .ok (.if_icmp .le 9, 3) := by decide +kernel
theorem dX8_touchy_24 : decode cX8_touchy 24 = .ok (.iload_n 2, 1) := by decide +kernel
theorem dX8_touchy_25 : decode cX8_touchy 25 = .ok (.iconst 2, 1) := by decide +kernel
theorem dX8_touchy_26 : decode cX8_touchy 26 = .ok (.isub, 1) := by decide +kernel
theorem dX8_touchy_27 : decode cX8_touchy 27 = .ok (.goto 4, 3) := by decide +kernel
theorem dX8_touchy_30 : decode cX8_touchy 30 = .ok (.iconst 1, 1) := by decide +kernel
theorem dX8_touchy_31 : decode cX8_touchy 31 = .ok (.istore_n 2, 1) := by decide +kernel
theorem dX8_touchy_32 : decode cX8_touchy 32 = .ok (.aload_n 0, 1) := by decide +kernel
theorem dX8_touchy_33 : decode cX8_touchy 33 = .ok (.getfield 19, 3) := by decide +kernel
theorem dX8_touchy_36 : decode cX8_touchy 36 = .ok (.iload_n 1, 1) := by decide +kernel
theorem dX8_touchy_37 : decode cX8_touchy 37 = .ok (.iaload, 1) := by decide +kernel
theorem dX8_touchy_38 : decode cX8_touchy 38 = .ok (.iconst 2, 1) := by decide +kernel
theorem dX8_touchy_39 : decode cX8_touchy 39 = .ok (.if_icmp .ne 16, 3) := by decide +kernel
theorem dX8_touchy_42 : decode cX8_touchy 42 = .ok (.iload_n 2, 1) := by decide +kernel
theorem dX8_touchy_43 : decode cX8_touchy 43 = .ok (.iconst 2, 1) := by decide +kernel
theorem dX8_touchy_44 : decode cX8_touchy 44 = .ok (.if_icmp .le 9, 3) := by decide +kernel
theorem dX8_touchy_47 : decode cX8_touchy 47 = .ok (.iload_n 2, 1) := by decide +kernel
theorem dX8_touchy_48 : decode cX8_touchy 48 = .ok (.iconst 1, 1) := by decide +kernel
theorem dX8_touchy_49 : decode cX8_touchy 49 = .ok (.isub, 1) := by decide +kernel
theorem dX8_touchy_50 : decode cX8_touchy 50 = .ok (.goto 4, 3) := by decide +kernel
theorem dX8_touchy_53 : decode cX8_touchy 53 = .ok (.iconst 1, 1) := by decide +kernel
theorem dX8_touchy_54 : decode cX8_touchy 54 = .ok (.istore_n 2, 1) := by decide +kernel
theorem dX8_touchy_55 : decode cX8_touchy 55 = .ok (.iload_n 2, 1) := by decide +kernel
theorem dX8_touchy_56 : decode cX8_touchy 56 = .ok (.ireturn, 1) := by decide +kernel
theorem dX8_ofPerson_0 : decode cX8_ofPerson 0 = .ok (.aload_n 0, 1) := by decide +kernel
theorem dX8_ofPerson_1 : decode cX8_ofPerson 1 = .ok (.iload_n 1, 1) := by decide +kernel
theorem dX8_ofPerson_2 : decode cX8_ofPerson 2 = .ok (.invokevirtual 145, 3) := by decide +kernel
theorem dX8_ofPerson_5 : decode cX8_ofPerson 5 = .ok (.ifCond .ne 5, 3) := by decide +kernel
theorem dX8_ofPerson_8 : decode cX8_ofPerson 8 = .ok (.iconst (-1), 1) := by decide +kernel
theorem dX8_ofPerson_9 : decode cX8_ofPerson 9 = .ok (.ireturn, 1) := by decide +kernel
theorem dX8_ofPerson_10 : decode cX8_ofPerson 10 = .ok (.iload_n 2, 1) := by decide +kernel
theorem dX8_ofPerson_11 : decode cX8_ofPerson 11 = .ok (.tableswitch 92 0 5 #[37, 44, 51, 60, 71, 77], 37) := by decide +kernel
theorem dX8_ofPerson_48 : decode cX8_ofPerson 48 = .ok (.aload_n 0, 1) := by decide +kernel
theorem dX8_ofPerson_49 : decode cX8_ofPerson 49 = .ok (.getfield 19, 3) := by decide +kernel
theorem dX8_ofPerson_52 : decode cX8_ofPerson 52 = .ok (.iload_n 1, 1) := by decide +kernel
theorem dX8_ofPerson_53 : decode cX8_ofPerson 53 = .ok (.iaload, 1) := by decide +kernel
theorem dX8_ofPerson_54 : decode cX8_ofPerson 54 = .ok (.ireturn, 1) := by decide +kernel
theorem dX8_ofPerson_55 : decode cX8_ofPerson 55 = .ok (.aload_n 0, 1) := by decide +kernel
theorem dX8_ofPerson_56 : decode cX8_ofPerson 56 = .ok (.getfield 22, 3) := by decide +kernel
theorem dX8_ofPerson_59 : decode cX8_ofPerson 59 = .ok (.iload_n 1, 1) := by decide +kernel
theorem dX8_ofPerson_60 : decode cX8_ofPerson 60 = .ok (.iaload, 1) := by decide +kernel
theorem dX8_ofPerson_61 : decode cX8_ofPerson 61 = .ok (.ireturn, 1) := by decide +kernel
theorem dX8_ofPerson_62 : decode cX8_ofPerson 62 = .ok (.aload_n 0, 1) := by decide +kernel
theorem dX8_ofPerson_63 : decode cX8_ofPerson 63 = .ok (.getfield 25, 3) := by decide +kernel
theorem dX8_ofPerson_66 : decode cX8_ofPerson 66 = .ok (.iconst 2, 1) := by decide +kernel
theorem dX8_ofPerson_67 : decode cX8_ofPerson 67 = .ok (.iload_n 1, 1) := by decide +kernel
theorem dX8_ofPerson_68 : decode cX8_ofPerson 68 = .ok (.imul, 1) := by decide +kernel
theorem dX8_ofPerson_69 : decode cX8_ofPerson 69 = .ok (.iaload, 1) := by decide +kernel
theorem dX8_ofPerson_70 : decode cX8_ofPerson 70 = .ok (.ireturn, 1) := by decide +kernel
theorem dX8_ofPerson_71 : decode cX8_ofPerson 71 = .ok (.aload_n 0, 1) := by decide +kernel
theorem dX8_ofPerson_72 : decode cX8_ofPerson 72 = .ok (.getfield 25, 3) := by decide +kernel
theorem dX8_ofPerson_75 : decode cX8_ofPerson 75 = .ok (.iconst 2, 1) := by decide +kernel
theorem dX8_ofPerson_76 : decode cX8_ofPerson 76 = .ok (.iload_n 1, 1) := by decide +kernel
theorem dX8_ofPerson_77 : decode cX8_ofPerson 77 = .ok (.imul, 1) := by decide +kernel
theorem dX8_ofPerson_78 : decode cX8_ofPerson 78 = .ok (.iconst 1, 1) := by decide +kernel
theorem dX8_ofPerson_79 : decode cX8_ofPerson 79 = .ok (.iadd, 1) := by decide +kernel
theorem dX8_ofPerson_80 : decode cX8_ofPerson 80 = .ok (.iaload, 1) := by decide +kernel
theorem dX8_ofPerson_81 : decode cX8_ofPerson 81 = .ok (.ireturn, 1) := by decide +kernel
theorem dX8_ofPerson_82 : decode cX8_ofPerson 82 = .ok (.aload_n 0, 1) := by decide +kernel
theorem dX8_ofPerson_83 : decode cX8_ofPerson 83 = .ok (.iload_n 1, 1) := by decide +kernel
theorem dX8_ofPerson_84 : decode cX8_ofPerson 84 = .ok (.invokevirtual 148, 3) := by decide +kernel
theorem dX8_ofPerson_87 : decode cX8_ofPerson 87 = .ok (.ireturn, 1) := by decide +kernel
theorem dX8_ofPerson_88 : decode cX8_ofPerson 88 = .ok (.aload_n 0, 1) := by decide +kernel
theorem dX8_ofPerson_89 : decode cX8_ofPerson 89 = .ok (.getfield 28, 3) := by decide +kernel
theorem dX8_ofPerson_92 : decode cX8_ofPerson 92 = .ok (.iload_n 1, 1) := by decide +kernel
theorem dX8_ofPerson_93 : decode cX8_ofPerson 93 = .ok (.baload, 1) := by decide +kernel
theorem dX8_ofPerson_94 : decode cX8_ofPerson 94 = .ok (.ifCond .eq 7, 3) := by decide +kernel
theorem dX8_ofPerson_97 : decode cX8_ofPerson 97 = .ok (.iconst 1, 1) := by decide +kernel
theorem dX8_ofPerson_98 : decode cX8_ofPerson 98 = .ok (.goto 4, 3) := by decide +kernel
theorem dX8_ofPerson_101 : decode cX8_ofPerson 101 = .ok (.iconst 0, 1) := by decide +kernel
theorem dX8_ofPerson_102 : decode cX8_ofPerson 102 = .ok (.ireturn, 1) := by decide +kernel
theorem dX8_ofPerson_103 : decode cX8_ofPerson 103 = .ok (.bipush (-2), 2) := by decide +kernel
theorem dX8_ofPerson_105 : decode cX8_ofPerson 105 = .ok (.ireturn, 1) := by decide +kernel
theorem dX8_lay_0 : decode cX8_lay 0 = .ok (.aload_n 0, 1) := by decide +kernel
theorem dX8_lay_1 : decode cX8_lay 1 = .ok (.getfield 41, 3) := by decide +kernel
theorem dX8_lay_4 : decode cX8_lay 4 = .ok (.iload_n 1, 1) := by decide +kernel
theorem dX8_lay_5 : decode cX8_lay 5 = .ok (.iload_n 2, 1) := by decide +kernel
theorem dX8_lay_6 : decode cX8_lay 6 = .ok (.iastore, 1) := by decide +kernel
theorem dX8_lay_7 : decode cX8_lay 7 = .ok (.aload_n 0, 1) := by decide +kernel
theorem dX8_lay_8 : decode cX8_lay 8 = .ok (.getfield 44, 3) := by decide +kernel
theorem dX8_lay_11 : decode cX8_lay 11 = .ok (.iload_n 1, 1) := by decide +kernel
theorem dX8_lay_12 : decode cX8_lay 12 = .ok (.iload_n 3, 1) := by decide +kernel
theorem dX8_lay_13 : decode cX8_lay 13 = .ok (.iastore, 1) := by decide +kernel
theorem dX8_lay_14 : decode cX8_lay 14 = .ok (.aload_n 0, 1) := by decide +kernel
theorem dX8_lay_15 : decode cX8_lay 15 = .ok (.getfield 47, 3) := by decide +kernel
theorem dX8_lay_18 : decode cX8_lay 18 = .ok (.iload_n 1, 1) := by decide +kernel
theorem dX8_lay_19 : decode cX8_lay 19 = .ok (.iload 4, 2) := by decide +kernel
theorem dX8_lay_21 : decode cX8_lay 21 = .ok (.iastore, 1) := by decide +kernel
theorem dX8_lay_22 : decode cX8_lay 22 = .ok (.aload_n 0, 1) := by decide +kernel
theorem dX8_lay_23 : decode cX8_lay 23 = .ok (.getfield 50, 3) := by decide +kernel
theorem dX8_lay_26 : decode cX8_lay 26 = .ok (.iload_n 1, 1) := by decide +kernel
theorem dX8_lay_27 : decode cX8_lay 27 = .ok (.iload 5, 2) := by decide +kernel
theorem dX8_lay_29 : decode cX8_lay 29 = .ok (.iastore, 1) := by decide +kernel
theorem dX8_lay_30 : decode cX8_lay 30 = .ok (.return_, 1) := by decide +kernel
theorem dX8_insult_0 : decode cX8_insult 0 = .ok (.aload_n 0, 1) := by decide +kernel
theorem dX8_insult_1 : decode cX8_insult 1 = .ok (.iload_n 1, 1) := by decide +kernel
theorem dX8_insult_2 : decode cX8_insult 2 = .ok (.invokevirtual 145, 3) := by decide +kernel
theorem dX8_insult_5 : decode cX8_insult 5 = .ok (.ifCond .eq 16, 3) := by decide +kernel
theorem dX8_insult_8 : decode cX8_insult 8 = .ok (.aload_n 0, 1) := by decide +kernel
theorem dX8_insult_9 : decode cX8_insult 9 = .ok (.iload_n 2, 1) := by decide +kernel
theorem dX8_insult_10 : decode cX8_insult 10 = .ok (.invokevirtual 145, 3) := by decide +kernel
theorem dX8_insult_13 : decode cX8_insult 13 = .ok (.ifCond .eq 8, 3) := by decide +kernel
theorem dX8_insult_16 : decode cX8_insult 16 = .ok (.iload_n 1, 1) := by decide +kernel
theorem dX8_insult_17 : decode cX8_insult 17 = .ok (.iload_n 2, 1) := by decide +kernel
theorem dX8_insult_18 : decode cX8_insult 18 = .ok (.if_icmp .ne 5, 3) := by decide +kernel
theorem dX8_insult_21 : decode cX8_insult 21 = .ok (.iconst (-1), 1) := by decide +kernel
theorem dX8_insult_22 : decode cX8_insult 22 = .ok (.ireturn, 1) := by decide +kernel
theorem dX8_insult_23 : decode cX8_insult 23 = .ok (.iload_n 3, 1) := by decide +kernel
theorem dX8_insult_24 : decode cX8_insult 24 = .ok (.iconst 0, 1) := by decide +kernel
theorem dX8_insult_25 : decode cX8_insult 25 = .ok (.bipush 29, 2) := by decide +kernel
theorem dX8_insult_27 : decode cX8_insult 27 = .ok (.invokestatic 101, 3) := by decide +kernel
theorem dX8_insult_30 : decode cX8_insult 30 = .ok (.ifCond .eq 14, 3) := by decide +kernel
theorem dX8_insult_33 : decode cX8_insult 33 = .ok (.iload 4, 2) := by decide +kernel
theorem dX8_insult_35 : decode cX8_insult 35 = .ok (.iconst 1, 1) := by decide +kernel
theorem dX8_insult_36 : decode cX8_insult 36 = .ok (.bipush 9, 2) := by decide +kernel
theorem dX8_insult_38 : decode cX8_insult 38 = .ok (.invokestatic 101, 3) := by decide +kernel
theorem dX8_insult_41 : decode cX8_insult 41 = .ok (.ifCond .ne 6, 3) := by decide +kernel
theorem dX8_insult_44 : decode cX8_insult 44 = .ok (.bipush (-2), 2) := by decide +kernel
theorem dX8_insult_46 : decode cX8_insult 46 = .ok (.ireturn, 1) := by decide +kernel
theorem dX8_insult_47 : decode cX8_insult 47 = .ok (.aload_n 0, 1) := by decide +kernel
theorem dX8_insult_48 : decode cX8_insult 48 = .ok (.getfield 132, 3) := by decide +kernel
theorem dX8_insult_51 : decode cX8_insult 51 = .ok (.bipush 8, 2) := by decide +kernel
theorem dX8_insult_53 : decode cX8_insult 53 = .ok (.if_icmp .ne 6, 3) := by decide +kernel
theorem dX8_insult_56 : decode cX8_insult 56 = .ok (.bipush (-4), 2) := by decide +kernel
theorem dX8_insult_58 : decode cX8_insult 58 = .ok (.ireturn, 1) := by decide +kernel
theorem dX8_insult_59 : decode cX8_insult 59 = .ok (.aload_n 0, 1) := by decide +kernel
theorem dX8_insult_60 : decode cX8_insult 60 = .ok (.aload_n 0, 1) := by decide +kernel
theorem dX8_insult_61 : decode cX8_insult 61 = .ok (.getfield 132, 3) := by decide +kernel
theorem dX8_insult_64 : decode cX8_insult 64 = .ok (.iload_n 1, 1) := by decide +kernel
theorem dX8_insult_65 : decode cX8_insult 65 = .ok (.iload_n 2, 1) := by decide +kernel
theorem dX8_insult_66 : decode cX8_insult 66 = .ok (.iload_n 3, 1) := by decide +kernel
theorem dX8_insult_67 : decode cX8_insult 67 = .ok (.iload 4, 2) := by decide +kernel
theorem dX8_insult_69 : decode cX8_insult 69 = .ok (.invokevirtual 151, 3) := by decide +kernel
theorem dX8_insult_72 : decode cX8_insult 72 = .ok (.aload_n 0, 1) := by decide +kernel
theorem dX8_insult_73 : decode cX8_insult 73 = .ok (.dup, 1) := by decide +kernel
theorem dX8_insult_74 : decode cX8_insult 74 = .ok (.getfield 132, 3) := by decide +kernel
theorem dX8_insult_77 : decode cX8_insult 77 = .ok (.iconst 1, 1) := by decide +kernel
theorem dX8_insult_78 : decode cX8_insult 78 = .ok (.iadd, 1) := by decide +kernel
theorem dX8_insult_79 : decode cX8_insult 79 = .ok (.putfield 132, 3) := by decide +kernel
theorem dX8_insult_82 : decode cX8_insult 82 = .ok (.aload_n 0, 1) := by decide +kernel
theorem dX8_insult_83 : decode cX8_insult 83 = .ok (.getfield 132, 3) := by decide +kernel
theorem dX8_insult_86 : decode cX8_insult 86 = .ok (.iconst 1, 1) := by decide +kernel
theorem dX8_insult_87 : decode cX8_insult 87 = .ok (.isub, 1) := by decide +kernel
theorem dX8_insult_88 : decode cX8_insult 88 = .ok (.ireturn, 1) := by decide +kernel
theorem dX8_sorry_0 : decode cX8_sorry 0 = .ok (.iload_n 1, 1) := by decide +kernel
theorem dX8_sorry_1 : decode cX8_sorry 1 = .ok (.iconst 0, 1) := by decide +kernel
theorem dX8_sorry_2 : decode cX8_sorry 2 = .ok (.aload_n 0, 1) := by decide +kernel
theorem dX8_sorry_3 : decode cX8_sorry 3 = .ok (.getfield 132, 3) := by decide +kernel
theorem dX8_sorry_6 : decode cX8_sorry 6 = .ok (.invokestatic 101, 3) := by decide +kernel
theorem dX8_sorry_9 : decode cX8_sorry 9 = .ok (.ifCond .ne 6, 3) := by decide +kernel
theorem dX8_sorry_12 : decode cX8_sorry 12 = .ok (.bipush (-2), 2) := by decide +kernel
theorem dX8_sorry_14 : decode cX8_sorry 14 = .ok (.ireturn, 1) := by decide +kernel
theorem dX8_sorry_15 : decode cX8_sorry 15 = .ok (.aload_n 0, 1) := by decide +kernel
theorem dX8_sorry_16 : decode cX8_sorry 16 = .ok (.dup, 1) := by decide +kernel
theorem dX8_sorry_17 : decode cX8_sorry 17 = .ok (.getfield 132, 3) := by decide +kernel
theorem dX8_sorry_20 : decode cX8_sorry 20 = .ok (.iload_n 1, 1) := by decide +kernel
theorem dX8_sorry_21 : decode cX8_sorry 21 = .ok (.isub, 1) := by decide +kernel
theorem dX8_sorry_22 : decode cX8_sorry 22 = .ok (.putfield 132, 3) := by decide +kernel
theorem dX8_sorry_25 : decode cX8_sorry 25 = .ok (.aload_n 0, 1) := by decide +kernel
theorem dX8_sorry_26 : decode cX8_sorry 26 = .ok (.getfield 132, 3) := by decide +kernel
theorem dX8_sorry_29 : decode cX8_sorry 29 = .ok (.ireturn, 1) := by decide +kernel
theorem dX8_arrest_0 : decode cX8_arrest 0 = .ok (.aload_n 0, 1) := by decide +kernel
theorem dX8_arrest_1 : decode cX8_arrest 1 = .ok (.iload_n 1, 1) := by decide +kernel
theorem dX8_arrest_2 : decode cX8_arrest 2 = .ok (.invokevirtual 145, 3) := by decide +kernel
theorem dX8_arrest_5 : decode cX8_arrest 5 = .ok (.ifCond .ne 5, 3) := by decide +kernel
theorem dX8_arrest_8 : decode cX8_arrest 8 = .ok (.iconst (-1), 1) := by decide +kernel
theorem dX8_arrest_9 : decode cX8_arrest 9 = .ok (.ireturn, 1) := by decide +kernel
theorem dX8_arrest_10 : decode cX8_arrest 10 = .ok (.aload_n 0, 1) := by decide +kernel
theorem dX8_arrest_11 : decode cX8_arrest 11 = .ok (.getfield 28, 3) := by decide +kernel
theorem dX8_arrest_14 : decode cX8_arrest 14 = .ok (.iload_n 1, 1) := by decide +kernel
theorem dX8_arrest_15 : decode cX8_arrest 15 = .ok (.baload, 1) := by decide +kernel
theorem dX8_arrest_16 : decode cX8_arrest 16 = .ok (.istore_n 3, 1) := by decide +kernel
theorem dX8_arrest_17 : decode cX8_arrest 17 = .ok (.aload_n 0, 1) := by decide +kernel
theorem dX8_arrest_18 : decode cX8_arrest 18 = .ok (.getfield 28, 3) := by decide +kernel
theorem dX8_arrest_21 : decode cX8_arrest 21 = .ok (.iload_n 1, 1) := by decide +kernel
theorem dX8_arrest_22 : decode cX8_arrest 22 = .ok (.iload_n 2, 1) := by decide +kernel
theorem dX8_arrest_23 : decode cX8_arrest 23 = .ok (.bastore, 1) := by decide +kernel
theorem dX8_arrest_24 : decode cX8_arrest 24 = .ok (.iload_n 3, 1) := by decide +kernel
theorem dX8_arrest_25 : decode cX8_arrest 25 = .ok (.iload_n 2, 1) := by decide +kernel
theorem dX8_arrest_26 : decode cX8_arrest 26 = .ok (.if_icmp .ne 7, 3) := by decide +kernel
theorem dX8_arrest_29 : decode cX8_arrest 29 = .ok (.iconst 0, 1) := by decide +kernel
theorem dX8_arrest_30 : decode cX8_arrest 30 = .ok (.goto 4, 3) := by decide +kernel
theorem dX8_arrest_33 : decode cX8_arrest 33 = .ok (.iconst 1, 1) := by decide +kernel
theorem dX8_arrest_34 : decode cX8_arrest 34 = .ok (.ireturn, 1) := by decide +kernel
theorem dX8_isFree_0 : decode cX8_isFree 0 = .ok (.aload_n 0, 1) := by decide +kernel
theorem dX8_isFree_1 : decode cX8_isFree 1 = .ok (.getfield 28, 3) := by decide +kernel
theorem dX8_isFree_4 : decode cX8_isFree 4 = .ok (.iload_n 1, 1) := by decide +kernel
theorem dX8_isFree_5 : decode cX8_isFree 5 = .ok (.baload, 1) := by decide +kernel
theorem dX8_isFree_6 : decode cX8_isFree 6 = .ok (.ifCond .ne 28, 3) := by decide +kernel
theorem dX8_isFree_9 : decode cX8_isFree 9 = .ok (.aload_n 0, 1) := by decide +kernel
theorem dX8_isFree_10 : decode cX8_isFree 10 = .ok (.getfield 53, 3) := by decide +kernel
theorem dX8_isFree_13 : decode cX8_isFree 13 = .ok (.iload_n 1, 1) := by decide +kernel
theorem dX8_isFree_14 : decode cX8_isFree 14 = .ok (.iaload, 1) := by decide +kernel
theorem dX8_isFree_15 : decode cX8_isFree 15 = .ok (.iload_n 2, 1) := by decide +kernel
theorem dX8_isFree_16 : decode cX8_isFree 16 = .ok (.if_icmp .gt 18, 3) := by decide +kernel
theorem dX8_isFree_19 : decode cX8_isFree 19 = .ok (.aload_n 0, 1) := by decide +kernel
theorem dX8_isFree_20 : decode cX8_isFree 20 = .ok (.getfield 155, 3) := by decide +kernel
theorem dX8_isFree_23 : decode cX8_isFree 23 = .ok (.iload_n 1, 1) := by decide +kernel
theorem dX8_isFree_24 : decode cX8_isFree 24 = .ok (.ishr, 1) := by decide +kernel
theorem dX8_isFree_25 : decode cX8_isFree 25 = .ok (.iconst 1, 1) := by decide +kernel
theorem dX8_isFree_26 : decode cX8_isFree 26 = .ok (.iand, 1) := by decide +kernel
theorem dX8_isFree_27 : decode cX8_isFree 27 = .ok (.ifCond .ne 7, 3) := by decide +kernel
theorem dX8_isFree_30 : decode cX8_isFree 30 = .ok (.iconst 1, 1) := by decide +kernel
theorem dX8_isFree_31 : decode cX8_isFree 31 = .ok (.goto 4, 3) := by decide +kernel
theorem dX8_isFree_34 : decode cX8_isFree 34 = .ok (.iconst 0, 1) := by decide +kernel
theorem dX8_isFree_35 : decode cX8_isFree 35 = .ok (.ireturn, 1) := by decide +kernel
theorem dX8_maySecond_0 : decode cX8_maySecond 0 = .ok (.iload_n 1, 1) := by decide +kernel
theorem dX8_maySecond_1 : decode cX8_maySecond 1 = .ok (.iload_n 2, 1) := by decide +kernel
theorem dX8_maySecond_2 : decode cX8_maySecond 2 = .ok (.if_icmp .eq 28, 3) := by decide +kernel
theorem dX8_maySecond_5 : decode cX8_maySecond 5 = .ok (.iload_n 1, 1) := by decide +kernel
theorem dX8_maySecond_6 : decode cX8_maySecond 6 = .ok (.iload_n 3, 1) := by decide +kernel
theorem dX8_maySecond_7 : decode cX8_maySecond 7 = .ok (.if_icmp .eq 23, 3) := by decide +kernel
theorem dX8_maySecond_10 : decode cX8_maySecond 10 = .ok (.iload_n 1, 1) := by decide +kernel
theorem dX8_maySecond_11 : decode cX8_maySecond 11 = .ok (.iload 4, 2) := by decide +kernel
theorem dX8_maySecond_13 : decode cX8_maySecond 13 = .ok (.if_icmp .eq 17, 3) := by decide +kernel
theorem dX8_maySecond_16 : decode cX8_maySecond 16 = .ok (.aload_n 0, 1) := by decide +kernel
theorem dX8_maySecond_17 : decode cX8_maySecond 17 = .ok (.iload_n 1, 1) := by decide +kernel
theorem dX8_maySecond_18 : decode cX8_maySecond 18 = .ok (.iload 5, 2) := by decide +kernel
theorem dX8_maySecond_20 : decode cX8_maySecond 20 = .ok (.invokevirtual 158, 3) := by decide +kernel
theorem dX8_maySecond_23 : decode cX8_maySecond 23 = .ok (.ifCond .eq 7, 3) := by decide +kernel
theorem dX8_maySecond_26 : decode cX8_maySecond 26 = .ok (.iconst 1, 1) := by decide +kernel
theorem dX8_maySecond_27 : decode cX8_maySecond 27 = .ok (.goto 4, 3) := by decide +kernel
theorem dX8_maySecond_30 : decode cX8_maySecond 30 = .ok (.iconst 0, 1) := by decide +kernel
theorem dX8_maySecond_31 : decode cX8_maySecond 31 = .ok (.ireturn, 1) := by decide +kernel
theorem dX8_secondOf_0 : decode cX8_secondOf 0 = .ok (.aload_n 0, 1) := by decide +kernel
theorem dX8_secondOf_1 : decode cX8_secondOf 1 = .ok (.getfield 25, 3) := by decide +kernel
theorem dX8_secondOf_4 : decode cX8_secondOf 4 = .ok (.iconst 2, 1) := by decide +kernel
theorem dX8_secondOf_5 : decode cX8_secondOf 5 = .ok (.iload_n 1, 1) := by decide +kernel
theorem dX8_secondOf_6 : decode cX8_secondOf 6 = .ok (.imul, 1) := by decide +kernel
theorem dX8_secondOf_7 : decode cX8_secondOf 7 = .ok (.iaload, 1) := by decide +kernel
theorem dX8_secondOf_8 : decode cX8_secondOf 8 = .ok (.istore 5, 2) := by decide +kernel
theorem dX8_secondOf_10 : decode cX8_secondOf 10 = .ok (.aload_n 0, 1) := by decide +kernel
theorem dX8_secondOf_11 : decode cX8_secondOf 11 = .ok (.getfield 25, 3) := by decide +kernel
theorem dX8_secondOf_14 : decode cX8_secondOf 14 = .ok (.iconst 2, 1) := by decide +kernel
theorem dX8_secondOf_15 : decode cX8_secondOf 15 = .ok (.iload_n 1, 1) := by decide +kernel
theorem dX8_secondOf_16 : decode cX8_secondOf 16 = .ok (.imul, 1) := by decide +kernel
theorem dX8_secondOf_17 : decode cX8_secondOf 17 = .ok (.iconst 1, 1) := by decide +kernel
theorem dX8_secondOf_18 : decode cX8_secondOf 18 = .ok (.iadd, 1) := by decide +kernel
theorem dX8_secondOf_19 : decode cX8_secondOf 19 = .ok (.iaload, 1) := by decide +kernel
theorem dX8_secondOf_20 : decode cX8_secondOf 20 = .ok (.istore 6, 2) := by decide +kernel
theorem dX8_secondOf_22 : decode cX8_secondOf 22 = .ok (.aload_n 0, 1) := by decide +kernel
theorem dX8_secondOf_23 : decode cX8_secondOf 23 = .ok (.iload 5, 2) := by decide +kernel
theorem dX8_secondOf_25 : decode cX8_secondOf 25 = .ok (.iload_n 1, 1) := by decide +kernel
theorem dX8_secondOf_26 : decode cX8_secondOf 26 = .ok (.iload_n 2, 1) := by decide +kernel
theorem dX8_secondOf_27 : decode cX8_secondOf 27 = .ok (.iload_n 3, 1) := by decide +kernel
theorem dX8_secondOf_28 : decode cX8_secondOf 28 = .ok (.iload 4, 2) := by decide +kernel
theorem dX8_secondOf_30 : decode cX8_secondOf 30 = .ok (.invokevirtual 161, 3) := by decide +kernel
theorem dX8_secondOf_33 : decode cX8_secondOf 33 = .ok (.ifCond .eq 6, 3) := by decide +kernel
theorem dX8_secondOf_36 : decode cX8_secondOf 36 = .ok (.iload 5, 2) := by decide +kernel
theorem dX8_secondOf_38 : decode cX8_secondOf 38 = .ok (.ireturn, 1) := by decide +kernel
theorem dX8_secondOf_39 : decode cX8_secondOf 39 = .ok (.aload_n 0, 1) := by decide +kernel
theorem dX8_secondOf_40 : decode cX8_secondOf 40 = .ok (.iload 6, 2) := by decide +kernel
theorem dX8_secondOf_42 : decode cX8_secondOf 42 = .ok (.iload_n 1, 1) := by decide +kernel
theorem dX8_secondOf_43 : decode cX8_secondOf 43 = .ok (.iload_n 2, 1) := by decide +kernel
theorem dX8_secondOf_44 : decode cX8_secondOf 44 = .ok (.iload_n 3, 1) := by decide +kernel
theorem dX8_secondOf_45 : decode cX8_secondOf 45 = .ok (.iload 4, 2) := by decide +kernel
theorem dX8_secondOf_47 : decode cX8_secondOf 47 = .ok (.invokevirtual 161, 3) := by decide +kernel
theorem dX8_secondOf_50 : decode cX8_secondOf 50 = .ok (.ifCond .eq 6, 3) := by decide +kernel
theorem dX8_secondOf_53 : decode cX8_secondOf 53 = .ok (.iload 6, 2) := by decide +kernel
theorem dX8_secondOf_55 : decode cX8_secondOf 55 = .ok (.ireturn, 1) := by decide +kernel
theorem dX8_secondOf_56 : decode cX8_secondOf 56 = .ok (.iconst 0, 1) := by decide +kernel
theorem dX8_secondOf_57 : decode cX8_secondOf 57 = .ok (.istore 7, 2) := by decide +kernel
theorem dX8_secondOf_59 : decode cX8_secondOf 59 = .ok (.iload 7, 2) := by decide +kernel
theorem dX8_secondOf_61 : decode cX8_secondOf 61 = .ok (.iconst 4, 1) := by decide +kernel
theorem dX8_secondOf_62 : decode cX8_secondOf 62 = .ok (.if_icmp .ge 53, 3) := by decide +kernel
theorem dX8_secondOf_65 : decode cX8_secondOf 65 = .ok (.aload_n 0, 1) := by decide +kernel
theorem dX8_secondOf_66 : decode cX8_secondOf 66 = .ok (.getfield 25, 3) := by decide +kernel
theorem dX8_secondOf_69 : decode cX8_secondOf 69 = .ok (.iconst 2, 1) := by decide +kernel
theorem dX8_secondOf_70 : decode cX8_secondOf 70 = .ok (.iload 7, 2) := by decide +kernel
theorem dX8_secondOf_72 : decode cX8_secondOf 72 = .ok (.iconst 2, 1) := by decide +kernel
theorem dX8_secondOf_73 : decode cX8_secondOf 73 = .ok (.if_icmp .ge 8, 3) := by decide +kernel
theorem dX8_secondOf_76 : decode cX8_secondOf 76 = .ok (.iload 5, 2) := by decide +kernel
theorem dX8_secondOf_78 : decode cX8_secondOf 78 = .ok (.goto 5, 3) := by decide +kernel
theorem dX8_secondOf_81 : decode cX8_secondOf 81 = .ok (.iload 6, 2) := by decide +kernel
theorem dX8_secondOf_83 : decode cX8_secondOf 83 = .ok (.imul, 1) := by decide +kernel
theorem dX8_secondOf_84 : decode cX8_secondOf 84 = .ok (.iload 7, 2) := by decide +kernel
theorem dX8_secondOf_86 : decode cX8_secondOf 86 = .ok (.iconst 2, 1) := by decide +kernel
theorem dX8_secondOf_87 : decode cX8_secondOf 87 = .ok (.irem, 1) := by decide +kernel
theorem dX8_secondOf_88 : decode cX8_secondOf 88 = .ok (.iadd, 1) := by decide +kernel
theorem dX8_secondOf_89 : decode cX8_secondOf 89 = .ok (.iaload, 1) := by decide +kernel
theorem dX8_secondOf_90 : decode cX8_secondOf 90 = .ok (.istore 8, 2) := by decide +kernel
theorem dX8_secondOf_92 : decode cX8_secondOf 92 = .ok (.aload_n 0, 1) := by decide +kernel
theorem dX8_secondOf_93 : decode cX8_secondOf 93 = .ok (.iload 8, 2) := by decide +kernel
theorem dX8_secondOf_95 : decode cX8_secondOf 95 = .ok (.iload_n 1, 1) := by decide +kernel
theorem dX8_secondOf_96 : decode cX8_secondOf 96 = .ok (.iload_n 2, 1) := by decide +kernel
theorem dX8_secondOf_97 : decode cX8_secondOf 97 = .ok (.iload_n 3, 1) := by decide +kernel
theorem dX8_secondOf_98 : decode cX8_secondOf 98 = .ok (.iload 4, 2) := by decide +kernel
theorem dX8_secondOf_100 : decode cX8_secondOf 100 = .ok (.invokevirtual 161, 3) := by decide +kernel
theorem dX8_secondOf_103 : decode cX8_secondOf 103 = .ok (.ifCond .eq 6, 3) := by decide +kernel
theorem dX8_secondOf_106 : decode cX8_secondOf 106 = .ok (.iload 8, 2) := by decide +kernel
theorem dX8_secondOf_108 : decode cX8_secondOf 108 = .ok (.ireturn, 1) := by decide +kernel
theorem dX8_secondOf_109 : decode cX8_secondOf 109 = .ok (.iinc 7 1, 3) := by decide +kernel
theorem dX8_secondOf_112 : decode cX8_secondOf 112 = .ok (.goto (-53), 3) := by decide +kernel
theorem dX8_secondOf_115 : decode cX8_secondOf 115 = .ok (.bipush (-9), 2) := by decide +kernel
theorem dX8_secondOf_117 : decode cX8_secondOf 117 = .ok (.ireturn, 1) := by decide +kernel
theorem dX8_meet_0 : decode cX8_meet 0 = .ok (.aload_n 0, 1) := by decide +kernel
theorem dX8_meet_1 : decode cX8_meet 1 = .ok (.dup, 1) := by decide +kernel
theorem dX8_meet_2 : decode cX8_meet 2 = .ok (.getfield 155, 3) := by decide +kernel
theorem dX8_meet_5 : decode cX8_meet 5 = .ok (.iconst 1, 1) := by decide +kernel
theorem dX8_meet_6 : decode cX8_meet 6 = .ok (.iload_n 1, 1) := by decide +kernel
theorem dX8_meet_7 : decode cX8_meet 7 = .ok (.ishl, 1) := by decide +kernel
theorem dX8_meet_8 : decode cX8_meet 8 = .ok (.iconst 1, 1) := by decide +kernel
theorem dX8_meet_9 : decode cX8_meet 9 = .ok (.iload_n 2, 1) := by decide +kernel
theorem dX8_meet_10 : decode cX8_meet 10 = .ok (.ishl, 1) := by decide +kernel
theorem dX8_meet_11 : decode cX8_meet 11 = .ok (.ior, 1) := by decide +kernel
theorem dX8_meet_12 : decode cX8_meet 12 = .ok (.ior, 1) := by decide +kernel
theorem dX8_meet_13 : decode cX8_meet 13 = .ok (.putfield 155, 3) := by decide +kernel
theorem dX8_meet_16 : decode cX8_meet 16 = .ok (.aload_n 0, 1) := by decide +kernel
theorem dX8_meet_17 : decode cX8_meet 17 = .ok (.getfield 68, 3) := by decide +kernel
theorem dX8_meet_20 : decode cX8_meet 20 = .ok (.aload_n 0, 1) := by decide +kernel
theorem dX8_meet_21 : decode cX8_meet 21 = .ok (.getfield 165, 3) := by decide +kernel
theorem dX8_meet_24 : decode cX8_meet 24 = .ok (.iload 5, 2) := by decide +kernel
theorem dX8_meet_26 : decode cX8_meet 26 = .ok (.iastore, 1) := by decide +kernel
theorem dX8_meet_27 : decode cX8_meet 27 = .ok (.aload_n 0, 1) := by decide +kernel
theorem dX8_meet_28 : decode cX8_meet 28 = .ok (.getfield 71, 3) := by decide +kernel
theorem dX8_meet_31 : decode cX8_meet 31 = .ok (.aload_n 0, 1) := by decide +kernel
theorem dX8_meet_32 : decode cX8_meet 32 = .ok (.getfield 165, 3) := by decide +kernel
theorem dX8_meet_35 : decode cX8_meet 35 = .ok (.iload_n 1, 1) := by decide +kernel
theorem dX8_meet_36 : decode cX8_meet 36 = .ok (.iastore, 1) := by decide +kernel
theorem dX8_meet_37 : decode cX8_meet 37 = .ok (.aload_n 0, 1) := by decide +kernel
theorem dX8_meet_38 : decode cX8_meet 38 = .ok (.getfield 74, 3) := by decide +kernel
theorem dX8_meet_41 : decode cX8_meet 41 = .ok (.aload_n 0, 1) := by decide +kernel
theorem dX8_meet_42 : decode cX8_meet 42 = .ok (.getfield 165, 3) := by decide +kernel
theorem dX8_meet_45 : decode cX8_meet 45 = .ok (.iload_n 2, 1) := by decide +kernel
theorem dX8_meet_46 : decode cX8_meet 46 = .ok (.iastore, 1) := by decide +kernel
theorem dX8_meet_47 : decode cX8_meet 47 = .ok (.aload_n 0, 1) := by decide +kernel
theorem dX8_meet_48 : decode cX8_meet 48 = .ok (.getfield 77, 3) := by decide +kernel
theorem dX8_meet_51 : decode cX8_meet 51 = .ok (.aload_n 0, 1) := by decide +kernel
theorem dX8_meet_52 : decode cX8_meet 52 = .ok (.getfield 165, 3) := by decide +kernel
theorem dX8_meet_55 : decode cX8_meet 55 = .ok (.iload_n 3, 1) := by decide +kernel
theorem dX8_meet_56 : decode cX8_meet 56 = .ok (.iastore, 1) := by decide +kernel
theorem dX8_meet_57 : decode cX8_meet 57 = .ok (.aload_n 0, 1) := by decide +kernel
theorem dX8_meet_58 : decode cX8_meet 58 = .ok (.getfield 80, 3) := by decide +kernel
theorem dX8_meet_61 : decode cX8_meet 61 = .ok (.aload_n 0, 1) := by decide +kernel
theorem dX8_meet_62 : decode cX8_meet 62 = .ok (.getfield 165, 3) := by decide +kernel
theorem dX8_meet_65 : decode cX8_meet 65 = .ok (.iload 4, 2) := by decide +kernel
theorem dX8_meet_67 : decode cX8_meet 67 = .ok (.iastore, 1) := by decide +kernel
theorem dX8_meet_68 : decode cX8_meet 68 = .ok (.aload_n 0, 1) := by decide +kernel
theorem dX8_meet_69 : decode cX8_meet 69 = .ok (.getfield 83, 3) := by decide +kernel
theorem dX8_meet_72 : decode cX8_meet 72 = .ok (.aload_n 0, 1) := by decide +kernel
theorem dX8_meet_73 : decode cX8_meet 73 = .ok (.getfield 165, 3) := by decide +kernel
theorem dX8_meet_76 : decode cX8_meet 76 = .ok (.bipush (-9), 2) := by decide +kernel
theorem dX8_meet_78 : decode cX8_meet 78 = .ok (.iastore, 1) := by decide +kernel
theorem dX8_meet_79 : decode cX8_meet 79 = .ok (.aload_n 0, 1) := by decide +kernel
theorem dX8_meet_80 : decode cX8_meet 80 = .ok (.getfield 22, 3) := by decide +kernel
theorem dX8_meet_83 : decode cX8_meet 83 = .ok (.iload_n 1, 1) := by decide +kernel
theorem dX8_meet_84 : decode cX8_meet 84 = .ok (.iaload, 1) := by decide +kernel
theorem dX8_meet_85 : decode cX8_meet 85 = .ok (.aload_n 0, 1) := by decide +kernel
theorem dX8_meet_86 : decode cX8_meet 86 = .ok (.getfield 22, 3) := by decide +kernel
theorem dX8_meet_89 : decode cX8_meet 89 = .ok (.iload_n 2, 1) := by decide +kernel
theorem dX8_meet_90 : decode cX8_meet 90 = .ok (.iaload, 1) := by decide +kernel
theorem dX8_meet_91 : decode cX8_meet 91 = .ok (.if_icmp .eq 55, 3) := by decide +kernel
theorem dX8_meet_94 : decode cX8_meet 94 = .ok (.aload_n 0, 1) := by decide +kernel
theorem dX8_meet_95 : decode cX8_meet 95 = .ok (.getfield 22, 3) := by decide +kernel
theorem dX8_meet_98 : decode cX8_meet 98 = .ok (.iload_n 1, 1) := by decide +kernel
theorem dX8_meet_99 : decode cX8_meet 99 = .ok (.iaload, 1) := by decide +kernel
theorem dX8_meet_100 : decode cX8_meet 100 = .ok (.aload_n 0, 1) := by decide +kernel
theorem dX8_meet_101 : decode cX8_meet 101 = .ok (.getfield 22, 3) := by decide +kernel
theorem dX8_meet_104 : decode cX8_meet 104 = .ok (.iload_n 2, 1) := by decide +kernel
theorem dX8_meet_105 : decode cX8_meet 105 = .ok (.iaload, 1) := by decide +kernel
theorem dX8_meet_106 : decode cX8_meet 106 = .ok (.if_icmp .ge 7, 3) := by decide +kernel
theorem dX8_meet_109 : decode cX8_meet 109 = .ok (.iload_n 1, 1) := by decide +kernel
theorem dX8_meet_110 : decode cX8_meet 110 = .ok (.goto 4, 3) := by decide +kernel
theorem dX8_meet_113 : decode cX8_meet 113 = .ok (.iload_n 2, 1) := by decide +kernel
theorem dX8_meet_114 : decode cX8_meet 114 = .ok (.istore 6, 2) := by decide +kernel
theorem dX8_meet_116 : decode cX8_meet 116 = .ok (.aload_n 0, 1) := by decide +kernel
theorem dX8_meet_117 : decode cX8_meet 117 = .ok (.iload 6, 2) := by decide +kernel
theorem dX8_meet_119 : decode cX8_meet 119 = .ok (.iload 6, 2) := by decide +kernel
theorem dX8_meet_121 : decode cX8_meet 121 = .ok (.iload_n 1, 1) := by decide +kernel
theorem dX8_meet_122 : decode cX8_meet 122 = .ok (.if_icmp .ne 7, 3) := by decide +kernel
theorem dX8_meet_125 : decode cX8_meet 125 = .ok (.iload_n 2, 1) := by decide +kernel
theorem dX8_meet_126 : decode cX8_meet 126 = .ok (.goto 4, 3) := by decide +kernel
theorem dX8_meet_129 : decode cX8_meet 129 = .ok (.iload_n 1, 1) := by decide +kernel
theorem dX8_meet_130 : decode cX8_meet 130 = .ok (.iload 5, 2) := by decide +kernel
theorem dX8_meet_132 : decode cX8_meet 132 = .ok (.invokevirtual 168, 3) := by decide +kernel
theorem dX8_meet_135 : decode cX8_meet 135 = .ok (.aload_n 0, 1) := by decide +kernel
theorem dX8_meet_136 : decode cX8_meet 136 = .ok (.getfield 83, 3) := by decide +kernel
theorem dX8_meet_139 : decode cX8_meet 139 = .ok (.aload_n 0, 1) := by decide +kernel
theorem dX8_meet_140 : decode cX8_meet 140 = .ok (.getfield 165, 3) := by decide +kernel
theorem dX8_meet_143 : decode cX8_meet 143 = .ok (.iload 6, 2) := by decide +kernel
theorem dX8_meet_145 : decode cX8_meet 145 = .ok (.iastore, 1) := by decide +kernel
theorem dX8_meet_146 : decode cX8_meet 146 = .ok (.aload_n 0, 1) := by decide +kernel
theorem dX8_meet_147 : decode cX8_meet 147 = .ok (.dup, 1) := by decide +kernel
theorem dX8_meet_148 : decode cX8_meet 148 = .ok (.getfield 165, 3) := by decide +kernel
theorem dX8_meet_151 : decode cX8_meet 151 = .ok (.iconst 1, 1) := by decide +kernel
theorem dX8_meet_152 : decode cX8_meet 152 = .ok (.iadd, 1) := by decide +kernel
theorem dX8_meet_153 : decode cX8_meet 153 = .ok (.putfield 165, 3) := by decide +kernel
theorem dX8_meet_156 : decode cX8_meet 156 = .ok (.return_, 1) := by decide +kernel
theorem dX8_hurt_0 : decode cX8_hurt 0 = .ok (.aload_n 0, 1) := by decide +kernel
theorem dX8_hurt_1 : decode cX8_hurt 1 = .ok (.getfield 22, 3) := by decide +kernel
theorem dX8_hurt_4 : decode cX8_hurt 4 = .ok (.iload_n 2, 1) := by decide +kernel
theorem dX8_hurt_5 : decode cX8_hurt 5 = .ok (.iaload, 1) := by decide +kernel
theorem dX8_hurt_6 : decode cX8_hurt 6 = .ok (.aload_n 0, 1) := by decide +kernel
theorem dX8_hurt_7 : decode cX8_hurt 7 = .ok (.getfield 22, 3) := by decide +kernel
theorem dX8_hurt_10 : decode cX8_hurt 10 = .ok (.iload_n 1, 1) := by decide +kernel
theorem dX8_hurt_11 : decode cX8_hurt 11 = .ok (.iaload, 1) := by decide +kernel
theorem dX8_hurt_12 : decode cX8_hurt 12 = .ok (.isub, 1) := by decide +kernel
theorem dX8_hurt_13 : decode cX8_hurt 13 = .ok (.istore 4, 2) := by decide +kernel
theorem dX8_hurt_15 : decode cX8_hurt 15 = .ok (.aload_n 0, 1) := by decide +kernel
theorem dX8_hurt_16 : decode cX8_hurt 16 = .ok (.getfield 53, 3) := by decide +kernel
theorem dX8_hurt_19 : decode cX8_hurt 19 = .ok (.iload_n 1, 1) := by decide +kernel
theorem dX8_hurt_20 : decode cX8_hurt 20 = .ok (.iload_n 3, 1) := by decide +kernel
theorem dX8_hurt_21 : decode cX8_hurt 21 = .ok (.iload 4, 2) := by decide +kernel
theorem dX8_hurt_23 : decode cX8_hurt 23 = .ok (.iadd, 1) := by decide +kernel
theorem dX8_hurt_24 : decode cX8_hurt 24 = .ok (.iconst 2, 1) := by decide +kernel
theorem dX8_hurt_25 : decode cX8_hurt 25 = .ok (.iadd, 1) := by decide +kernel
theorem dX8_hurt_26 : decode cX8_hurt 26 = .ok (.iastore, 1) := by decide +kernel
theorem dX8_hurt_27 : decode cX8_hurt 27 = .ok (.aload_n 0, 1) := by decide +kernel
theorem dX8_hurt_28 : decode cX8_hurt 28 = .ok (.getfield 25, 3) := by decide +kernel
theorem dX8_hurt_31 : decode cX8_hurt 31 = .ok (.iconst 2, 1) := by decide +kernel
theorem dX8_hurt_32 : decode cX8_hurt 32 = .ok (.iload_n 1, 1) := by decide +kernel
theorem dX8_hurt_33 : decode cX8_hurt 33 = .ok (.imul, 1) := by decide +kernel
theorem dX8_hurt_34 : decode cX8_hurt 34 = .ok (.iaload, 1) := by decide +kernel
theorem dX8_hurt_35 : decode cX8_hurt 35 = .ok (.iload_n 2, 1) := by decide +kernel
theorem dX8_hurt_36 : decode cX8_hurt 36 = .ok (.if_icmp .eq 61, 3) := by decide +kernel
theorem dX8_hurt_39 : decode cX8_hurt 39 = .ok (.aload_n 0, 1) := by decide +kernel
theorem dX8_hurt_40 : decode cX8_hurt 40 = .ok (.getfield 56, 3) := by decide +kernel
theorem dX8_hurt_43 : decode cX8_hurt 43 = .ok (.aload_n 0, 1) := by decide +kernel
theorem dX8_hurt_44 : decode cX8_hurt 44 = .ok (.getfield 172, 3) := by decide +kernel
theorem dX8_hurt_47 : decode cX8_hurt 47 = .ok (.iload_n 2, 1) := by decide +kernel
theorem dX8_hurt_48 : decode cX8_hurt 48 = .ok (.iastore, 1) := by decide +kernel
theorem dX8_hurt_49 : decode cX8_hurt 49 = .ok (.aload_n 0, 1) := by decide +kernel
theorem dX8_hurt_50 : decode cX8_hurt 50 = .ok (.getfield 59, 3) := by decide +kernel
theorem dX8_hurt_53 : decode cX8_hurt 53 = .ok (.aload_n 0, 1) := by decide +kernel
theorem dX8_hurt_54 : decode cX8_hurt 54 = .ok (.getfield 172, 3) := by decide +kernel
theorem dX8_hurt_57 : decode cX8_hurt 57 = .ok (.aload_n 0, 1) := by decide +kernel
theorem dX8_hurt_58 : decode cX8_hurt 58 = .ok (.getfield 25, 3) := by decide +kernel
theorem dX8_hurt_61 : decode cX8_hurt 61 = .ok (.iconst 2, 1) := by decide +kernel
theorem dX8_hurt_62 : decode cX8_hurt 62 = .ok (.iload_n 1, 1) := by decide +kernel
theorem dX8_hurt_63 : decode cX8_hurt 63 = .ok (.imul, 1) := by decide +kernel
theorem dX8_hurt_64 : decode cX8_hurt 64 = .ok (.iaload, 1) := by decide +kernel
theorem dX8_hurt_65 : decode cX8_hurt 65 = .ok (.iastore, 1) := by decide +kernel
theorem dX8_hurt_66 : decode cX8_hurt 66 = .ok (.aload_n 0, 1) := by decide +kernel
theorem dX8_hurt_67 : decode cX8_hurt 67 = .ok (.getfield 62, 3) := by decide +kernel
theorem dX8_hurt_70 : decode cX8_hurt 70 = .ok (.aload_n 0, 1) := by decide +kernel
theorem dX8_hurt_71 : decode cX8_hurt 71 = .ok (.getfield 172, 3) := by decide +kernel
theorem dX8_hurt_74 : decode cX8_hurt 74 = .ok (.iload 4, 2) := by decide +kernel
theorem dX8_hurt_76 : decode cX8_hurt 76 = .ok (.iastore, 1) := by decide +kernel
theorem dX8_hurt_77 : decode cX8_hurt 77 = .ok (.aload_n 0, 1) := by decide +kernel
theorem dX8_hurt_78 : decode cX8_hurt 78 = .ok (.getfield 65, 3) := by decide +kernel
theorem dX8_hurt_81 : decode cX8_hurt 81 = .ok (.aload_n 0, 1) := by decide +kernel
theorem dX8_hurt_82 : decode cX8_hurt 82 = .ok (.getfield 172, 3) := by decide +kernel
theorem dX8_hurt_85 : decode cX8_hurt 85 = .ok (.iload_n 3, 1) := by decide +kernel
theorem dX8_hurt_86 : decode cX8_hurt 86 = .ok (.iastore, 1) := by decide +kernel
theorem dX8_hurt_87 : decode cX8_hurt 87 = .ok (.aload_n 0, 1) := by decide +kernel
theorem dX8_hurt_88 : decode cX8_hurt 88 = .ok (.dup, 1) := by decide +kernel
theorem dX8_hurt_89 : decode cX8_hurt 89 = .ok (.getfield 172, 3) := by decide +kernel
theorem dX8_hurt_92 : decode cX8_hurt 92 = .ok (.iconst 1, 1) := by decide +kernel
theorem dX8_hurt_93 : decode cX8_hurt 93 = .ok (.iadd, 1) := by decide +kernel
theorem dX8_hurt_94 : decode cX8_hurt 94 = .ok (.putfield 172, 3) := by decide +kernel
theorem dX8_hurt_97 : decode cX8_hurt 97 = .ok (.return_, 1) := by decide +kernel
theorem dX8_answer_0 : decode cX8_answer 0 = .ok (.iload_n 3, 1) := by decide +kernel
theorem dX8_answer_1 : decode cX8_answer 1 = .ok (.aload_n 0, 1) := by decide +kernel
theorem dX8_answer_2 : decode cX8_answer 2 = .ok (.iload_n 2, 1) := by decide +kernel
theorem dX8_answer_3 : decode cX8_answer 3 = .ok (.invokevirtual 148, 3) := by decide +kernel
theorem dX8_answer_6 : decode cX8_answer 6 = .ok (.if_icmp .ge 4, 3) := by decide +kernel
theorem dX8_answer_9 : decode cX8_answer 9 = .ok (.return_, 1) := by decide +kernel
theorem dX8_answer_10 : decode cX8_answer 10 = .ok (.aload_n 0, 1) := by decide +kernel
theorem dX8_answer_11 : decode cX8_answer 11 = .ok (.iload_n 2, 1) := by decide +kernel
theorem dX8_answer_12 : decode cX8_answer 12 = .ok (.iload_n 1, 1) := by decide +kernel
theorem dX8_answer_13 : decode cX8_answer 13 = .ok (.bipush (-9), 2) := by decide +kernel
theorem dX8_answer_15 : decode cX8_answer 15 = .ok (.iload 4, 2) := by decide +kernel
theorem dX8_answer_17 : decode cX8_answer 17 = .ok (.invokevirtual 175, 3) := by decide +kernel
theorem dX8_answer_20 : decode cX8_answer 20 = .ok (.istore 5, 2) := by decide +kernel
theorem dX8_answer_22 : decode cX8_answer 22 = .ok (.iload 5, 2) := by decide +kernel
theorem dX8_answer_24 : decode cX8_answer 24 = .ok (.bipush (-9), 2) := by decide +kernel
theorem dX8_answer_26 : decode cX8_answer 26 = .ok (.if_icmp .ne 4, 3) := by decide +kernel
theorem dX8_answer_29 : decode cX8_answer 29 = .ok (.return_, 1) := by decide +kernel
theorem dX8_answer_30 : decode cX8_answer 30 = .ok (.aload_n 0, 1) := by decide +kernel
theorem dX8_answer_31 : decode cX8_answer 31 = .ok (.iload_n 1, 1) := by decide +kernel
theorem dX8_answer_32 : decode cX8_answer 32 = .ok (.iload_n 2, 1) := by decide +kernel
theorem dX8_answer_33 : decode cX8_answer 33 = .ok (.iload 5, 2) := by decide +kernel
theorem dX8_answer_35 : decode cX8_answer 35 = .ok (.iload 4, 2) := by decide +kernel
theorem dX8_answer_37 : decode cX8_answer 37 = .ok (.invokevirtual 175, 3) := by decide +kernel
theorem dX8_answer_40 : decode cX8_answer 40 = .ok (.istore 6, 2) := by decide +kernel
theorem dX8_answer_42 : decode cX8_answer 42 = .ok (.iload 6, 2) := by decide +kernel
theorem dX8_answer_44 : decode cX8_answer 44 = .ok (.bipush (-9), 2) := by decide +kernel
theorem dX8_answer_46 : decode cX8_answer 46 = .ok (.if_icmp .eq 15, 3) := by decide +kernel
theorem dX8_answer_49 : decode cX8_answer 49 = .ok (.aload_n 0, 1) := by decide +kernel
theorem dX8_answer_50 : decode cX8_answer 50 = .ok (.iload 5, 2) := by decide +kernel
theorem dX8_answer_52 : decode cX8_answer 52 = .ok (.iload 6, 2) := by decide +kernel
theorem dX8_answer_54 : decode cX8_answer 54 = .ok (.iload_n 2, 1) := by decide +kernel
theorem dX8_answer_55 : decode cX8_answer 55 = .ok (.iload_n 1, 1) := by decide +kernel
theorem dX8_answer_56 : decode cX8_answer 56 = .ok (.iload 4, 2) := by decide +kernel
theorem dX8_answer_58 : decode cX8_answer 58 = .ok (.invokevirtual 178, 3) := by decide +kernel
theorem dX8_answer_61 : decode cX8_answer 61 = .ok (.return_, 1) := by decide +kernel
theorem dX8_begin_0 : decode cX8_begin 0 = .ok (.aload_n 0, 1) := by decide +kernel
theorem dX8_begin_1 : decode cX8_begin 1 = .ok (.iconst 0, 1) := by decide +kernel
theorem dX8_begin_2 : decode cX8_begin 2 = .ok (.putfield 165, 3) := by decide +kernel
theorem dX8_begin_5 : decode cX8_begin 5 = .ok (.aload_n 0, 1) := by decide +kernel
theorem dX8_begin_6 : decode cX8_begin 6 = .ok (.iconst 0, 1) := by decide +kernel
theorem dX8_begin_7 : decode cX8_begin 7 = .ok (.putfield 172, 3) := by decide +kernel
theorem dX8_begin_10 : decode cX8_begin 10 = .ok (.iconst 0, 1) := by decide +kernel
theorem dX8_begin_11 : decode cX8_begin 11 = .ok (.istore_n 1, 1) := by decide +kernel
theorem dX8_begin_12 : decode cX8_begin 12 = .ok (.iload_n 1, 1) := by decide +kernel
theorem dX8_begin_13 : decode cX8_begin 13 = .ok (.aload_n 0, 1) := by decide +kernel
theorem dX8_begin_14 : decode cX8_begin 14 = .ok (.getfield 105, 3) := by decide +kernel
theorem dX8_begin_17 : decode cX8_begin 17 = .ok (.if_icmp .ge 16, 3) := by decide +kernel
theorem dX8_begin_20 : decode cX8_begin 20 = .ok (.aload_n 0, 1) := by decide +kernel
theorem dX8_begin_21 : decode cX8_begin 21 = .ok (.getfield 53, 3) := by decide +kernel
theorem dX8_begin_24 : decode cX8_begin 24 = .ok (.iload_n 1, 1) := by decide +kernel
theorem dX8_begin_25 : decode cX8_begin 25 = .ok (.iconst 0, 1) := by decide +kernel
theorem dX8_begin_26 : decode cX8_begin 26 = .ok (.iastore, 1) := by decide +kernel
theorem dX8_begin_27 : decode cX8_begin 27 = .ok (.iinc 1 1, 3) := by decide +kernel
theorem dX8_begin_30 : decode cX8_begin 30 = .ok (.goto (-18), 3) := by decide +kernel
theorem dX8_begin_33 : decode cX8_begin 33 = .ok (.aload_n 0, 1) := by decide +kernel
theorem dX8_begin_34 : decode cX8_begin 34 = .ok (.iconst 0, 1) := by decide +kernel
theorem dX8_begin_35 : decode cX8_begin 35 = .ok (.putfield 155, 3) := by decide +kernel
theorem dX8_begin_38 : decode cX8_begin 38 = .ok (.return_, 1) := by decide +kernel
theorem dX8_goDawn_0 : decode cX8_goDawn 0 = .ok (.aload_n 0, 1) := by decide +kernel
theorem dX8_goDawn_1 : decode cX8_goDawn 1 = .ok (.iconst 0, 1) := by decide +kernel
theorem dX8_goDawn_2 : decode cX8_goDawn 2 = .ok (.putfield 155, 3) := by decide +kernel
theorem dX8_goDawn_5 : decode cX8_goDawn 5 = .ok (.aload_n 0, 1) := by decide +kernel
theorem dX8_goDawn_6 : decode cX8_goDawn 6 = .ok (.getfield 172, 3) := by decide +kernel
theorem dX8_goDawn_9 : decode cX8_goDawn 9 = .ok (.istore_n 2, 1) := by decide +kernel
theorem dX8_goDawn_10 : decode cX8_goDawn 10 = .ok (.iconst 0, 1) := by decide +kernel
theorem dX8_goDawn_11 : decode cX8_goDawn 11 = .ok (.istore_n 3, 1) := by decide +kernel
theorem dX8_goDawn_12 : decode cX8_goDawn 12 = .ok (.iload_n 3, 1) := by decide +kernel
theorem dX8_goDawn_13 : decode cX8_goDawn 13 = .ok (.aload_n 0, 1) := by decide +kernel
theorem dX8_goDawn_14 : decode cX8_goDawn 14 = .ok (.getfield 132, 3) := by decide +kernel
theorem dX8_goDawn_17 : decode cX8_goDawn 17 = .ok (.if_icmp .ge 55, 3) := by decide +kernel
theorem dX8_goDawn_20 : decode cX8_goDawn 20 = .ok (.aload_n 0, 1) := by decide +kernel
theorem dX8_goDawn_21 : decode cX8_goDawn 21 = .ok (.getfield 47, 3) := by decide +kernel
theorem dX8_goDawn_24 : decode cX8_goDawn 24 = .ok (.iload_n 3, 1) := by decide +kernel
theorem dX8_goDawn_25 : decode cX8_goDawn 25 = .ok (.iaload, 1) := by decide +kernel
theorem dX8_goDawn_26 : decode cX8_goDawn 26 = .ok (.iload_n 1, 1) := by decide +kernel
theorem dX8_goDawn_27 : decode cX8_goDawn 27 = .ok (.iconst 1, 1) := by decide +kernel
theorem dX8_goDawn_28 : decode cX8_goDawn 28 = .ok (.isub, 1) := by decide +kernel
theorem dX8_goDawn_29 : decode cX8_goDawn 29 = .ok (.if_icmp .ne 37, 3) := by decide +kernel
theorem dX8_goDawn_32 : decode cX8_goDawn 32 = .ok (.aload_n 0, 1) := by decide +kernel
theorem dX8_goDawn_33 : decode cX8_goDawn 33 = .ok (.getfield 181, 3) := by decide +kernel
theorem dX8_goDawn_36 : decode cX8_goDawn 36 = .ok (.iload_n 3, 1) := by decide +kernel
theorem dX8_goDawn_37 : decode cX8_goDawn 37 = .ok (.ishr, 1) := by decide +kernel
theorem dX8_goDawn_38 : decode cX8_goDawn 38 = .ok (.iconst 1, 1) := by decide +kernel
theorem dX8_goDawn_39 : decode cX8_goDawn 39 = .ok (.iand, 1) := by decide +kernel
theorem dX8_goDawn_40 : decode cX8_goDawn 40 = .ok (.ifCond .ne 26, 3) := by decide +kernel
theorem dX8_goDawn_43 : decode cX8_goDawn 43 = .ok (.aload_n 0, 1) := by decide +kernel
theorem dX8_goDawn_44 : decode cX8_goDawn 44 = .ok (.aload_n 0, 1) := by decide +kernel
theorem dX8_goDawn_45 : decode cX8_goDawn 45 = .ok (.getfield 41, 3) := by decide +kernel
theorem dX8_goDawn_48 : decode cX8_goDawn 48 = .ok (.iload_n 3, 1) := by decide +kernel
theorem dX8_goDawn_49 : decode cX8_goDawn 49 = .ok (.iaload, 1) := by decide +kernel
theorem dX8_goDawn_50 : decode cX8_goDawn 50 = .ok (.aload_n 0, 1) := by decide +kernel
theorem dX8_goDawn_51 : decode cX8_goDawn 51 = .ok (.getfield 44, 3) := by decide +kernel
theorem dX8_goDawn_54 : decode cX8_goDawn 54 = .ok (.iload_n 3, 1) := by decide +kernel
theorem dX8_goDawn_55 : decode cX8_goDawn 55 = .ok (.iaload, 1) := by decide +kernel
theorem dX8_goDawn_56 : decode cX8_goDawn 56 = .ok (.aload_n 0, 1) := by decide +kernel
theorem dX8_goDawn_57 : decode cX8_goDawn 57 = .ok (.getfield 50, 3) := by decide +kernel
theorem dX8_goDawn_60 : decode cX8_goDawn 60 = .ok (.iload_n 3, 1) := by decide +kernel
theorem dX8_goDawn_61 : decode cX8_goDawn 61 = .ok (.iaload, 1) := by decide +kernel
theorem dX8_goDawn_62 : decode cX8_goDawn 62 = .ok (.iload_n 1, 1) := by decide +kernel
theorem dX8_goDawn_63 : decode cX8_goDawn 63 = .ok (.invokevirtual 184, 3) := by decide +kernel
theorem dX8_goDawn_66 : decode cX8_goDawn 66 = .ok (.iinc 3 1, 3) := by decide +kernel
theorem dX8_goDawn_69 : decode cX8_goDawn 69 = .ok (.goto (-57), 3) := by decide +kernel
theorem dX8_goDawn_72 : decode cX8_goDawn 72 = .ok (.iconst 0, 1) := by decide +kernel
theorem dX8_goDawn_73 : decode cX8_goDawn 73 = .ok (.istore_n 3, 1) := by decide +kernel
theorem dX8_goDawn_74 : decode cX8_goDawn 74 = .ok (.iload_n 3, 1) := by decide +kernel
theorem dX8_goDawn_75 : decode cX8_goDawn 75 = .ok (.iload_n 2, 1) := by decide +kernel
theorem dX8_goDawn_76 : decode cX8_goDawn 76 = .ok (.if_icmp .ge 44, 3) := by decide +kernel
theorem dX8_goDawn_79 : decode cX8_goDawn 79 = .ok (.aload_n 0, 1) := by decide +kernel
theorem dX8_goDawn_80 : decode cX8_goDawn 80 = .ok (.getfield 65, 3) := by decide +kernel
theorem dX8_goDawn_83 : decode cX8_goDawn 83 = .ok (.iload_n 3, 1) := by decide +kernel
theorem dX8_goDawn_84 : decode cX8_goDawn 84 = .ok (.iaload, 1) := by decide +kernel
theorem dX8_goDawn_85 : decode cX8_goDawn 85 = .ok (.iload_n 1, 1) := by decide +kernel
theorem dX8_goDawn_86 : decode cX8_goDawn 86 = .ok (.iconst 1, 1) := by decide +kernel
theorem dX8_goDawn_87 : decode cX8_goDawn 87 = .ok (.isub, 1) := by decide +kernel
theorem dX8_goDawn_88 : decode cX8_goDawn 88 = .ok (.if_icmp .ne 26, 3) := by decide +kernel
theorem dX8_goDawn_91 : decode cX8_goDawn 91 = .ok (.aload_n 0, 1) := by decide +kernel
theorem dX8_goDawn_92 : decode cX8_goDawn 92 = .ok (.aload_n 0, 1) := by decide +kernel
theorem dX8_goDawn_93 : decode cX8_goDawn 93 = .ok (.getfield 56, 3) := by decide +kernel
theorem dX8_goDawn_96 : decode cX8_goDawn 96 = .ok (.iload_n 3, 1) := by decide +kernel
theorem dX8_goDawn_97 : decode cX8_goDawn 97 = .ok (.iaload, 1) := by decide +kernel
theorem dX8_goDawn_98 : decode cX8_goDawn 98 = .ok (.aload_n 0, 1) := by decide +kernel
theorem dX8_goDawn_99 : decode cX8_goDawn 99 = .ok (.getfield 59, 3) := by decide +kernel
theorem dX8_goDawn_102 : decode cX8_goDawn 102 = .ok (.iload_n 3, 1) := by decide +kernel
theorem dX8_goDawn_103 : decode cX8_goDawn 103 = .ok (.iaload, 1) := by decide +kernel
theorem dX8_goDawn_104 : decode cX8_goDawn 104 = .ok (.aload_n 0, 1) := by decide +kernel
theorem dX8_goDawn_105 : decode cX8_goDawn 105 = .ok (.getfield 62, 3) := by decide +kernel
theorem dX8_goDawn_108 : decode cX8_goDawn 108 = .ok (.iload_n 3, 1) := by decide +kernel
theorem dX8_goDawn_109 : decode cX8_goDawn 109 = .ok (.iaload, 1) := by decide +kernel
theorem dX8_goDawn_110 : decode cX8_goDawn 110 = .ok (.iload_n 1, 1) := by decide +kernel
theorem dX8_goDawn_111 : decode cX8_goDawn 111 = .ok (.invokevirtual 184, 3) := by decide +kernel
theorem dX8_goDawn_114 : decode cX8_goDawn 114 = .ok (.iinc 3 1, 3) := by decide +kernel
theorem dX8_goDawn_117 : decode cX8_goDawn 117 = .ok (.goto (-43), 3) := by decide +kernel
theorem dX8_goDawn_120 : decode cX8_goDawn 120 = .ok (.return_, 1) := by decide +kernel
theorem dX8_goAhead_0 : decode cX8_goAhead 0 = .ok (.aload_n 0, 1) := by decide +kernel
theorem dX8_goAhead_1 : decode cX8_goAhead 1 = .ok (.invokevirtual 188, 3) := by decide +kernel
theorem dX8_goAhead_4 : decode cX8_goAhead 4 = .ok (.iconst 0, 1) := by decide +kernel
theorem dX8_goAhead_5 : decode cX8_goAhead 5 = .ok (.istore_n 2, 1) := by decide +kernel
theorem dX8_goAhead_6 : decode cX8_goAhead 6 = .ok (.iload_n 2, 1) := by decide +kernel
theorem dX8_goAhead_7 : decode cX8_goAhead 7 = .ok (.iload_n 1, 1) := by decide +kernel
theorem dX8_goAhead_8 : decode cX8_goAhead 8 = .ok (.if_icmp .ge 14, 3) := by decide +kernel
theorem dX8_goAhead_11 : decode cX8_goAhead 11 = .ok (.aload_n 0, 1) := by decide +kernel
theorem dX8_goAhead_12 : decode cX8_goAhead 12 = .ok (.iload_n 2, 1) := by decide +kernel
theorem dX8_goAhead_13 : decode cX8_goAhead 13 = .ok (.invokevirtual 191, 3) := by decide +kernel
theorem dX8_goAhead_16 : decode cX8_goAhead 16 = .ok (.iinc 2 1, 3) := by decide +kernel
theorem dX8_goAhead_19 : decode cX8_goAhead 19 = .ok (.goto (-13), 3) := by decide +kernel
theorem dX8_goAhead_22 : decode cX8_goAhead 22 = .ok (.aload_n 0, 1) := by decide +kernel
theorem dX8_goAhead_23 : decode cX8_goAhead 23 = .ok (.iconst 0, 1) := by decide +kernel
theorem dX8_goAhead_24 : decode cX8_goAhead 24 = .ok (.putfield 155, 3) := by decide +kernel
theorem dX8_goAhead_27 : decode cX8_goAhead 27 = .ok (.return_, 1) := by decide +kernel
theorem dX8_meetings_0 : decode cX8_meetings 0 = .ok (.iload_n 1, 1) := by decide +kernel
theorem dX8_meetings_1 : decode cX8_meetings 1 = .ok (.invokestatic 195, 3) := by decide +kernel
theorem dX8_meetings_4 : decode cX8_meetings 4 = .ok (.ifCond .ne 6, 3) := by decide +kernel
theorem dX8_meetings_7 : decode cX8_meetings 7 = .ok (.bipush (-2), 2) := by decide +kernel
theorem dX8_meetings_9 : decode cX8_meetings 9 = .ok (.ireturn, 1) := by decide +kernel
theorem dX8_meetings_10 : decode cX8_meetings 10 = .ok (.aload_n 0, 1) := by decide +kernel
theorem dX8_meetings_11 : decode cX8_meetings 11 = .ok (.getfield 105, 3) := by decide +kernel
theorem dX8_meetings_14 : decode cX8_meetings 14 = .ok (.ifCond .ne 6, 3) := by decide +kernel
theorem dX8_meetings_17 : decode cX8_meetings 17 = .ok (.bipush (-3), 2) := by decide +kernel
theorem dX8_meetings_19 : decode cX8_meetings 19 = .ok (.ireturn, 1) := by decide +kernel
theorem dX8_meetings_20 : decode cX8_meetings 20 = .ok (.aload_n 0, 1) := by decide +kernel
theorem dX8_meetings_21 : decode cX8_meetings 21 = .ok (.iload_n 1, 1) := by decide +kernel
theorem dX8_meetings_22 : decode cX8_meetings 22 = .ok (.iconst 1, 1) := by decide +kernel
theorem dX8_meetings_23 : decode cX8_meetings 23 = .ok (.iadd, 1) := by decide +kernel
theorem dX8_meetings_24 : decode cX8_meetings 24 = .ok (.invokevirtual 198, 3) := by decide +kernel
theorem dX8_meetings_27 : decode cX8_meetings 27 = .ok (.aload_n 0, 1) := by decide +kernel
theorem dX8_meetings_28 : decode cX8_meetings 28 = .ok (.getfield 165, 3) := by decide +kernel
theorem dX8_meetings_31 : decode cX8_meetings 31 = .ok (.ireturn, 1) := by decide +kernel
theorem dX8_met_0 : decode cX8_met 0 = .ok (.aload_n 0, 1) := by decide +kernel
theorem dX8_met_1 : decode cX8_met 1 = .ok (.bipush 60, 2) := by decide +kernel
theorem dX8_met_3 : decode cX8_met 3 = .ok (.invokevirtual 198, 3) := by decide +kernel
theorem dX8_met_6 : decode cX8_met 6 = .ok (.iload_n 1, 1) := by decide +kernel
theorem dX8_met_7 : decode cX8_met 7 = .ok (.ifCond .lt 18, 3) := by decide +kernel
theorem dX8_met_10 : decode cX8_met 10 = .ok (.iload_n 1, 1) := by decide +kernel
theorem dX8_met_11 : decode cX8_met 11 = .ok (.aload_n 0, 1) := by decide +kernel
theorem dX8_met_12 : decode cX8_met 12 = .ok (.getfield 165, 3) := by decide +kernel
theorem dX8_met_15 : decode cX8_met 15 = .ok (.if_icmp .ge 10, 3) := by decide +kernel
theorem dX8_met_18 : decode cX8_met 18 = .ok (.aload_n 0, 1) := by decide +kernel
theorem dX8_met_19 : decode cX8_met 19 = .ok (.getfield 105, 3) := by decide +kernel
theorem dX8_met_22 : decode cX8_met 22 = .ok (.ifCond .ne 5, 3) := by decide +kernel
theorem dX8_met_25 : decode cX8_met 25 = .ok (.iconst (-1), 1) := by decide +kernel
theorem dX8_met_26 : decode cX8_met 26 = .ok (.ireturn, 1) := by decide +kernel
theorem dX8_met_27 : decode cX8_met 27 = .ok (.iload_n 2, 1) := by decide +kernel
theorem dX8_met_28 : decode cX8_met 28 = .ok (.tableswitch 82 0 5 #[40, 47, 54, 61, 68, 75], 40) := by decide +kernel
theorem dX8_met_68 : decode cX8_met 68 = .ok (.aload_n 0, 1) := by decide +kernel
theorem dX8_met_69 : decode cX8_met 69 = .ok (.getfield 68, 3) := by decide +kernel
theorem dX8_met_72 : decode cX8_met 72 = .ok (.iload_n 1, 1) := by decide +kernel
theorem dX8_met_73 : decode cX8_met 73 = .ok (.iaload, 1) := by decide +kernel
theorem dX8_met_74 : decode cX8_met 74 = .ok (.ireturn, 1) := by decide +kernel
theorem dX8_met_75 : decode cX8_met 75 = .ok (.aload_n 0, 1) := by decide +kernel
theorem dX8_met_76 : decode cX8_met 76 = .ok (.getfield 71, 3) := by decide +kernel
theorem dX8_met_79 : decode cX8_met 79 = .ok (.iload_n 1, 1) := by decide +kernel
theorem dX8_met_80 : decode cX8_met 80 = .ok (.iaload, 1) := by decide +kernel
theorem dX8_met_81 : decode cX8_met 81 = .ok (.ireturn, 1) := by decide +kernel
theorem dX8_met_82 : decode cX8_met 82 = .ok (.aload_n 0, 1) := by decide +kernel
theorem dX8_met_83 : decode cX8_met 83 = .ok (.getfield 74, 3) := by decide +kernel
theorem dX8_met_86 : decode cX8_met 86 = .ok (.iload_n 1, 1) := by decide +kernel
theorem dX8_met_87 : decode cX8_met 87 = .ok (.iaload, 1) := by decide +kernel
theorem dX8_met_88 : decode cX8_met 88 = .ok (.ireturn, 1) := by decide +kernel
theorem dX8_met_89 : decode cX8_met 89 = .ok (.aload_n 0, 1) := by decide +kernel
theorem dX8_met_90 : decode cX8_met 90 = .ok (.getfield 77, 3) := by decide +kernel
theorem dX8_met_93 : decode cX8_met 93 = .ok (.iload_n 1, 1) := by decide +kernel
theorem dX8_met_94 : decode cX8_met 94 = .ok (.iaload, 1) := by decide +kernel
theorem dX8_met_95 : decode cX8_met 95 = .ok (.ireturn, 1) := by decide +kernel
theorem dX8_met_96 : decode cX8_met 96 = .ok (.aload_n 0, 1) := by decide +kernel
theorem dX8_met_97 : decode cX8_met 97 = .ok (.getfield 80, 3) := by decide +kernel
theorem dX8_met_100 : decode cX8_met 100 = .ok (.iload_n 1, 1) := by decide +kernel
theorem dX8_met_101 : decode cX8_met 101 = .ok (.iaload, 1) := by decide +kernel
theorem dX8_met_102 : decode cX8_met 102 = .ok (.ireturn, 1) := by decide +kernel
theorem dX8_met_103 : decode cX8_met 103 = .ok (.aload_n 0, 1) := by decide +kernel
theorem dX8_met_104 : decode cX8_met 104 = .ok (.getfield 83, 3) := by decide +kernel
theorem dX8_met_107 : decode cX8_met 107 = .ok (.iload_n 1, 1) := by decide +kernel
theorem dX8_met_108 : decode cX8_met 108 = .ok (.iaload, 1) := by decide +kernel
theorem dX8_met_109 : decode cX8_met 109 = .ok (.ireturn, 1) := by decide +kernel
theorem dX8_met_110 : decode cX8_met 110 = .ok (.bipush (-2), 2) := by decide +kernel
theorem dX8_met_112 : decode cX8_met 112 = .ok (.ireturn, 1) := by decide +kernel
theorem dX8_free_0 : decode cX8_free 0 = .ok (.aload_n 0, 1) := by decide +kernel
theorem dX8_free_1 : decode cX8_free 1 = .ok (.iload_n 1, 1) := by decide +kernel
theorem dX8_free_2 : decode cX8_free 2 = .ok (.invokevirtual 145, 3) := by decide +kernel
theorem dX8_free_5 : decode cX8_free 5 = .ok (.ifCond .ne 5, 3) := by decide +kernel
theorem dX8_free_8 : decode cX8_free 8 = .ok (.iconst (-1), 1) := by decide +kernel
theorem dX8_free_9 : decode cX8_free 9 = .ok (.ireturn, 1) := by decide +kernel
theorem dX8_free_10 : decode cX8_free 10 = .ok (.iload_n 2, 1) := by decide +kernel
theorem dX8_free_11 : decode cX8_free 11 = .ok (.invokestatic 195, 3) := by decide +kernel
theorem dX8_free_14 : decode cX8_free 14 = .ok (.ifCond .ne 6, 3) := by decide +kernel
theorem dX8_free_17 : decode cX8_free 17 = .ok (.bipush (-2), 2) := by decide +kernel
theorem dX8_free_19 : decode cX8_free 19 = .ok (.ireturn, 1) := by decide +kernel
theorem dX8_free_20 : decode cX8_free 20 = .ok (.aload_n 0, 1) := by decide +kernel
theorem dX8_free_21 : decode cX8_free 21 = .ok (.iload_n 2, 1) := by decide +kernel
theorem dX8_free_22 : decode cX8_free 22 = .ok (.invokevirtual 198, 3) := by decide +kernel
theorem dX8_free_25 : decode cX8_free 25 = .ok (.aload_n 0, 1) := by decide +kernel
theorem dX8_free_26 : decode cX8_free 26 = .ok (.iload_n 1, 1) := by decide +kernel
theorem dX8_free_27 : decode cX8_free 27 = .ok (.iload_n 2, 1) := by decide +kernel
theorem dX8_free_28 : decode cX8_free 28 = .ok (.invokevirtual 158, 3) := by decide +kernel
theorem dX8_free_31 : decode cX8_free 31 = .ok (.ifCond .eq 7, 3) := by decide +kernel
theorem dX8_free_34 : decode cX8_free 34 = .ok (.iconst 1, 1) := by decide +kernel
theorem dX8_free_35 : decode cX8_free 35 = .ok (.goto 4, 3) := by decide +kernel
theorem dX8_free_38 : decode cX8_free 38 = .ok (.iconst 0, 1) := by decide +kernel
theorem dX8_free_39 : decode cX8_free 39 = .ok (.ireturn, 1) := by decide +kernel
theorem dX8_second_0 : decode cX8_second 0 = .ok (.aload_n 0, 1) := by decide +kernel
theorem dX8_second_1 : decode cX8_second 1 = .ok (.iload_n 1, 1) := by decide +kernel
theorem dX8_second_2 : decode cX8_second 2 = .ok (.invokevirtual 145, 3) := by decide +kernel
theorem dX8_second_5 : decode cX8_second 5 = .ok (.ifCond .eq 16, 3) := by decide +kernel
theorem dX8_second_8 : decode cX8_second 8 = .ok (.aload_n 0, 1) := by decide +kernel
theorem dX8_second_9 : decode cX8_second 9 = .ok (.iload_n 2, 1) := by decide +kernel
theorem dX8_second_10 : decode cX8_second 10 = .ok (.invokevirtual 145, 3) := by decide +kernel
theorem dX8_second_13 : decode cX8_second 13 = .ok (.ifCond .eq 8, 3) := by decide +kernel
theorem dX8_second_16 : decode cX8_second 16 = .ok (.iload_n 1, 1) := by decide +kernel
theorem dX8_second_17 : decode cX8_second 17 = .ok (.iload_n 2, 1) := by decide +kernel
theorem dX8_second_18 : decode cX8_second 18 = .ok (.if_icmp .ne 5, 3) := by decide +kernel
theorem dX8_second_21 : decode cX8_second 21 = .ok (.iconst (-1), 1) := by decide +kernel
theorem dX8_second_22 : decode cX8_second 22 = .ok (.ireturn, 1) := by decide +kernel
theorem dX8_second_23 : decode cX8_second 23 = .ok (.iload_n 3, 1) := by decide +kernel
theorem dX8_second_24 : decode cX8_second 24 = .ok (.invokestatic 195, 3) := by decide +kernel
theorem dX8_second_27 : decode cX8_second 27 = .ok (.ifCond .ne 6, 3) := by decide +kernel
theorem dX8_second_30 : decode cX8_second 30 = .ok (.bipush (-2), 2) := by decide +kernel
theorem dX8_second_32 : decode cX8_second 32 = .ok (.ireturn, 1) := by decide +kernel
theorem dX8_second_33 : decode cX8_second 33 = .ok (.aload_n 0, 1) := by decide +kernel
theorem dX8_second_34 : decode cX8_second 34 = .ok (.iload_n 3, 1) := by decide +kernel
theorem dX8_second_35 : decode cX8_second 35 = .ok (.invokevirtual 198, 3) := by decide +kernel
theorem dX8_second_38 : decode cX8_second 38 = .ok (.aload_n 0, 1) := by decide +kernel
theorem dX8_second_39 : decode cX8_second 39 = .ok (.iload_n 1, 1) := by decide +kernel
theorem dX8_second_40 : decode cX8_second 40 = .ok (.iload_n 2, 1) := by decide +kernel
theorem dX8_second_41 : decode cX8_second 41 = .ok (.bipush (-9), 2) := by decide +kernel
theorem dX8_second_43 : decode cX8_second 43 = .ok (.iload_n 3, 1) := by decide +kernel
theorem dX8_second_44 : decode cX8_second 44 = .ok (.invokevirtual 175, 3) := by decide +kernel
theorem dX8_second_47 : decode cX8_second 47 = .ok (.ireturn, 1) := by decide +kernel
theorem dX8_worth_0 : decode cX8_worth 0 = .ok (.iload_n 1, 1) := by decide +kernel
theorem dX8_worth_1 : decode cX8_worth 1 = .ok (.ifCond .lt 11, 3) := by decide +kernel
theorem dX8_worth_4 : decode cX8_worth 4 = .ok (.iload_n 1, 1) := by decide +kernel
theorem dX8_worth_5 : decode cX8_worth 5 = .ok (.aload_n 0, 1) := by decide +kernel
theorem dX8_worth_6 : decode cX8_worth 6 = .ok (.getfield 132, 3) := by decide +kernel
theorem dX8_worth_9 : decode cX8_worth 9 = .ok (.if_icmp .lt 5, 3) := by decide +kernel
theorem dX8_worth_12 : decode cX8_worth 12 = .ok (.iconst (-1), 1) := by decide +kernel
theorem dX8_worth_13 : decode cX8_worth 13 = .ok (.ireturn, 1) := by decide +kernel
theorem dX8_worth_14 : decode cX8_worth 14 = .ok (.aload_n 0, 1) := by decide +kernel
theorem dX8_worth_15 : decode cX8_worth 15 = .ok (.bipush 60, 2) := by decide +kernel
theorem dX8_worth_17 : decode cX8_worth 17 = .ok (.invokevirtual 198, 3) := by decide +kernel
theorem dX8_worth_20 : decode cX8_worth 20 = .ok (.aload_n 0, 1) := by decide +kernel
theorem dX8_worth_21 : decode cX8_worth 21 = .ok (.getfield 165, 3) := by decide +kernel
theorem dX8_worth_24 : decode cX8_worth 24 = .ok (.istore_n 2, 1) := by decide +kernel
theorem dX8_worth_25 : decode cX8_worth 25 = .ok (.aload_n 0, 1) := by decide +kernel
theorem dX8_worth_26 : decode cX8_worth 26 = .ok (.iconst 1, 1) := by decide +kernel
theorem dX8_worth_27 : decode cX8_worth 27 = .ok (.iload_n 1, 1) := by decide +kernel
theorem dX8_worth_28 : decode cX8_worth 28 = .ok (.ishl, 1) := by decide +kernel
theorem dX8_worth_29 : decode cX8_worth 29 = .ok (.putfield 181, 3) := by decide +kernel
theorem dX8_worth_32 : decode cX8_worth 32 = .ok (.aload_n 0, 1) := by decide +kernel
theorem dX8_worth_33 : decode cX8_worth 33 = .ok (.bipush 60, 2) := by decide +kernel
theorem dX8_worth_35 : decode cX8_worth 35 = .ok (.invokevirtual 198, 3) := by decide +kernel
theorem dX8_worth_38 : decode cX8_worth 38 = .ok (.aload_n 0, 1) := by decide +kernel
theorem dX8_worth_39 : decode cX8_worth 39 = .ok (.iconst 0, 1) := by decide +kernel
theorem dX8_worth_40 : decode cX8_worth 40 = .ok (.putfield 181, 3) := by decide +kernel
theorem dX8_worth_43 : decode cX8_worth 43 = .ok (.iload_n 2, 1) := by decide +kernel
theorem dX8_worth_44 : decode cX8_worth 44 = .ok (.aload_n 0, 1) := by decide +kernel
theorem dX8_worth_45 : decode cX8_worth 45 = .ok (.getfield 165, 3) := by decide +kernel
theorem dX8_worth_48 : decode cX8_worth 48 = .ok (.isub, 1) := by decide +kernel
theorem dX8_worth_49 : decode cX8_worth 49 = .ok (.sipush 1000, 3) := by decide +kernel
theorem dX8_worth_52 : decode cX8_worth 52 = .ok (.iadd, 1) := by decide +kernel
theorem dX8_worth_53 : decode cX8_worth 53 = .ok (.ireturn, 1) := by decide +kernel
theorem dX8_size_0 : decode cX8_size 0 = .ok (.iconst 0, 1) := by decide +kernel
theorem dX8_size_1 : decode cX8_size 1 = .ok (.istore_n 1, 1) := by decide +kernel
theorem dX8_size_2 : decode cX8_size 2 = .ok (.iload_n 0, 1) := by decide +kernel
theorem dX8_size_3 : decode cX8_size 3 = .ok (.istore_n 2, 1) := by decide +kernel
theorem dX8_size_4 : decode cX8_size 4 = .ok (.iload_n 2, 1) := by decide +kernel
theorem dX8_size_5 : decode cX8_size 5 = .ok (.ifCond .le 16, 3) := by decide +kernel
theorem dX8_size_8 : decode cX8_size 8 = .ok (.iload_n 1, 1) := by decide +kernel
theorem dX8_size_9 : decode cX8_size 9 = .ok (.iload_n 2, 1) := by decide +kernel
theorem dX8_size_10 : decode cX8_size 10 = .ok (.iconst 1, 1) := by decide +kernel
theorem dX8_size_11 : decode cX8_size 11 = .ok (.iand, 1) := by decide +kernel
theorem dX8_size_12 : decode cX8_size 12 = .ok (.iadd, 1) := by decide +kernel
theorem dX8_size_13 : decode cX8_size 13 = .ok (.istore_n 1, 1) := by decide +kernel
theorem dX8_size_14 : decode cX8_size 14 = .ok (.iload_n 2, 1) := by decide +kernel
theorem dX8_size_15 : decode cX8_size 15 = .ok (.iconst 1, 1) := by decide +kernel
theorem dX8_size_16 : decode cX8_size 16 = .ok (.ishr, 1) := by decide +kernel
theorem dX8_size_17 : decode cX8_size 17 = .ok (.istore_n 2, 1) := by decide +kernel
theorem dX8_size_18 : decode cX8_size 18 = .ok (.goto (-14), 3) := by decide +kernel
theorem dX8_size_21 : decode cX8_size 21 = .ok (.iload_n 1, 1) := by decide +kernel
theorem dX8_size_22 : decode cX8_size 22 = .ok (.ireturn, 1) := by decide +kernel
theorem dX8_arrestAll_0 : decode cX8_arrestAll 0 = .ok (.iconst 0, 1) := by decide +kernel
theorem dX8_arrestAll_1 : decode cX8_arrestAll 1 = .ok (.istore_n 3, 1) := by decide +kernel
theorem dX8_arrestAll_2 : decode cX8_arrestAll 2 = .ok (.iload_n 3, 1) := by decide +kernel
theorem dX8_arrestAll_3 : decode cX8_arrestAll 3 = .ok (.aload_n 0, 1) := by decide +kernel
theorem dX8_arrestAll_4 : decode cX8_arrestAll 4 = .ok (.getfield 105, 3) := by decide +kernel
theorem dX8_arrestAll_7 : decode cX8_arrestAll 7 = .ok (.if_icmp .ge 34, 3) := by decide +kernel
theorem dX8_arrestAll_10 : decode cX8_arrestAll 10 = .ok (.aload_n 0, 1) := by decide +kernel
theorem dX8_arrestAll_11 : decode cX8_arrestAll 11 = .ok (.getfield 28, 3) := by decide +kernel
theorem dX8_arrestAll_14 : decode cX8_arrestAll 14 = .ok (.iload_n 3, 1) := by decide +kernel
theorem dX8_arrestAll_15 : decode cX8_arrestAll 15 = .ok (.iload_n 1, 1) := by decide +kernel
theorem dX8_arrestAll_16 : decode cX8_arrestAll 16 = .ok (.iload_n 3, 1) := by decide +kernel
theorem dX8_arrestAll_17 : decode cX8_arrestAll 17 = .ok (.ishr, 1) := by decide +kernel
theorem dX8_arrestAll_18 : decode cX8_arrestAll 18 = .ok (.iconst 1, 1) := by decide +kernel
theorem dX8_arrestAll_19 : decode cX8_arrestAll 19 = .ok (.iand, 1) := by decide +kernel
theorem dX8_arrestAll_20 : decode cX8_arrestAll 20 = .ok (.iconst 1, 1) := by decide +kernel
theorem dX8_arrestAll_21 : decode cX8_arrestAll 21 = .ok (.if_icmp .ne 7, 3) := by decide +kernel
theorem dX8_arrestAll_24 : decode cX8_arrestAll 24 = .ok (.iload_n 2, 1) := by decide +kernel
theorem dX8_arrestAll_25 : decode cX8_arrestAll 25 = .ok (.goto 9, 3) := by decide +kernel
theorem dX8_arrestAll_28 : decode cX8_arrestAll 28 = .ok (.aload_n 0, 1) := by decide +kernel
theorem dX8_arrestAll_29 : decode cX8_arrestAll 29 = .ok (.getfield 28, 3) := by decide +kernel
theorem dX8_arrestAll_32 : decode cX8_arrestAll 32 = .ok (.iload_n 3, 1) := by decide +kernel
theorem dX8_arrestAll_33 : decode cX8_arrestAll 33 = .ok (.baload, 1) := by decide +kernel
theorem dX8_arrestAll_34 : decode cX8_arrestAll 34 = .ok (.bastore, 1) := by decide +kernel
theorem dX8_arrestAll_35 : decode cX8_arrestAll 35 = .ok (.iinc 3 1, 3) := by decide +kernel
theorem dX8_arrestAll_38 : decode cX8_arrestAll 38 = .ok (.goto (-36), 3) := by decide +kernel
theorem dX8_arrestAll_41 : decode cX8_arrestAll 41 = .ok (.return_, 1) := by decide +kernel
theorem dX8_arrests_0 : decode cX8_arrests 0 = .ok (.iload_n 1, 1) := by decide +kernel
theorem dX8_arrests_1 : decode cX8_arrests 1 = .ok (.invokestatic 195, 3) := by decide +kernel
theorem dX8_arrests_4 : decode cX8_arrests 4 = .ok (.ifCond .ne 6, 3) := by decide +kernel
theorem dX8_arrests_7 : decode cX8_arrests 7 = .ok (.bipush (-2), 2) := by decide +kernel
theorem dX8_arrests_9 : decode cX8_arrests 9 = .ok (.ireturn, 1) := by decide +kernel
theorem dX8_arrests_10 : decode cX8_arrests 10 = .ok (.aload_n 0, 1) := by decide +kernel
theorem dX8_arrests_11 : decode cX8_arrests 11 = .ok (.getfield 105, 3) := by decide +kernel
theorem dX8_arrests_14 : decode cX8_arrests 14 = .ok (.ifCond .ne 6, 3) := by decide +kernel
theorem dX8_arrests_17 : decode cX8_arrests 17 = .ok (.bipush (-3), 2) := by decide +kernel
theorem dX8_arrests_19 : decode cX8_arrests 19 = .ok (.ireturn, 1) := by decide +kernel
theorem dX8_arrests_20 : decode cX8_arrests 20 = .ok (.iconst 0, 1) := by decide +kernel
theorem dX8_arrests_21 : decode cX8_arrests 21 = .ok (.istore_n 2, 1) := by decide +kernel
theorem dX8_arrests_22 : decode cX8_arrests 22 = .ok (.iconst 0, 1) := by decide +kernel
theorem dX8_arrests_23 : decode cX8_arrests 23 = .ok (.istore_n 3, 1) := by decide +kernel
theorem dX8_arrests_24 : decode cX8_arrests 24 = .ok (.iload_n 3, 1) := by decide +kernel
theorem dX8_arrests_25 : decode cX8_arrests 25 = .ok (.aload_n 0, 1) := by decide +kernel
theorem dX8_arrests_26 : decode cX8_arrests 26 = .ok (.getfield 105, 3) := by decide +kernel
theorem dX8_arrests_29 : decode cX8_arrests 29 = .ok (.if_icmp .ge 28, 3) := by decide +kernel
theorem dX8_arrests_32 : decode cX8_arrests 32 = .ok (.iload_n 2, 1) := by decide +kernel
theorem dX8_arrests_33 : decode cX8_arrests 33 = .ok (.aload_n 0, 1) := by decide +kernel
theorem dX8_arrests_34 : decode cX8_arrests 34 = .ok (.getfield 28, 3) := by decide +kernel
theorem dX8_arrests_37 : decode cX8_arrests 37 = .ok (.iload_n 3, 1) := by decide +kernel
theorem dX8_arrests_38 : decode cX8_arrests 38 = .ok (.baload, 1) := by decide +kernel
theorem dX8_arrests_39 : decode cX8_arrests 39 = .ok (.ifCond .eq 9, 3) := by decide +kernel
theorem dX8_arrests_42 : decode cX8_arrests 42 = .ok (.iconst 1, 1) := by decide +kernel
theorem dX8_arrests_43 : decode cX8_arrests 43 = .ok (.iload_n 3, 1) := by decide +kernel
theorem dX8_arrests_44 : decode cX8_arrests 44 = .ok (.ishl, 1) := by decide +kernel
theorem dX8_arrests_45 : decode cX8_arrests 45 = .ok (.goto 4, 3) := by decide +kernel
theorem dX8_arrests_48 : decode cX8_arrests 48 = .ok (.iconst 0, 1) := by decide +kernel
theorem dX8_arrests_49 : decode cX8_arrests 49 = .ok (.ior, 1) := by decide +kernel
theorem dX8_arrests_50 : decode cX8_arrests 50 = .ok (.istore_n 2, 1) := by decide +kernel
theorem dX8_arrests_51 : decode cX8_arrests 51 = .ok (.iinc 3 1, 3) := by decide +kernel
theorem dX8_arrests_54 : decode cX8_arrests 54 = .ok (.goto (-30), 3) := by decide +kernel
theorem dX8_arrests_57 : decode cX8_arrests 57 = .ok (.bipush (-9), 2) := by decide +kernel
theorem dX8_arrests_59 : decode cX8_arrests 59 = .ok (.istore_n 3, 1) := by decide +kernel
theorem dX8_arrests_60 : decode cX8_arrests 60 = .ok (.iconst 0, 1) := by decide +kernel
theorem dX8_arrests_61 : decode cX8_arrests 61 = .ok (.istore 4, 2) := by decide +kernel
theorem dX8_arrests_63 : decode cX8_arrests 63 = .ok (.iload 4, 2) := by decide +kernel
theorem dX8_arrests_65 : decode cX8_arrests 65 = .ok (.iconst 1, 1) := by decide +kernel
theorem dX8_arrests_66 : decode cX8_arrests 66 = .ok (.aload_n 0, 1) := by decide +kernel
theorem dX8_arrests_67 : decode cX8_arrests 67 = .ok (.getfield 105, 3) := by decide +kernel
theorem dX8_arrests_70 : decode cX8_arrests 70 = .ok (.ishl, 1) := by decide +kernel
theorem dX8_arrests_71 : decode cX8_arrests 71 = .ok (.if_icmp .ge 69, 3) := by decide +kernel
theorem dX8_arrests_74 : decode cX8_arrests 74 = .ok (.iload 4, 2) := by decide +kernel
theorem dX8_arrests_76 : decode cX8_arrests 76 = .ok (.iload_n 2, 1) := by decide +kernel
theorem dX8_arrests_77 : decode cX8_arrests 77 = .ok (.iand, 1) := by decide +kernel
theorem dX8_arrests_78 : decode cX8_arrests 78 = .ok (.ifCond .ne 56, 3) := by decide +kernel
theorem dX8_arrests_81 : decode cX8_arrests 81 = .ok (.iload_n 3, 1) := by decide +kernel
theorem dX8_arrests_82 : decode cX8_arrests 82 = .ok (.bipush (-9), 2) := by decide +kernel
theorem dX8_arrests_84 : decode cX8_arrests 84 = .ok (.if_icmp .eq 15, 3) := by decide +kernel
theorem dX8_arrests_87 : decode cX8_arrests 87 = .ok (.iload 4, 2) := by decide +kernel
theorem dX8_arrests_89 : decode cX8_arrests 89 = .ok (.invokestatic 201, 3) := by decide +kernel
theorem dX8_arrests_92 : decode cX8_arrests 92 = .ok (.iload_n 3, 1) := by decide +kernel
theorem dX8_arrests_93 : decode cX8_arrests 93 = .ok (.invokestatic 201, 3) := by decide +kernel
theorem dX8_arrests_96 : decode cX8_arrests 96 = .ok (.if_icmp .ge 38, 3) := by decide +kernel
theorem dX8_arrests_99 : decode cX8_arrests 99 = .ok (.aload_n 0, 1) := by decide +kernel
theorem dX8_arrests_100 : decode cX8_arrests 100 = .ok (.iload 4, 2) := by decide +kernel
theorem dX8_arrests_102 : decode cX8_arrests 102 = .ok (.iconst 1, 1) := by decide +kernel
theorem dX8_arrests_103 : decode cX8_arrests 103 = .ok (.invokevirtual 204, 3) := by decide +kernel
theorem dX8_arrests_106 : decode cX8_arrests 106 = .ok (.aload_n 0, 1) := by decide +kernel
theorem dX8_arrests_107 : decode cX8_arrests 107 = .ok (.iload_n 1, 1) := by decide +kernel
theorem dX8_arrests_108 : decode cX8_arrests 108 = .ok (.iconst 1, 1) := by decide +kernel
theorem dX8_arrests_109 : decode cX8_arrests 109 = .ok (.iadd, 1) := by decide +kernel
theorem dX8_arrests_110 : decode cX8_arrests 110 = .ok (.invokevirtual 198, 3) := by decide +kernel
theorem dX8_arrests_113 : decode cX8_arrests 113 = .ok (.aload_n 0, 1) := by decide +kernel
theorem dX8_arrests_114 : decode cX8_arrests 114 = .ok (.iload 4, 2) := by decide +kernel
theorem dX8_arrests_116 : decode cX8_arrests 116 = .ok (.iconst 0, 1) := by decide +kernel
theorem dX8_arrests_117 : decode cX8_arrests 117 = .ok (.invokevirtual 204, 3) := by decide +kernel
theorem dX8_arrests_120 : decode cX8_arrests 120 = .ok (.aload_n 0, 1) := by decide +kernel
theorem dX8_arrests_121 : decode cX8_arrests 121 = .ok (.getfield 165, 3) := by decide +kernel
theorem dX8_arrests_124 : decode cX8_arrests 124 = .ok (.ifCond .ne 8, 3) := by decide +kernel
theorem dX8_arrests_127 : decode cX8_arrests 127 = .ok (.iload 4, 2) := by decide +kernel
theorem dX8_arrests_129 : decode cX8_arrests 129 = .ok (.goto 4, 3) := by decide +kernel
theorem dX8_arrests_132 : decode cX8_arrests 132 = .ok (.iload_n 3, 1) := by decide +kernel
theorem dX8_arrests_133 : decode cX8_arrests 133 = .ok (.istore_n 3, 1) := by decide +kernel
theorem dX8_arrests_134 : decode cX8_arrests 134 = .ok (.iinc 4 1, 3) := by decide +kernel
theorem dX8_arrests_137 : decode cX8_arrests 137 = .ok (.goto (-74), 3) := by decide +kernel
theorem dX8_arrests_140 : decode cX8_arrests 140 = .ok (.iload_n 3, 1) := by decide +kernel
theorem dX8_arrests_141 : decode cX8_arrests 141 = .ok (.ireturn, 1) := by decide +kernel
theorem dX8_didMeet_0 : decode cX8_didMeet 0 = .ok (.iconst 0, 1) := by decide +kernel
theorem dX8_didMeet_1 : decode cX8_didMeet 1 = .ok (.istore 4, 2) := by decide +kernel
theorem dX8_didMeet_3 : decode cX8_didMeet 3 = .ok (.iload 4, 2) := by decide +kernel
theorem dX8_didMeet_5 : decode cX8_didMeet 5 = .ok (.aload_n 0, 1) := by decide +kernel
theorem dX8_didMeet_6 : decode cX8_didMeet 6 = .ok (.getfield 165, 3) := by decide +kernel
theorem dX8_didMeet_9 : decode cX8_didMeet 9 = .ok (.if_icmp .ge 78, 3) := by decide +kernel
theorem dX8_didMeet_12 : decode cX8_didMeet 12 = .ok (.aload_n 0, 1) := by decide +kernel
theorem dX8_didMeet_13 : decode cX8_didMeet 13 = .ok (.getfield 71, 3) := by decide +kernel
theorem dX8_didMeet_16 : decode cX8_didMeet 16 = .ok (.iload 4, 2) := by decide +kernel
theorem dX8_didMeet_18 : decode cX8_didMeet 18 = .ok (.iaload, 1) := by decide +kernel
theorem dX8_didMeet_19 : decode cX8_didMeet 19 = .ok (.iload_n 1, 1) := by decide +kernel
theorem dX8_didMeet_20 : decode cX8_didMeet 20 = .ok (.if_icmp .ne 14, 3) := by decide +kernel
theorem dX8_didMeet_23 : decode cX8_didMeet 23 = .ok (.aload_n 0, 1) := by decide +kernel
theorem dX8_didMeet_24 : decode cX8_didMeet 24 = .ok (.getfield 74, 3) := by decide +kernel
theorem dX8_didMeet_27 : decode cX8_didMeet 27 = .ok (.iload 4, 2) := by decide +kernel
theorem dX8_didMeet_29 : decode cX8_didMeet 29 = .ok (.iaload, 1) := by decide +kernel
theorem dX8_didMeet_30 : decode cX8_didMeet 30 = .ok (.iload_n 2, 1) := by decide +kernel
theorem dX8_didMeet_31 : decode cX8_didMeet 31 = .ok (.if_icmp .eq 25, 3) := by decide +kernel
theorem dX8_didMeet_34 : decode cX8_didMeet 34 = .ok (.aload_n 0, 1) := by decide +kernel
theorem dX8_didMeet_35 : decode cX8_didMeet 35 = .ok (.getfield 71, 3) := by decide +kernel
theorem dX8_didMeet_38 : decode cX8_didMeet 38 = .ok (.iload 4, 2) := by decide +kernel
theorem dX8_didMeet_40 : decode cX8_didMeet 40 = .ok (.iaload, 1) := by decide +kernel
theorem dX8_didMeet_41 : decode cX8_didMeet 41 = .ok (.iload_n 2, 1) := by decide +kernel
theorem dX8_didMeet_42 : decode cX8_didMeet 42 = .ok (.if_icmp .ne 18, 3) := by decide +kernel
theorem dX8_didMeet_45 : decode cX8_didMeet 45 = .ok (.aload_n 0, 1) := by decide +kernel
theorem dX8_didMeet_46 : decode cX8_didMeet 46 = .ok (.getfield 74, 3) := by decide +kernel
theorem dX8_didMeet_49 : decode cX8_didMeet 49 = .ok (.iload 4, 2) := by decide +kernel
theorem dX8_didMeet_51 : decode cX8_didMeet 51 = .ok (.iaload, 1) := by decide +kernel
theorem dX8_didMeet_52 : decode cX8_didMeet 52 = .ok (.iload_n 1, 1) := by decide +kernel
theorem dX8_didMeet_53 : decode cX8_didMeet 53 = .ok (.if_icmp .ne 7, 3) := by decide +kernel
theorem dX8_didMeet_56 : decode cX8_didMeet 56 = .ok (.iconst 1, 1) := by decide +kernel
theorem dX8_didMeet_57 : decode cX8_didMeet 57 = .ok (.goto 4, 3) := by decide +kernel
theorem dX8_didMeet_60 : decode cX8_didMeet 60 = .ok (.iconst 0, 1) := by decide +kernel
theorem dX8_didMeet_61 : decode cX8_didMeet 61 = .ok (.istore 5, 2) := by decide +kernel
theorem dX8_didMeet_63 : decode cX8_didMeet 63 = .ok (.iload 5, 2) := by decide +kernel
theorem dX8_didMeet_65 : decode cX8_didMeet 65 = .ok (.ifCond .eq 16, 3) := by decide +kernel
theorem dX8_didMeet_68 : decode cX8_didMeet 68 = .ok (.aload_n 0, 1) := by decide +kernel
theorem dX8_didMeet_69 : decode cX8_didMeet 69 = .ok (.getfield 68, 3) := by decide +kernel
theorem dX8_didMeet_72 : decode cX8_didMeet 72 = .ok (.iload 4, 2) := by decide +kernel
theorem dX8_didMeet_74 : decode cX8_didMeet 74 = .ok (.iaload, 1) := by decide +kernel
theorem dX8_didMeet_75 : decode cX8_didMeet 75 = .ok (.iload_n 3, 1) := by decide +kernel
theorem dX8_didMeet_76 : decode cX8_didMeet 76 = .ok (.if_icmp .le 5, 3) := by decide +kernel
theorem dX8_didMeet_79 : decode cX8_didMeet 79 = .ok (.iconst 1, 1) := by decide +kernel
theorem dX8_didMeet_80 : decode cX8_didMeet 80 = .ok (.ireturn, 1) := by decide +kernel
theorem dX8_didMeet_81 : decode cX8_didMeet 81 = .ok (.iinc 4 1, 3) := by decide +kernel
theorem dX8_didMeet_84 : decode cX8_didMeet 84 = .ok (.goto (-81), 3) := by decide +kernel
theorem dX8_didMeet_87 : decode cX8_didMeet 87 = .ok (.iconst 0, 1) := by decide +kernel
theorem dX8_didMeet_88 : decode cX8_didMeet 88 = .ok (.ireturn, 1) := by decide +kernel
theorem dX8_doesProvoke_0 : decode cX8_doesProvoke 0 = .ok (.aload_n 0, 1) := by decide +kernel
theorem dX8_doesProvoke_1 : decode cX8_doesProvoke 1 = .ok (.aload_n 0, 1) := by decide +kernel
theorem dX8_doesProvoke_2 : decode cX8_doesProvoke 2 = .ok (.getfield 132, 3) := by decide +kernel
theorem dX8_doesProvoke_5 : decode cX8_doesProvoke 5 = .ok (.iload_n 1, 1) := by decide +kernel
theorem dX8_doesProvoke_6 : decode cX8_doesProvoke 6 = .ok (.iload_n 2, 1) := by decide +kernel
theorem dX8_doesProvoke_7 : decode cX8_doesProvoke 7 = .ok (.iload 6, 2) := by decide +kernel
theorem dX8_doesProvoke_9 : decode cX8_doesProvoke 9 = .ok (.iload_n 3, 1) := by decide +kernel
theorem dX8_doesProvoke_10 : decode cX8_doesProvoke 10 = .ok (.invokevirtual 151, 3) := by decide +kernel
theorem dX8_doesProvoke_13 : decode cX8_doesProvoke 13 = .ok (.aload_n 0, 1) := by decide +kernel
theorem dX8_doesProvoke_14 : decode cX8_doesProvoke 14 = .ok (.dup, 1) := by decide +kernel
theorem dX8_doesProvoke_15 : decode cX8_doesProvoke 15 = .ok (.getfield 132, 3) := by decide +kernel
theorem dX8_doesProvoke_18 : decode cX8_doesProvoke 18 = .ok (.iconst 1, 1) := by decide +kernel
theorem dX8_doesProvoke_19 : decode cX8_doesProvoke 19 = .ok (.iadd, 1) := by decide +kernel
theorem dX8_doesProvoke_20 : decode cX8_doesProvoke 20 = .ok (.putfield 132, 3) := by decide +kernel
theorem dX8_doesProvoke_23 : decode cX8_doesProvoke 23 = .ok (.aload_n 0, 1) := by decide +kernel
theorem dX8_doesProvoke_24 : decode cX8_doesProvoke 24 = .ok (.bipush 60, 2) := by decide +kernel
theorem dX8_doesProvoke_26 : decode cX8_doesProvoke 26 = .ok (.invokevirtual 198, 3) := by decide +kernel
theorem dX8_doesProvoke_29 : decode cX8_doesProvoke 29 = .ok (.aload_n 0, 1) := by decide +kernel
theorem dX8_doesProvoke_30 : decode cX8_doesProvoke 30 = .ok (.dup, 1) := by decide +kernel
theorem dX8_doesProvoke_31 : decode cX8_doesProvoke 31 = .ok (.getfield 132, 3) := by decide +kernel
theorem dX8_doesProvoke_34 : decode cX8_doesProvoke 34 = .ok (.iconst 1, 1) := by decide +kernel
theorem dX8_doesProvoke_35 : decode cX8_doesProvoke 35 = .ok (.isub, 1) := by decide +kernel
theorem dX8_doesProvoke_36 : decode cX8_doesProvoke 36 = .ok (.putfield 132, 3) := by decide +kernel
theorem dX8_doesProvoke_39 : decode cX8_doesProvoke 39 = .ok (.aload_n 0, 1) := by decide +kernel
theorem dX8_doesProvoke_40 : decode cX8_doesProvoke 40 = .ok (.iload 4, 2) := by decide +kernel
theorem dX8_doesProvoke_42 : decode cX8_doesProvoke 42 = .ok (.iload 5, 2) := by decide +kernel
theorem dX8_doesProvoke_44 : decode cX8_doesProvoke 44 = .ok (.iload 6, 2) := by decide +kernel
theorem dX8_doesProvoke_46 : decode cX8_doesProvoke 46 = .ok (.invokevirtual 208, 3) := by decide +kernel
theorem dX8_doesProvoke_49 : decode cX8_doesProvoke 49 = .ok (.ireturn, 1) := by decide +kernel
theorem dX8_provoked_0 : decode cX8_provoked 0 = .ok (.aload_n 0, 1) := by decide +kernel
theorem dX8_provoked_1 : decode cX8_provoked 1 = .ok (.iload_n 1, 1) := by decide +kernel
theorem dX8_provoked_2 : decode cX8_provoked 2 = .ok (.invokevirtual 145, 3) := by decide +kernel
theorem dX8_provoked_5 : decode cX8_provoked 5 = .ok (.ifCond .eq 16, 3) := by decide +kernel
theorem dX8_provoked_8 : decode cX8_provoked 8 = .ok (.aload_n 0, 1) := by decide +kernel
theorem dX8_provoked_9 : decode cX8_provoked 9 = .ok (.iload_n 2, 1) := by decide +kernel
theorem dX8_provoked_10 : decode cX8_provoked 10 = .ok (.invokevirtual 145, 3) := by decide +kernel
theorem dX8_provoked_13 : decode cX8_provoked 13 = .ok (.ifCond .eq 8, 3) := by decide +kernel
theorem dX8_provoked_16 : decode cX8_provoked 16 = .ok (.iload_n 1, 1) := by decide +kernel
theorem dX8_provoked_17 : decode cX8_provoked 17 = .ok (.iload_n 2, 1) := by decide +kernel
theorem dX8_provoked_18 : decode cX8_provoked 18 = .ok (.if_icmp .ne 5, 3) := by decide +kernel
theorem dX8_provoked_21 : decode cX8_provoked 21 = .ok (.iconst (-1), 1) := by decide +kernel
theorem dX8_provoked_22 : decode cX8_provoked 22 = .ok (.ireturn, 1) := by decide +kernel
theorem dX8_provoked_23 : decode cX8_provoked 23 = .ok (.iload_n 3, 1) := by decide +kernel
theorem dX8_provoked_24 : decode cX8_provoked 24 = .ok (.iconst 0, 1) := by decide +kernel
theorem dX8_provoked_25 : decode cX8_provoked 25 = .ok (.bipush 29, 2) := by decide +kernel
theorem dX8_provoked_27 : decode cX8_provoked 27 = .ok (.invokestatic 101, 3) := by decide +kernel
theorem dX8_provoked_30 : decode cX8_provoked 30 = .ok (.ifCond .ne 6, 3) := by decide +kernel
theorem dX8_provoked_33 : decode cX8_provoked 33 = .ok (.bipush (-2), 2) := by decide +kernel
theorem dX8_provoked_35 : decode cX8_provoked 35 = .ok (.ireturn, 1) := by decide +kernel
theorem dX8_provoked_36 : decode cX8_provoked 36 = .ok (.iconst 0, 1) := by decide +kernel
theorem dX8_provoked_37 : decode cX8_provoked 37 = .ok (.istore 4, 2) := by decide +kernel
theorem dX8_provoked_39 : decode cX8_provoked 39 = .ok (.iload 4, 2) := by decide +kernel
theorem dX8_provoked_41 : decode cX8_provoked 41 = .ok (.aload_n 0, 1) := by decide +kernel
theorem dX8_provoked_42 : decode cX8_provoked 42 = .ok (.getfield 105, 3) := by decide +kernel
theorem dX8_provoked_45 : decode cX8_provoked 45 = .ok (.if_icmp .ge 81, 3) := by decide +kernel
theorem dX8_provoked_48 : decode cX8_provoked 48 = .ok (.iconst 0, 1) := by decide +kernel
theorem dX8_provoked_49 : decode cX8_provoked 49 = .ok (.istore 5, 2) := by decide +kernel
theorem dX8_provoked_51 : decode cX8_provoked 51 = .ok (.iload 5, 2) := by decide +kernel
theorem dX8_provoked_53 : decode cX8_provoked 53 = .ok (.aload_n 0, 1) := by decide +kernel
theorem dX8_provoked_54 : decode cX8_provoked 54 = .ok (.getfield 105, 3) := by decide +kernel
theorem dX8_provoked_57 : decode cX8_provoked 57 = .ok (.if_icmp .ge 63, 3) := by decide +kernel
theorem dX8_provoked_60 : decode cX8_provoked 60 = .ok (.iconst 1, 1) := by decide +kernel
theorem dX8_provoked_61 : decode cX8_provoked 61 = .ok (.istore 6, 2) := by decide +kernel
theorem dX8_provoked_63 : decode cX8_provoked 63 = .ok (.iload 6, 2) := by decide +kernel
theorem dX8_provoked_65 : decode cX8_provoked 65 = .ok (.bipush 9, 2) := by decide +kernel
theorem dX8_provoked_67 : decode cX8_provoked 67 = .ok (.if_icmp .gt 47, 3) := by decide +kernel
theorem dX8_provoked_70 : decode cX8_provoked 70 = .ok (.iload 4, 2) := by decide +kernel
theorem dX8_provoked_72 : decode cX8_provoked 72 = .ok (.iload 5, 2) := by decide +kernel
theorem dX8_provoked_74 : decode cX8_provoked 74 = .ok (.if_icmp .eq 40, 3) := by decide +kernel
theorem dX8_provoked_77 : decode cX8_provoked 77 = .ok (.aload_n 0, 1) := by decide +kernel
theorem dX8_provoked_78 : decode cX8_provoked 78 = .ok (.iload 4, 2) := by decide +kernel
theorem dX8_provoked_80 : decode cX8_provoked 80 = .ok (.iload 5, 2) := by decide +kernel
theorem dX8_provoked_82 : decode cX8_provoked 82 = .ok (.iload 6, 2) := by decide +kernel
theorem dX8_provoked_84 : decode cX8_provoked 84 = .ok (.iload_n 1, 1) := by decide +kernel
theorem dX8_provoked_85 : decode cX8_provoked 85 = .ok (.iload_n 2, 1) := by decide +kernel
theorem dX8_provoked_86 : decode cX8_provoked 86 = .ok (.iload_n 3, 1) := by decide +kernel
theorem dX8_provoked_87 : decode cX8_provoked 87 = .ok (.invokevirtual 211, 3) := by decide +kernel
theorem dX8_provoked_90 : decode cX8_provoked 90 = .ok (.ifCond .eq 18, 3) := by decide +kernel
theorem dX8_provoked_93 : decode cX8_provoked 93 = .ok (.bipush 100, 2) := by decide +kernel
theorem dX8_provoked_95 : decode cX8_provoked 95 = .ok (.iload 4, 2) := by decide +kernel
theorem dX8_provoked_97 : decode cX8_provoked 97 = .ok (.imul, 1) := by decide +kernel
theorem dX8_provoked_98 : decode cX8_provoked 98 = .ok (.bipush 10, 2) := by decide +kernel
theorem dX8_provoked_100 : decode cX8_provoked 100 = .ok (.iload 5, 2) := by decide +kernel
theorem dX8_provoked_102 : decode cX8_provoked 102 = .ok (.imul, 1) := by decide +kernel
theorem dX8_provoked_103 : decode cX8_provoked 103 = .ok (.iadd, 1) := by decide +kernel
theorem dX8_provoked_104 : decode cX8_provoked 104 = .ok (.iload 6, 2) := by decide +kernel
theorem dX8_provoked_106 : decode cX8_provoked 106 = .ok (.iadd, 1) := by decide +kernel
theorem dX8_provoked_107 : decode cX8_provoked 107 = .ok (.ireturn, 1) := by decide +kernel
theorem dX8_provoked_108 : decode cX8_provoked 108 = .ok (.iinc 6 1, 3) := by decide +kernel
theorem dX8_provoked_111 : decode cX8_provoked 111 = .ok (.goto (-48), 3) := by decide +kernel
theorem dX8_provoked_114 : decode cX8_provoked 114 = .ok (.iinc 5 1, 3) := by decide +kernel
theorem dX8_provoked_117 : decode cX8_provoked 117 = .ok (.goto (-66), 3) := by decide +kernel
theorem dX8_provoked_120 : decode cX8_provoked 120 = .ok (.iinc 4 1, 3) := by decide +kernel
theorem dX8_provoked_123 : decode cX8_provoked 123 = .ok (.goto (-84), 3) := by decide +kernel
theorem dX8_provoked_126 : decode cX8_provoked 126 = .ok (.bipush (-9), 2) := by decide +kernel
theorem dX8_provoked_128 : decode cX8_provoked 128 = .ok (.ireturn, 1) := by decide +kernel
theorem dX8_inLeastTerms_0 : decode cX8_inLeastTerms 0 = .ok (.lload_n 0, 1) := by decide +kernel
theorem dX8_inLeastTerms_1 : decode cX8_inLeastTerms 1 = .ok (.lstore 5, 2) := by decide +kernel
theorem dX8_inLeastTerms_3 : decode cX8_inLeastTerms 3 = .ok (.lload_n 2, 1) := by decide +kernel
theorem dX8_inLeastTerms_4 : decode cX8_inLeastTerms 4 = .ok (.lstore 7, 2) := by decide +kernel
theorem dX8_inLeastTerms_6 : decode cX8_inLeastTerms 6 = .ok (.lload 7, 2) := by decide +kernel
theorem dX8_inLeastTerms_8 : decode cX8_inLeastTerms 8 = .ok (.lconst 0, 1) := by decide +kernel
theorem dX8_inLeastTerms_9 : decode cX8_inLeastTerms 9 = .ok (.lcmp, 1) := by decide +kernel
theorem dX8_inLeastTerms_10 : decode cX8_inLeastTerms 10 = .ok (.ifCond .eq 21, 3) := by decide +kernel
theorem dX8_inLeastTerms_13 : decode cX8_inLeastTerms 13 = .ok (.lload 5, 2) := by decide +kernel
theorem dX8_inLeastTerms_15 : decode cX8_inLeastTerms 15 = .ok (.lload 7, 2) := by decide +kernel
theorem dX8_inLeastTerms_17 : decode cX8_inLeastTerms 17 = .ok (.lrem, 1) := by decide +kernel
theorem dX8_inLeastTerms_18 : decode cX8_inLeastTerms 18 = .ok (.lstore 9, 2) := by decide +kernel
theorem dX8_inLeastTerms_20 : decode cX8_inLeastTerms 20 = .ok (.lload 7, 2) := by decide +kernel
theorem dX8_inLeastTerms_22 : decode cX8_inLeastTerms 22 = .ok (.lstore 5, 2) := by decide +kernel
theorem dX8_inLeastTerms_24 : decode cX8_inLeastTerms 24 = .ok (.lload 9, 2) := by decide +kernel
theorem dX8_inLeastTerms_26 : decode cX8_inLeastTerms 26 = .ok (.lstore 7, 2) := by decide +kernel
theorem dX8_inLeastTerms_28 : decode cX8_inLeastTerms 28 = .ok (.goto (-22), 3) := by decide +kernel
theorem dX8_inLeastTerms_31 : decode cX8_inLeastTerms 31 = .ok (.iload 4, 2) := by decide +kernel
theorem dX8_inLeastTerms_33 : decode cX8_inLeastTerms 33 = .ok (.ifCond .ne 10, 3) := by decide +kernel
theorem dX8_inLeastTerms_36 : decode cX8_inLeastTerms 36 = .ok (.lload_n 0, 1) := by decide +kernel
theorem dX8_inLeastTerms_37 : decode cX8_inLeastTerms 37 = .ok (.lload 5, 2) := by decide +kernel
theorem dX8_inLeastTerms_39 : decode cX8_inLeastTerms 39 = .ok (.ldiv, 1) := by decide +kernel
theorem dX8_inLeastTerms_40 : decode cX8_inLeastTerms 40 = .ok (.goto 7, 3) := by decide +kernel
theorem dX8_inLeastTerms_43 : decode cX8_inLeastTerms 43 = .ok (.lload_n 2, 1) := by decide +kernel
theorem dX8_inLeastTerms_44 : decode cX8_inLeastTerms 44 = .ok (.lload 5, 2) := by decide +kernel
theorem dX8_inLeastTerms_46 : decode cX8_inLeastTerms 46 = .ok (.ldiv, 1) := by decide +kernel
theorem dX8_inLeastTerms_47 : decode cX8_inLeastTerms 47 = .ok (.lreturn, 1) := by decide +kernel
theorem dX8_wasHurt_0 : decode cX8_wasHurt 0 = .ok (.iconst 0, 1) := by decide +kernel
theorem dX8_wasHurt_1 : decode cX8_wasHurt 1 = .ok (.istore_n 2, 1) := by decide +kernel
theorem dX8_wasHurt_2 : decode cX8_wasHurt 2 = .ok (.iload_n 2, 1) := by decide +kernel
theorem dX8_wasHurt_3 : decode cX8_wasHurt 3 = .ok (.aload_n 0, 1) := by decide +kernel
theorem dX8_wasHurt_4 : decode cX8_wasHurt 4 = .ok (.getfield 165, 3) := by decide +kernel
theorem dX8_wasHurt_7 : decode cX8_wasHurt 7 = .ok (.if_icmp .ge 21, 3) := by decide +kernel
theorem dX8_wasHurt_10 : decode cX8_wasHurt 10 = .ok (.aload_n 0, 1) := by decide +kernel
theorem dX8_wasHurt_11 : decode cX8_wasHurt 11 = .ok (.getfield 83, 3) := by decide +kernel
theorem dX8_wasHurt_14 : decode cX8_wasHurt 14 = .ok (.iload_n 2, 1) := by decide +kernel
theorem dX8_wasHurt_15 : decode cX8_wasHurt 15 = .ok (.iaload, 1) := by decide +kernel
theorem dX8_wasHurt_16 : decode cX8_wasHurt 16 = .ok (.iload_n 1, 1) := by decide +kernel
theorem dX8_wasHurt_17 : decode cX8_wasHurt 17 = .ok (.if_icmp .ne 5, 3) := by decide +kernel
theorem dX8_wasHurt_20 : decode cX8_wasHurt 20 = .ok (.iconst 1, 1) := by decide +kernel
theorem dX8_wasHurt_21 : decode cX8_wasHurt 21 = .ok (.ireturn, 1) := by decide +kernel
theorem dX8_wasHurt_22 : decode cX8_wasHurt 22 = .ok (.iinc 2 1, 3) := by decide +kernel
theorem dX8_wasHurt_25 : decode cX8_wasHurt 25 = .ok (.goto (-23), 3) := by decide +kernel
theorem dX8_wasHurt_28 : decode cX8_wasHurt 28 = .ok (.iconst 0, 1) := by decide +kernel
theorem dX8_wasHurt_29 : decode cX8_wasHurt 29 = .ok (.ireturn, 1) := by decide +kernel
theorem dX8_odds_0 : decode cX8_odds 0 = .ok (.aload_n 0, 1) := by decide +kernel
theorem dX8_odds_1 : decode cX8_odds 1 = .ok (.iload_n 1, 1) := by decide +kernel
theorem dX8_odds_2 : decode cX8_odds 2 = .ok (.invokevirtual 145, 3) := by decide +kernel
theorem dX8_odds_5 : decode cX8_odds 5 = .ok (.ifCond .eq 19, 3) := by decide +kernel
theorem dX8_odds_8 : decode cX8_odds 8 = .ok (.iload_n 2, 1) := by decide +kernel
theorem dX8_odds_9 : decode cX8_odds 9 = .ok (.invokestatic 195, 3) := by decide +kernel
theorem dX8_odds_12 : decode cX8_odds 12 = .ok (.ifCond .eq 12, 3) := by decide +kernel
theorem dX8_odds_15 : decode cX8_odds 15 = .ok (.iload_n 3, 1) := by decide +kernel
theorem dX8_odds_16 : decode cX8_odds 16 = .ok (.iconst 0, 1) := by decide +kernel
theorem dX8_odds_17 : decode cX8_odds 17 = .ok (.iconst 1, 1) := by decide +kernel
theorem dX8_odds_18 : decode cX8_odds 18 = .ok (.invokestatic 101, 3) := by decide +kernel
theorem dX8_odds_21 : decode cX8_odds 21 = .ok (.ifCond .ne 7, 3) := by decide +kernel
theorem dX8_odds_24 : decode cX8_odds 24 = .ok (.ldc2_w 99, 3) := by decide +kernel
theorem dX8_odds_27 : decode cX8_odds 27 = .ok (.lreturn, 1) := by decide +kernel
theorem dX8_odds_28 : decode cX8_odds 28 = .ok (.iconst 0, 1) := by decide +kernel
theorem dX8_odds_29 : decode cX8_odds 29 = .ok (.istore 4, 2) := by decide +kernel
theorem dX8_odds_31 : decode cX8_odds 31 = .ok (.iconst 0, 1) := by decide +kernel
theorem dX8_odds_32 : decode cX8_odds 32 = .ok (.istore 5, 2) := by decide +kernel
theorem dX8_odds_34 : decode cX8_odds 34 = .ok (.iload 5, 2) := by decide +kernel
theorem dX8_odds_36 : decode cX8_odds 36 = .ok (.iconst 1, 1) := by decide +kernel
theorem dX8_odds_37 : decode cX8_odds 37 = .ok (.aload_n 0, 1) := by decide +kernel
theorem dX8_odds_38 : decode cX8_odds 38 = .ok (.getfield 132, 3) := by decide +kernel
theorem dX8_odds_41 : decode cX8_odds 41 = .ok (.ishl, 1) := by decide +kernel
theorem dX8_odds_42 : decode cX8_odds 42 = .ok (.if_icmp .ge 40, 3) := by decide +kernel
theorem dX8_odds_45 : decode cX8_odds 45 = .ok (.aload_n 0, 1) := by decide +kernel
theorem dX8_odds_46 : decode cX8_odds 46 = .ok (.iload 5, 2) := by decide +kernel
theorem dX8_odds_48 : decode cX8_odds 48 = .ok (.putfield 181, 3) := by decide +kernel
theorem dX8_odds_51 : decode cX8_odds 51 = .ok (.aload_n 0, 1) := by decide +kernel
theorem dX8_odds_52 : decode cX8_odds 52 = .ok (.iload_n 2, 1) := by decide +kernel
theorem dX8_odds_53 : decode cX8_odds 53 = .ok (.iconst 1, 1) := by decide +kernel
theorem dX8_odds_54 : decode cX8_odds 54 = .ok (.iadd, 1) := by decide +kernel
theorem dX8_odds_55 : decode cX8_odds 55 = .ok (.invokevirtual 198, 3) := by decide +kernel
theorem dX8_odds_58 : decode cX8_odds 58 = .ok (.iload 4, 2) := by decide +kernel
theorem dX8_odds_60 : decode cX8_odds 60 = .ok (.aload_n 0, 1) := by decide +kernel
theorem dX8_odds_61 : decode cX8_odds 61 = .ok (.iload_n 1, 1) := by decide +kernel
theorem dX8_odds_62 : decode cX8_odds 62 = .ok (.invokevirtual 215, 3) := by decide +kernel
theorem dX8_odds_65 : decode cX8_odds 65 = .ok (.ifCond .eq 7, 3) := by decide +kernel
theorem dX8_odds_68 : decode cX8_odds 68 = .ok (.iconst 1, 1) := by decide +kernel
theorem dX8_odds_69 : decode cX8_odds 69 = .ok (.goto 4, 3) := by decide +kernel
theorem dX8_odds_72 : decode cX8_odds 72 = .ok (.iconst 0, 1) := by decide +kernel
theorem dX8_odds_73 : decode cX8_odds 73 = .ok (.iadd, 1) := by decide +kernel
theorem dX8_odds_74 : decode cX8_odds 74 = .ok (.istore 4, 2) := by decide +kernel
theorem dX8_odds_76 : decode cX8_odds 76 = .ok (.iinc 5 1, 3) := by decide +kernel
theorem dX8_odds_79 : decode cX8_odds 79 = .ok (.goto (-45), 3) := by decide +kernel
theorem dX8_odds_82 : decode cX8_odds 82 = .ok (.aload_n 0, 1) := by decide +kernel
theorem dX8_odds_83 : decode cX8_odds 83 = .ok (.iconst 0, 1) := by decide +kernel
theorem dX8_odds_84 : decode cX8_odds 84 = .ok (.putfield 181, 3) := by decide +kernel
theorem dX8_odds_87 : decode cX8_odds 87 = .ok (.iload 4, 2) := by decide +kernel
theorem dX8_odds_89 : decode cX8_odds 89 = .ok (.i2l, 1) := by decide +kernel
theorem dX8_odds_90 : decode cX8_odds 90 = .ok (.lconst 1, 1) := by decide +kernel
theorem dX8_odds_91 : decode cX8_odds 91 = .ok (.aload_n 0, 1) := by decide +kernel
theorem dX8_odds_92 : decode cX8_odds 92 = .ok (.getfield 132, 3) := by decide +kernel
theorem dX8_odds_95 : decode cX8_odds 95 = .ok (.lshl, 1) := by decide +kernel
theorem dX8_odds_96 : decode cX8_odds 96 = .ok (.iload_n 3, 1) := by decide +kernel
theorem dX8_odds_97 : decode cX8_odds 97 = .ok (.invokestatic 218, 3) := by decide +kernel
theorem dX8_odds_100 : decode cX8_odds 100 = .ok (.lreturn, 1) := by decide +kernel
theorem dX8_reading_0 : decode cX8_reading 0 = .ok (.aload_n 0, 1) := by decide +kernel
theorem dX8_reading_1 : decode cX8_reading 1 = .ok (.iload_n 1, 1) := by decide +kernel
theorem dX8_reading_2 : decode cX8_reading 2 = .ok (.invokevirtual 145, 3) := by decide +kernel
theorem dX8_reading_5 : decode cX8_reading 5 = .ok (.ifCond .ne 5, 3) := by decide +kernel
theorem dX8_reading_8 : decode cX8_reading 8 = .ok (.iconst (-1), 1) := by decide +kernel
theorem dX8_reading_9 : decode cX8_reading 9 = .ok (.ireturn, 1) := by decide +kernel
theorem dX8_reading_10 : decode cX8_reading 10 = .ok (.iload_n 2, 1) := by decide +kernel
theorem dX8_reading_11 : decode cX8_reading 11 = .ok (.invokestatic 195, 3) := by decide +kernel
theorem dX8_reading_14 : decode cX8_reading 14 = .ok (.ifCond .ne 6, 3) := by decide +kernel
theorem dX8_reading_17 : decode cX8_reading 17 = .ok (.bipush (-2), 2) := by decide +kernel
theorem dX8_reading_19 : decode cX8_reading 19 = .ok (.ireturn, 1) := by decide +kernel
theorem dX8_reading_20 : decode cX8_reading 20 = .ok (.aload_n 0, 1) := by decide +kernel
theorem dX8_reading_21 : decode cX8_reading 21 = .ok (.getfield 135, 3) := by decide +kernel
theorem dX8_reading_24 : decode cX8_reading 24 = .ok (.bipush 8, 2) := by decide +kernel
theorem dX8_reading_26 : decode cX8_reading 26 = .ok (.if_icmp .ne 6, 3) := by decide +kernel
theorem dX8_reading_29 : decode cX8_reading 29 = .ok (.bipush (-4), 2) := by decide +kernel
theorem dX8_reading_31 : decode cX8_reading 31 = .ok (.ireturn, 1) := by decide +kernel
theorem dX8_reading_32 : decode cX8_reading 32 = .ok (.aload_n 0, 1) := by decide +kernel
theorem dX8_reading_33 : decode cX8_reading 33 = .ok (.getfield 86, 3) := by decide +kernel
theorem dX8_reading_36 : decode cX8_reading 36 = .ok (.aload_n 0, 1) := by decide +kernel
theorem dX8_reading_37 : decode cX8_reading 37 = .ok (.getfield 135, 3) := by decide +kernel
theorem dX8_reading_40 : decode cX8_reading 40 = .ok (.iload_n 1, 1) := by decide +kernel
theorem dX8_reading_41 : decode cX8_reading 41 = .ok (.iastore, 1) := by decide +kernel
theorem dX8_reading_42 : decode cX8_reading 42 = .ok (.aload_n 0, 1) := by decide +kernel
theorem dX8_reading_43 : decode cX8_reading 43 = .ok (.getfield 89, 3) := by decide +kernel
theorem dX8_reading_46 : decode cX8_reading 46 = .ok (.aload_n 0, 1) := by decide +kernel
theorem dX8_reading_47 : decode cX8_reading 47 = .ok (.getfield 135, 3) := by decide +kernel
theorem dX8_reading_50 : decode cX8_reading 50 = .ok (.iload_n 2, 1) := by decide +kernel
theorem dX8_reading_51 : decode cX8_reading 51 = .ok (.iastore, 1) := by decide +kernel
theorem dX8_reading_52 : decode cX8_reading 52 = .ok (.aload_n 0, 1) := by decide +kernel
theorem dX8_reading_53 : decode cX8_reading 53 = .ok (.getfield 92, 3) := by decide +kernel
theorem dX8_reading_56 : decode cX8_reading 56 = .ok (.aload_n 0, 1) := by decide +kernel
theorem dX8_reading_57 : decode cX8_reading 57 = .ok (.getfield 135, 3) := by decide +kernel
theorem dX8_reading_60 : decode cX8_reading 60 = .ok (.iload_n 3, 1) := by decide +kernel
theorem dX8_reading_61 : decode cX8_reading 61 = .ok (.bastore, 1) := by decide +kernel
theorem dX8_reading_62 : decode cX8_reading 62 = .ok (.aload_n 0, 1) := by decide +kernel
theorem dX8_reading_63 : decode cX8_reading 63 = .ok (.dup, 1) := by decide +kernel
theorem dX8_reading_64 : decode cX8_reading 64 = .ok (.getfield 135, 3) := by decide +kernel
theorem dX8_reading_67 : decode cX8_reading 67 = .ok (.iconst 1, 1) := by decide +kernel
theorem dX8_reading_68 : decode cX8_reading 68 = .ok (.iadd, 1) := by decide +kernel
theorem dX8_reading_69 : decode cX8_reading 69 = .ok (.putfield 135, 3) := by decide +kernel
theorem dX8_reading_72 : decode cX8_reading 72 = .ok (.aload_n 0, 1) := by decide +kernel
theorem dX8_reading_73 : decode cX8_reading 73 = .ok (.getfield 135, 3) := by decide +kernel
theorem dX8_reading_76 : decode cX8_reading 76 = .ok (.iconst 1, 1) := by decide +kernel
theorem dX8_reading_77 : decode cX8_reading 77 = .ok (.isub, 1) := by decide +kernel
theorem dX8_reading_78 : decode cX8_reading 78 = .ok (.ireturn, 1) := by decide +kernel
theorem dX8_back_0 : decode cX8_back 0 = .ok (.iload_n 1, 1) := by decide +kernel
theorem dX8_back_1 : decode cX8_back 1 = .ok (.iconst 0, 1) := by decide +kernel
theorem dX8_back_2 : decode cX8_back 2 = .ok (.aload_n 0, 1) := by decide +kernel
theorem dX8_back_3 : decode cX8_back 3 = .ok (.getfield 135, 3) := by decide +kernel
theorem dX8_back_6 : decode cX8_back 6 = .ok (.invokestatic 101, 3) := by decide +kernel
theorem dX8_back_9 : decode cX8_back 9 = .ok (.ifCond .ne 6, 3) := by decide +kernel
theorem dX8_back_12 : decode cX8_back 12 = .ok (.bipush (-2), 2) := by decide +kernel
theorem dX8_back_14 : decode cX8_back 14 = .ok (.ireturn, 1) := by decide +kernel
theorem dX8_back_15 : decode cX8_back 15 = .ok (.aload_n 0, 1) := by decide +kernel
theorem dX8_back_16 : decode cX8_back 16 = .ok (.dup, 1) := by decide +kernel
theorem dX8_back_17 : decode cX8_back 17 = .ok (.getfield 135, 3) := by decide +kernel
theorem dX8_back_20 : decode cX8_back 20 = .ok (.iload_n 1, 1) := by decide +kernel
theorem dX8_back_21 : decode cX8_back 21 = .ok (.isub, 1) := by decide +kernel
theorem dX8_back_22 : decode cX8_back 22 = .ok (.putfield 135, 3) := by decide +kernel
theorem dX8_back_25 : decode cX8_back 25 = .ok (.aload_n 0, 1) := by decide +kernel
theorem dX8_back_26 : decode cX8_back 26 = .ok (.getfield 135, 3) := by decide +kernel
theorem dX8_back_29 : decode cX8_back 29 = .ok (.ireturn, 1) := by decide +kernel
theorem dX8_wasIn_0 : decode cX8_wasIn 0 = .ok (.iconst 0, 1) := by decide +kernel
theorem dX8_wasIn_1 : decode cX8_wasIn 1 = .ok (.istore_n 3, 1) := by decide +kernel
theorem dX8_wasIn_2 : decode cX8_wasIn 2 = .ok (.iload_n 3, 1) := by decide +kernel
theorem dX8_wasIn_3 : decode cX8_wasIn 3 = .ok (.aload_n 0, 1) := by decide +kernel
theorem dX8_wasIn_4 : decode cX8_wasIn 4 = .ok (.getfield 165, 3) := by decide +kernel
theorem dX8_wasIn_7 : decode cX8_wasIn 7 = .ok (.if_icmp .ge 41, 3) := by decide +kernel
theorem dX8_wasIn_10 : decode cX8_wasIn 10 = .ok (.aload_n 0, 1) := by decide +kernel
theorem dX8_wasIn_11 : decode cX8_wasIn 11 = .ok (.getfield 68, 3) := by decide +kernel
theorem dX8_wasIn_14 : decode cX8_wasIn 14 = .ok (.iload_n 3, 1) := by decide +kernel
theorem dX8_wasIn_15 : decode cX8_wasIn 15 = .ok (.iaload, 1) := by decide +kernel
theorem dX8_wasIn_16 : decode cX8_wasIn 16 = .ok (.iload_n 2, 1) := by decide +kernel
theorem dX8_wasIn_17 : decode cX8_wasIn 17 = .ok (.if_icmp .ne 25, 3) := by decide +kernel
theorem dX8_wasIn_20 : decode cX8_wasIn 20 = .ok (.aload_n 0, 1) := by decide +kernel
theorem dX8_wasIn_21 : decode cX8_wasIn 21 = .ok (.getfield 71, 3) := by decide +kernel
theorem dX8_wasIn_24 : decode cX8_wasIn 24 = .ok (.iload_n 3, 1) := by decide +kernel
theorem dX8_wasIn_25 : decode cX8_wasIn 25 = .ok (.iaload, 1) := by decide +kernel
theorem dX8_wasIn_26 : decode cX8_wasIn 26 = .ok (.iload_n 1, 1) := by decide +kernel
theorem dX8_wasIn_27 : decode cX8_wasIn 27 = .ok (.if_icmp .eq 13, 3) := by decide +kernel
theorem dX8_wasIn_30 : decode cX8_wasIn 30 = .ok (.aload_n 0, 1) := by decide +kernel
theorem dX8_wasIn_31 : decode cX8_wasIn 31 = .ok (.getfield 74, 3) := by decide +kernel
theorem dX8_wasIn_34 : decode cX8_wasIn 34 = .ok (.iload_n 3, 1) := by decide +kernel
theorem dX8_wasIn_35 : decode cX8_wasIn 35 = .ok (.iaload, 1) := by decide +kernel
theorem dX8_wasIn_36 : decode cX8_wasIn 36 = .ok (.iload_n 1, 1) := by decide +kernel
theorem dX8_wasIn_37 : decode cX8_wasIn 37 = .ok (.if_icmp .ne 5, 3) := by decide +kernel
theorem dX8_wasIn_40 : decode cX8_wasIn 40 = .ok (.iconst 1, 1) := by decide +kernel
theorem dX8_wasIn_41 : decode cX8_wasIn 41 = .ok (.ireturn, 1) := by decide +kernel
theorem dX8_wasIn_42 : decode cX8_wasIn 42 = .ok (.iinc 3 1, 3) := by decide +kernel
theorem dX8_wasIn_45 : decode cX8_wasIn 45 = .ok (.goto (-43), 3) := by decide +kernel
theorem dX8_wasIn_48 : decode cX8_wasIn 48 = .ok (.iconst 0, 1) := by decide +kernel
theorem dX8_wasIn_49 : decode cX8_wasIn 49 = .ok (.ireturn, 1) := by decide +kernel
theorem dX8_areSo_0 : decode cX8_areSo 0 = .ok (.aload_n 0, 1) := by decide +kernel
theorem dX8_areSo_1 : decode cX8_areSo 1 = .ok (.bipush 60, 2) := by decide +kernel
theorem dX8_areSo_3 : decode cX8_areSo 3 = .ok (.invokevirtual 198, 3) := by decide +kernel
theorem dX8_areSo_6 : decode cX8_areSo 6 = .ok (.iconst 0, 1) := by decide +kernel
theorem dX8_areSo_7 : decode cX8_areSo 7 = .ok (.istore_n 1, 1) := by decide +kernel
theorem dX8_areSo_8 : decode cX8_areSo 8 = .ok (.iload_n 1, 1) := by decide +kernel
theorem dX8_areSo_9 : decode cX8_areSo 9 = .ok (.aload_n 0, 1) := by decide +kernel
theorem dX8_areSo_10 : decode cX8_areSo 10 = .ok (.getfield 135, 3) := by decide +kernel
theorem dX8_areSo_13 : decode cX8_areSo 13 = .ok (.if_icmp .ge 36, 3) := by decide +kernel
theorem dX8_areSo_16 : decode cX8_areSo 16 = .ok (.aload_n 0, 1) := by decide +kernel
theorem dX8_areSo_17 : decode cX8_areSo 17 = .ok (.aload_n 0, 1) := by decide +kernel
theorem dX8_areSo_18 : decode cX8_areSo 18 = .ok (.getfield 86, 3) := by decide +kernel
theorem dX8_areSo_21 : decode cX8_areSo 21 = .ok (.iload_n 1, 1) := by decide +kernel
theorem dX8_areSo_22 : decode cX8_areSo 22 = .ok (.iaload, 1) := by decide +kernel
theorem dX8_areSo_23 : decode cX8_areSo 23 = .ok (.aload_n 0, 1) := by decide +kernel
theorem dX8_areSo_24 : decode cX8_areSo 24 = .ok (.getfield 89, 3) := by decide +kernel
theorem dX8_areSo_27 : decode cX8_areSo 27 = .ok (.iload_n 1, 1) := by decide +kernel
theorem dX8_areSo_28 : decode cX8_areSo 28 = .ok (.iaload, 1) := by decide +kernel
theorem dX8_areSo_29 : decode cX8_areSo 29 = .ok (.invokevirtual 222, 3) := by decide +kernel
theorem dX8_areSo_32 : decode cX8_areSo 32 = .ok (.aload_n 0, 1) := by decide +kernel
theorem dX8_areSo_33 : decode cX8_areSo 33 = .ok (.getfield 92, 3) := by decide +kernel
theorem dX8_areSo_36 : decode cX8_areSo 36 = .ok (.iload_n 1, 1) := by decide +kernel
theorem dX8_areSo_37 : decode cX8_areSo 37 = .ok (.baload, 1) := by decide +kernel
theorem dX8_areSo_38 : decode cX8_areSo 38 = .ok (.if_icmp .eq 5, 3) := by decide +kernel
theorem dX8_areSo_41 : decode cX8_areSo 41 = .ok (.iconst 0, 1) := by decide +kernel
theorem dX8_areSo_42 : decode cX8_areSo 42 = .ok (.ireturn, 1) := by decide +kernel
theorem dX8_areSo_43 : decode cX8_areSo 43 = .ok (.iinc 1 1, 3) := by decide +kernel
theorem dX8_areSo_46 : decode cX8_areSo 46 = .ok (.goto (-38), 3) := by decide +kernel
theorem dX8_areSo_49 : decode cX8_areSo 49 = .ok (.iconst 1, 1) := by decide +kernel
theorem dX8_areSo_50 : decode cX8_areSo 50 = .ok (.ireturn, 1) := by decide +kernel
theorem dX8_never_0 : decode cX8_never 0 = .ok (.aload_n 0, 1) := by decide +kernel
theorem dX8_never_1 : decode cX8_never 1 = .ok (.getfield 105, 3) := by decide +kernel
theorem dX8_never_4 : decode cX8_never 4 = .ok (.ifCond .ne 6, 3) := by decide +kernel
theorem dX8_never_7 : decode cX8_never 7 = .ok (.bipush (-3), 2) := by decide +kernel
theorem dX8_never_9 : decode cX8_never 9 = .ok (.ireturn, 1) := by decide +kernel
theorem dX8_never_10 : decode cX8_never 10 = .ok (.iconst 0, 1) := by decide +kernel
theorem dX8_never_11 : decode cX8_never 11 = .ok (.istore_n 1, 1) := by decide +kernel
theorem dX8_never_12 : decode cX8_never 12 = .ok (.iconst 0, 1) := by decide +kernel
theorem dX8_never_13 : decode cX8_never 13 = .ok (.istore_n 2, 1) := by decide +kernel
theorem dX8_never_14 : decode cX8_never 14 = .ok (.iload_n 2, 1) := by decide +kernel
theorem dX8_never_15 : decode cX8_never 15 = .ok (.aload_n 0, 1) := by decide +kernel
theorem dX8_never_16 : decode cX8_never 16 = .ok (.getfield 132, 3) := by decide +kernel
theorem dX8_never_19 : decode cX8_never 19 = .ok (.if_icmp .ge 33, 3) := by decide +kernel
theorem dX8_never_22 : decode cX8_never 22 = .ok (.aload_n 0, 1) := by decide +kernel
theorem dX8_never_23 : decode cX8_never 23 = .ok (.iconst 1, 1) := by decide +kernel
theorem dX8_never_24 : decode cX8_never 24 = .ok (.iload_n 2, 1) := by decide +kernel
theorem dX8_never_25 : decode cX8_never 25 = .ok (.ishl, 1) := by decide +kernel
theorem dX8_never_26 : decode cX8_never 26 = .ok (.putfield 181, 3) := by decide +kernel
theorem dX8_never_29 : decode cX8_never 29 = .ok (.iload_n 1, 1) := by decide +kernel
theorem dX8_never_30 : decode cX8_never 30 = .ok (.aload_n 0, 1) := by decide +kernel
theorem dX8_never_31 : decode cX8_never 31 = .ok (.invokevirtual 225, 3) := by decide +kernel
theorem dX8_never_34 : decode cX8_never 34 = .ok (.ifCond .eq 9, 3) := by decide +kernel
theorem dX8_never_37 : decode cX8_never 37 = .ok (.iconst 1, 1) := by decide +kernel
theorem dX8_never_38 : decode cX8_never 38 = .ok (.iload_n 2, 1) := by decide +kernel
theorem dX8_never_39 : decode cX8_never 39 = .ok (.ishl, 1) := by decide +kernel
theorem dX8_never_40 : decode cX8_never 40 = .ok (.goto 4, 3) := by decide +kernel
theorem dX8_never_43 : decode cX8_never 43 = .ok (.iconst 0, 1) := by decide +kernel
theorem dX8_never_44 : decode cX8_never 44 = .ok (.ior, 1) := by decide +kernel
theorem dX8_never_45 : decode cX8_never 45 = .ok (.istore_n 1, 1) := by decide +kernel
theorem dX8_never_46 : decode cX8_never 46 = .ok (.iinc 2 1, 3) := by decide +kernel
theorem dX8_never_49 : decode cX8_never 49 = .ok (.goto (-35), 3) := by decide +kernel
theorem dX8_never_52 : decode cX8_never 52 = .ok (.aload_n 0, 1) := by decide +kernel
theorem dX8_never_53 : decode cX8_never 53 = .ok (.iconst 0, 1) := by decide +kernel
theorem dX8_never_54 : decode cX8_never 54 = .ok (.putfield 181, 3) := by decide +kernel
theorem dX8_never_57 : decode cX8_never 57 = .ok (.iload_n 1, 1) := by decide +kernel
theorem dX8_never_58 : decode cX8_never 58 = .ok (.ireturn, 1) := by decide +kernel
theorem dX8_caught_0 : decode cX8_caught 0 = .ok (.aload_n 0, 1) := by decide +kernel
theorem dX8_caught_1 : decode cX8_caught 1 = .ok (.getfield 105, 3) := by decide +kernel
theorem dX8_caught_4 : decode cX8_caught 4 = .ok (.ifCond .ne 6, 3) := by decide +kernel
theorem dX8_caught_7 : decode cX8_caught 7 = .ok (.bipush (-3), 2) := by decide +kernel
theorem dX8_caught_9 : decode cX8_caught 9 = .ok (.ireturn, 1) := by decide +kernel
theorem dX8_caught_10 : decode cX8_caught 10 = .ok (.iconst 0, 1) := by decide +kernel
theorem dX8_caught_11 : decode cX8_caught 11 = .ok (.istore_n 1, 1) := by decide +kernel
theorem dX8_caught_12 : decode cX8_caught 12 = .ok (.iconst 0, 1) := by decide +kernel
theorem dX8_caught_13 : decode cX8_caught 13 = .ok (.istore_n 2, 1) := by decide +kernel
theorem dX8_caught_14 : decode cX8_caught 14 = .ok (.iload_n 2, 1) := by decide +kernel
theorem dX8_caught_15 : decode cX8_caught 15 = .ok (.aload_n 0, 1) := by decide +kernel
theorem dX8_caught_16 : decode cX8_caught 16 = .ok (.getfield 105, 3) := by decide +kernel
theorem dX8_caught_19 : decode cX8_caught 19 = .ok (.if_icmp .ge 47, 3) := by decide +kernel
theorem dX8_caught_22 : decode cX8_caught 22 = .ok (.aload_n 0, 1) := by decide +kernel
theorem dX8_caught_23 : decode cX8_caught 23 = .ok (.getfield 28, 3) := by decide +kernel
theorem dX8_caught_26 : decode cX8_caught 26 = .ok (.iload_n 2, 1) := by decide +kernel
theorem dX8_caught_27 : decode cX8_caught 27 = .ok (.baload, 1) := by decide +kernel
theorem dX8_caught_28 : decode cX8_caught 28 = .ok (.istore_n 3, 1) := by decide +kernel
theorem dX8_caught_29 : decode cX8_caught 29 = .ok (.aload_n 0, 1) := by decide +kernel
theorem dX8_caught_30 : decode cX8_caught 30 = .ok (.getfield 28, 3) := by decide +kernel
theorem dX8_caught_33 : decode cX8_caught 33 = .ok (.iload_n 2, 1) := by decide +kernel
theorem dX8_caught_34 : decode cX8_caught 34 = .ok (.iconst 1, 1) := by decide +kernel
theorem dX8_caught_35 : decode cX8_caught 35 = .ok (.bastore, 1) := by decide +kernel
theorem dX8_caught_36 : decode cX8_caught 36 = .ok (.iload_n 1, 1) := by decide +kernel
theorem dX8_caught_37 : decode cX8_caught 37 = .ok (.aload_n 0, 1) := by decide +kernel
theorem dX8_caught_38 : decode cX8_caught 38 = .ok (.invokevirtual 225, 3) := by decide +kernel
theorem dX8_caught_41 : decode cX8_caught 41 = .ok (.ifCond .eq 9, 3) := by decide +kernel
theorem dX8_caught_44 : decode cX8_caught 44 = .ok (.iconst 1, 1) := by decide +kernel
theorem dX8_caught_45 : decode cX8_caught 45 = .ok (.iload_n 2, 1) := by decide +kernel
theorem dX8_caught_46 : decode cX8_caught 46 = .ok (.ishl, 1) := by decide +kernel
theorem dX8_caught_47 : decode cX8_caught 47 = .ok (.goto 4, 3) := by decide +kernel
theorem dX8_caught_50 : decode cX8_caught 50 = .ok (.iconst 0, 1) := by decide +kernel
theorem dX8_caught_51 : decode cX8_caught 51 = .ok (.ior, 1) := by decide +kernel
theorem dX8_caught_52 : decode cX8_caught 52 = .ok (.istore_n 1, 1) := by decide +kernel
theorem dX8_caught_53 : decode cX8_caught 53 = .ok (.aload_n 0, 1) := by decide +kernel
theorem dX8_caught_54 : decode cX8_caught 54 = .ok (.getfield 28, 3) := by decide +kernel
theorem dX8_caught_57 : decode cX8_caught 57 = .ok (.iload_n 2, 1) := by decide +kernel
theorem dX8_caught_58 : decode cX8_caught 58 = .ok (.iload_n 3, 1) := by decide +kernel
theorem dX8_caught_59 : decode cX8_caught 59 = .ok (.bastore, 1) := by decide +kernel
theorem dX8_caught_60 : decode cX8_caught 60 = .ok (.iinc 2 1, 3) := by decide +kernel
theorem dX8_caught_63 : decode cX8_caught 63 = .ok (.goto (-49), 3) := by decide +kernel
theorem dX8_caught_66 : decode cX8_caught 66 = .ok (.iload_n 1, 1) := by decide +kernel
theorem dX8_caught_67 : decode cX8_caught 67 = .ok (.ireturn, 1) := by decide +kernel
theorem dX8_row_0 : decode cX8_row 0 = .ok (.aload_n 0, 1) := by decide +kernel
theorem dX8_row_1 : decode cX8_row 1 = .ok (.iconst 0, 1) := by decide +kernel
theorem dX8_row_2 : decode cX8_row 2 = .ok (.putfield 95, 3) := by decide +kernel
theorem dX8_row_5 : decode cX8_row 5 = .ok (.iload_n 1, 1) := by decide +kernel
theorem dX8_row_6 : decode cX8_row 6 = .ok (.invokestatic 111, 3) := by decide +kernel
theorem dX8_row_9 : decode cX8_row 9 = .ok (.ifCond .ne 5, 3) := by decide +kernel
theorem dX8_row_12 : decode cX8_row 12 = .ok (.iconst (-1), 1) := by decide +kernel
theorem dX8_row_13 : decode cX8_row 13 = .ok (.ireturn, 1) := by decide +kernel
theorem dX8_row_14 : decode cX8_row 14 = .ok (.iload_n 2, 1) := by decide +kernel
theorem dX8_row_15 : decode cX8_row 15 = .ok (.invokestatic 115, 3) := by decide +kernel
theorem dX8_row_18 : decode cX8_row 18 = .ok (.ifCond .ne 6, 3) := by decide +kernel
theorem dX8_row_21 : decode cX8_row 21 = .ok (.bipush (-2), 2) := by decide +kernel
theorem dX8_row_23 : decode cX8_row 23 = .ok (.ireturn, 1) := by decide +kernel
theorem dX8_row_24 : decode cX8_row 24 = .ok (.aload_n 0, 1) := by decide +kernel
theorem dX8_row_25 : decode cX8_row 25 = .ok (.iload_n 1, 1) := by decide +kernel
theorem dX8_row_26 : decode cX8_row 26 = .ok (.iload_n 2, 1) := by decide +kernel
theorem dX8_row_27 : decode cX8_row 27 = .ok (.iload_n 3, 1) := by decide +kernel
theorem dX8_row_28 : decode cX8_row 28 = .ok (.iload 4, 2) := by decide +kernel
theorem dX8_row_30 : decode cX8_row 30 = .ok (.invokevirtual 118, 3) := by decide +kernel
theorem dX8_row_33 : decode cX8_row 33 = .ok (.istore 5, 2) := by decide +kernel
theorem dX8_row_35 : decode cX8_row 35 = .ok (.iload 5, 2) := by decide +kernel
theorem dX8_row_37 : decode cX8_row 37 = .ok (.ifCond .eq 10, 3) := by decide +kernel
theorem dX8_row_40 : decode cX8_row 40 = .ok (.aload_n 0, 1) := by decide +kernel
theorem dX8_row_41 : decode cX8_row 41 = .ok (.iload 5, 2) := by decide +kernel
theorem dX8_row_43 : decode cX8_row 43 = .ok (.invokevirtual 122, 3) := by decide +kernel
theorem dX8_row_46 : decode cX8_row 46 = .ok (.ireturn, 1) := by decide +kernel
theorem dX8_row_47 : decode cX8_row 47 = .ok (.aload_n 0, 1) := by decide +kernel
theorem dX8_row_48 : decode cX8_row 48 = .ok (.getfield 105, 3) := by decide +kernel
theorem dX8_row_51 : decode cX8_row 51 = .ok (.ifCond .ne 6, 3) := by decide +kernel
theorem dX8_row_54 : decode cX8_row 54 = .ok (.bipush (-3), 2) := by decide +kernel
theorem dX8_row_56 : decode cX8_row 56 = .ok (.ireturn, 1) := by decide +kernel
theorem dX8_row_57 : decode cX8_row 57 = .ok (.bipush 50, 2) := by decide +kernel
theorem dX8_row_59 : decode cX8_row 59 = .ok (.iload_n 1, 1) := by decide +kernel
theorem dX8_row_60 : decode cX8_row 60 = .ok (.imul, 1) := by decide +kernel
theorem dX8_row_61 : decode cX8_row 61 = .ok (.iload_n 3, 1) := by decide +kernel
theorem dX8_row_62 : decode cX8_row 62 = .ok (.iadd, 1) := by decide +kernel
theorem dX8_row_63 : decode cX8_row 63 = .ok (.istore 6, 2) := by decide +kernel
theorem dX8_row_65 : decode cX8_row 65 = .ok (.iconst 0, 1) := by decide +kernel
theorem dX8_row_66 : decode cX8_row 66 = .ok (.istore 7, 2) := by decide +kernel
theorem dX8_row_68 : decode cX8_row 68 = .ok (.iload 7, 2) := by decide +kernel
theorem dX8_row_70 : decode cX8_row 70 = .ok (.iload 4, 2) := by decide +kernel
theorem dX8_row_72 : decode cX8_row 72 = .ok (.if_icmp .ge 28, 3) := by decide +kernel
theorem dX8_row_75 : decode cX8_row 75 = .ok (.aload_n 0, 1) := by decide +kernel
theorem dX8_row_76 : decode cX8_row 76 = .ok (.aload_n 0, 1) := by decide +kernel
theorem dX8_row_77 : decode cX8_row 77 = .ok (.getfield 16, 3) := by decide +kernel
theorem dX8_row_80 : decode cX8_row 80 = .ok (.iload 6, 2) := by decide +kernel
theorem dX8_row_82 : decode cX8_row 82 = .ok (.iload 7, 2) := by decide +kernel
theorem dX8_row_84 : decode cX8_row 84 = .ok (.iadd, 1) := by decide +kernel
theorem dX8_row_85 : decode cX8_row 85 = .ok (.iaload, 1) := by decide +kernel
theorem dX8_row_86 : decode cX8_row 86 = .ok (.invokevirtual 145, 3) := by decide +kernel
theorem dX8_row_89 : decode cX8_row 89 = .ok (.ifCond .ne 5, 3) := by decide +kernel
theorem dX8_row_92 : decode cX8_row 92 = .ok (.iconst (-1), 1) := by decide +kernel
theorem dX8_row_93 : decode cX8_row 93 = .ok (.ireturn, 1) := by decide +kernel
theorem dX8_row_94 : decode cX8_row 94 = .ok (.iinc 7 1, 3) := by decide +kernel
theorem dX8_row_97 : decode cX8_row 97 = .ok (.goto (-29), 3) := by decide +kernel
theorem dX8_row_100 : decode cX8_row 100 = .ok (.iconst 0, 1) := by decide +kernel
theorem dX8_row_101 : decode cX8_row 101 = .ok (.istore 7, 2) := by decide +kernel
theorem dX8_row_103 : decode cX8_row 103 = .ok (.iload 7, 2) := by decide +kernel
theorem dX8_row_105 : decode cX8_row 105 = .ok (.iload 4, 2) := by decide +kernel
theorem dX8_row_107 : decode cX8_row 107 = .ok (.if_icmp .ge 37, 3) := by decide +kernel
theorem dX8_row_110 : decode cX8_row 110 = .ok (.aload_n 0, 1) := by decide +kernel
theorem dX8_row_111 : decode cX8_row 111 = .ok (.iload 7, 2) := by decide +kernel
theorem dX8_row_113 : decode cX8_row 113 = .ok (.invokevirtual 198, 3) := by decide +kernel
theorem dX8_row_116 : decode cX8_row 116 = .ok (.aload_n 0, 1) := by decide +kernel
theorem dX8_row_117 : decode cX8_row 117 = .ok (.aload_n 0, 1) := by decide +kernel
theorem dX8_row_118 : decode cX8_row 118 = .ok (.getfield 16, 3) := by decide +kernel
theorem dX8_row_121 : decode cX8_row 121 = .ok (.iload 6, 2) := by decide +kernel
theorem dX8_row_123 : decode cX8_row 123 = .ok (.iload 7, 2) := by decide +kernel
theorem dX8_row_125 : decode cX8_row 125 = .ok (.iadd, 1) := by decide +kernel
theorem dX8_row_126 : decode cX8_row 126 = .ok (.iaload, 1) := by decide +kernel
theorem dX8_row_127 : decode cX8_row 127 = .ok (.iload 7, 2) := by decide +kernel
theorem dX8_row_129 : decode cX8_row 129 = .ok (.invokevirtual 158, 3) := by decide +kernel
theorem dX8_row_132 : decode cX8_row 132 = .ok (.ifCond .ne 6, 3) := by decide +kernel
theorem dX8_row_135 : decode cX8_row 135 = .ok (.iload 7, 2) := by decide +kernel
theorem dX8_row_137 : decode cX8_row 137 = .ok (.ireturn, 1) := by decide +kernel
theorem dX8_row_138 : decode cX8_row 138 = .ok (.iinc 7 1, 3) := by decide +kernel
theorem dX8_row_141 : decode cX8_row 141 = .ok (.goto (-38), 3) := by decide +kernel
theorem dX8_row_144 : decode cX8_row 144 = .ok (.iload 4, 2) := by decide +kernel
theorem dX8_row_146 : decode cX8_row 146 = .ok (.ireturn, 1) := by decide +kernel
theorem dX8_sheet_0 : decode cX8_sheet 0 = .ok (.aload_n 0, 1) := by decide +kernel
theorem dX8_sheet_1 : decode cX8_sheet 1 = .ok (.iconst 0, 1) := by decide +kernel
theorem dX8_sheet_2 : decode cX8_sheet 2 = .ok (.putfield 95, 3) := by decide +kernel
theorem dX8_sheet_5 : decode cX8_sheet 5 = .ok (.iload_n 1, 1) := by decide +kernel
theorem dX8_sheet_6 : decode cX8_sheet 6 = .ok (.invokestatic 111, 3) := by decide +kernel
theorem dX8_sheet_9 : decode cX8_sheet 9 = .ok (.ifCond .ne 5, 3) := by decide +kernel
theorem dX8_sheet_12 : decode cX8_sheet 12 = .ok (.iconst (-1), 1) := by decide +kernel
theorem dX8_sheet_13 : decode cX8_sheet 13 = .ok (.ireturn, 1) := by decide +kernel
theorem dX8_sheet_14 : decode cX8_sheet 14 = .ok (.iload_n 2, 1) := by decide +kernel
theorem dX8_sheet_15 : decode cX8_sheet 15 = .ok (.invokestatic 115, 3) := by decide +kernel
theorem dX8_sheet_18 : decode cX8_sheet 18 = .ok (.ifCond .eq 9, 3) := by decide +kernel
theorem dX8_sheet_21 : decode cX8_sheet 21 = .ok (.iload_n 3, 1) := by decide +kernel
theorem dX8_sheet_22 : decode cX8_sheet 22 = .ok (.bipush 50, 2) := by decide +kernel
theorem dX8_sheet_24 : decode cX8_sheet 24 = .ok (.if_icmp .le 6, 3) := by decide +kernel
theorem dX8_sheet_27 : decode cX8_sheet 27 = .ok (.bipush (-2), 2) := by decide +kernel
theorem dX8_sheet_29 : decode cX8_sheet 29 = .ok (.ireturn, 1) := by decide +kernel
theorem dX8_sheet_30 : decode cX8_sheet 30 = .ok (.iload_n 3, 1) := by decide +kernel
theorem dX8_sheet_31 : decode cX8_sheet 31 = .ok (.ifCond .ge 9, 3) := by decide +kernel
theorem dX8_sheet_34 : decode cX8_sheet 34 = .ok (.aload_n 0, 1) := by decide +kernel
theorem dX8_sheet_35 : decode cX8_sheet 35 = .ok (.iconst 4, 1) := by decide +kernel
theorem dX8_sheet_36 : decode cX8_sheet 36 = .ok (.invokevirtual 122, 3) := by decide +kernel
theorem dX8_sheet_39 : decode cX8_sheet 39 = .ok (.ireturn, 1) := by decide +kernel
theorem dX8_sheet_40 : decode cX8_sheet 40 = .ok (.aload_n 0, 1) := by decide +kernel
theorem dX8_sheet_41 : decode cX8_sheet 41 = .ok (.getfield 9, 3) := by decide +kernel
theorem dX8_sheet_44 : decode cX8_sheet 44 = .ok (.iload_n 1, 1) := by decide +kernel
theorem dX8_sheet_45 : decode cX8_sheet 45 = .ok (.iload_n 2, 1) := by decide +kernel
theorem dX8_sheet_46 : decode cX8_sheet 46 = .ok (.iastore, 1) := by decide +kernel
theorem dX8_sheet_47 : decode cX8_sheet 47 = .ok (.aload_n 0, 1) := by decide +kernel
theorem dX8_sheet_48 : decode cX8_sheet 48 = .ok (.getfield 13, 3) := by decide +kernel
theorem dX8_sheet_51 : decode cX8_sheet 51 = .ok (.iload_n 1, 1) := by decide +kernel
theorem dX8_sheet_52 : decode cX8_sheet 52 = .ok (.iload_n 3, 1) := by decide +kernel
theorem dX8_sheet_53 : decode cX8_sheet 53 = .ok (.iastore, 1) := by decide +kernel
theorem dX8_sheet_54 : decode cX8_sheet 54 = .ok (.iconst 0, 1) := by decide +kernel
theorem dX8_sheet_55 : decode cX8_sheet 55 = .ok (.istore 4, 2) := by decide +kernel
theorem dX8_sheet_57 : decode cX8_sheet 57 = .ok (.iload 4, 2) := by decide +kernel
theorem dX8_sheet_59 : decode cX8_sheet 59 = .ok (.bipush 50, 2) := by decide +kernel
theorem dX8_sheet_61 : decode cX8_sheet 61 = .ok (.if_icmp .ge 22, 3) := by decide +kernel
theorem dX8_sheet_64 : decode cX8_sheet 64 = .ok (.aload_n 0, 1) := by decide +kernel
theorem dX8_sheet_65 : decode cX8_sheet 65 = .ok (.getfield 16, 3) := by decide +kernel
theorem dX8_sheet_68 : decode cX8_sheet 68 = .ok (.bipush 50, 2) := by decide +kernel
theorem dX8_sheet_70 : decode cX8_sheet 70 = .ok (.iload_n 1, 1) := by decide +kernel
theorem dX8_sheet_71 : decode cX8_sheet 71 = .ok (.imul, 1) := by decide +kernel
theorem dX8_sheet_72 : decode cX8_sheet 72 = .ok (.iload 4, 2) := by decide +kernel
theorem dX8_sheet_74 : decode cX8_sheet 74 = .ok (.iadd, 1) := by decide +kernel
theorem dX8_sheet_75 : decode cX8_sheet 75 = .ok (.iconst 0, 1) := by decide +kernel
theorem dX8_sheet_76 : decode cX8_sheet 76 = .ok (.iastore, 1) := by decide +kernel
theorem dX8_sheet_77 : decode cX8_sheet 77 = .ok (.iinc 4 1, 3) := by decide +kernel
theorem dX8_sheet_80 : decode cX8_sheet 80 = .ok (.goto (-23), 3) := by decide +kernel
theorem dX8_sheet_83 : decode cX8_sheet 83 = .ok (.iconst 1, 1) := by decide +kernel
theorem dX8_sheet_84 : decode cX8_sheet 84 = .ok (.ireturn, 1) := by decide +kernel
theorem dX8_lose_0 : decode cX8_lose 0 = .ok (.iload_n 1, 1) := by decide +kernel
theorem dX8_lose_1 : decode cX8_lose 1 = .ok (.invokestatic 111, 3) := by decide +kernel
theorem dX8_lose_4 : decode cX8_lose 4 = .ok (.ifCond .ne 5, 3) := by decide +kernel
theorem dX8_lose_7 : decode cX8_lose 7 = .ok (.iconst (-1), 1) := by decide +kernel
theorem dX8_lose_8 : decode cX8_lose 8 = .ok (.ireturn, 1) := by decide +kernel
theorem dX8_lose_9 : decode cX8_lose 9 = .ok (.aload_n 0, 1) := by decide +kernel
theorem dX8_lose_10 : decode cX8_lose 10 = .ok (.getfield 9, 3) := by decide +kernel
theorem dX8_lose_13 : decode cX8_lose 13 = .ok (.iload_n 1, 1) := by decide +kernel
theorem dX8_lose_14 : decode cX8_lose 14 = .ok (.iaload, 1) := by decide +kernel
theorem dX8_lose_15 : decode cX8_lose 15 = .ok (.bipush (-9), 2) := by decide +kernel
theorem dX8_lose_17 : decode cX8_lose 17 = .ok (.if_icmp .ne 7, 3) := by decide +kernel
theorem dX8_lose_20 : decode cX8_lose 20 = .ok (.iconst 0, 1) := by decide +kernel
theorem dX8_lose_21 : decode cX8_lose 21 = .ok (.goto 4, 3) := by decide +kernel
theorem dX8_lose_24 : decode cX8_lose 24 = .ok (.iconst 1, 1) := by decide +kernel
theorem dX8_lose_25 : decode cX8_lose 25 = .ok (.istore_n 2, 1) := by decide +kernel
theorem dX8_lose_26 : decode cX8_lose 26 = .ok (.aload_n 0, 1) := by decide +kernel
theorem dX8_lose_27 : decode cX8_lose 27 = .ok (.getfield 9, 3) := by decide +kernel
theorem dX8_lose_30 : decode cX8_lose 30 = .ok (.iload_n 1, 1) := by decide +kernel
theorem dX8_lose_31 : decode cX8_lose 31 = .ok (.bipush (-9), 2) := by decide +kernel
theorem dX8_lose_33 : decode cX8_lose 33 = .ok (.iastore, 1) := by decide +kernel
theorem dX8_lose_34 : decode cX8_lose 34 = .ok (.iload_n 2, 1) := by decide +kernel
theorem dX8_lose_35 : decode cX8_lose 35 = .ok (.ireturn, 1) := by decide +kernel
theorem dX8_put_0 : decode cX8_put 0 = .ok (.aload_n 0, 1) := by decide +kernel
theorem dX8_put_1 : decode cX8_put 1 = .ok (.iconst 0, 1) := by decide +kernel
theorem dX8_put_2 : decode cX8_put 2 = .ok (.putfield 95, 3) := by decide +kernel
theorem dX8_put_5 : decode cX8_put 5 = .ok (.iload_n 1, 1) := by decide +kernel
theorem dX8_put_6 : decode cX8_put 6 = .ok (.invokestatic 111, 3) := by decide +kernel
theorem dX8_put_9 : decode cX8_put 9 = .ok (.ifCond .ne 5, 3) := by decide +kernel
theorem dX8_put_12 : decode cX8_put 12 = .ok (.iconst (-1), 1) := by decide +kernel
theorem dX8_put_13 : decode cX8_put 13 = .ok (.ireturn, 1) := by decide +kernel
theorem dX8_put_14 : decode cX8_put 14 = .ok (.aload_n 0, 1) := by decide +kernel
theorem dX8_put_15 : decode cX8_put 15 = .ok (.getfield 9, 3) := by decide +kernel
theorem dX8_put_18 : decode cX8_put 18 = .ok (.iload_n 1, 1) := by decide +kernel
theorem dX8_put_19 : decode cX8_put 19 = .ok (.iaload, 1) := by decide +kernel
theorem dX8_put_20 : decode cX8_put 20 = .ok (.bipush (-9), 2) := by decide +kernel
theorem dX8_put_22 : decode cX8_put 22 = .ok (.if_icmp .ne 9, 3) := by decide +kernel
theorem dX8_put_25 : decode cX8_put 25 = .ok (.aload_n 0, 1) := by decide +kernel
theorem dX8_put_26 : decode cX8_put 26 = .ok (.iconst 1, 1) := by decide +kernel
theorem dX8_put_27 : decode cX8_put 27 = .ok (.invokevirtual 122, 3) := by decide +kernel
theorem dX8_put_30 : decode cX8_put 30 = .ok (.ireturn, 1) := by decide +kernel
theorem dX8_put_31 : decode cX8_put 31 = .ok (.iload_n 2, 1) := by decide +kernel
theorem dX8_put_32 : decode cX8_put 32 = .ok (.iconst 0, 1) := by decide +kernel
theorem dX8_put_33 : decode cX8_put 33 = .ok (.aload_n 0, 1) := by decide +kernel
theorem dX8_put_34 : decode cX8_put 34 = .ok (.getfield 13, 3) := by decide +kernel
theorem dX8_put_37 : decode cX8_put 37 = .ok (.iload_n 1, 1) := by decide +kernel
theorem dX8_put_38 : decode cX8_put 38 = .ok (.iaload, 1) := by decide +kernel
theorem dX8_put_39 : decode cX8_put 39 = .ok (.iconst 1, 1) := by decide +kernel
theorem dX8_put_40 : decode cX8_put 40 = .ok (.isub, 1) := by decide +kernel
theorem dX8_put_41 : decode cX8_put 41 = .ok (.invokestatic 101, 3) := by decide +kernel
theorem dX8_put_44 : decode cX8_put 44 = .ok (.ifCond .ne 9, 3) := by decide +kernel
theorem dX8_put_47 : decode cX8_put 47 = .ok (.aload_n 0, 1) := by decide +kernel
theorem dX8_put_48 : decode cX8_put 48 = .ok (.iconst 3, 1) := by decide +kernel
theorem dX8_put_49 : decode cX8_put 49 = .ok (.invokevirtual 122, 3) := by decide +kernel
theorem dX8_put_52 : decode cX8_put 52 = .ok (.ireturn, 1) := by decide +kernel
theorem dX8_put_53 : decode cX8_put 53 = .ok (.aload_n 0, 1) := by decide +kernel
theorem dX8_put_54 : decode cX8_put 54 = .ok (.getfield 16, 3) := by decide +kernel
theorem dX8_put_57 : decode cX8_put 57 = .ok (.bipush 50, 2) := by decide +kernel
theorem dX8_put_59 : decode cX8_put 59 = .ok (.iload_n 1, 1) := by decide +kernel
theorem dX8_put_60 : decode cX8_put 60 = .ok (.imul, 1) := by decide +kernel
theorem dX8_put_61 : decode cX8_put 61 = .ok (.iload_n 2, 1) := by decide +kernel
theorem dX8_put_62 : decode cX8_put 62 = .ok (.iadd, 1) := by decide +kernel
theorem dX8_put_63 : decode cX8_put 63 = .ok (.aload_n 0, 1) := by decide +kernel
theorem dX8_put_64 : decode cX8_put 64 = .ok (.getfield 9, 3) := by decide +kernel
theorem dX8_put_67 : decode cX8_put 67 = .ok (.iload_n 1, 1) := by decide +kernel
theorem dX8_put_68 : decode cX8_put 68 = .ok (.iaload, 1) := by decide +kernel
theorem dX8_put_69 : decode cX8_put 69 = .ok (.ifCond .ne 8, 3) := by decide +kernel
theorem dX8_put_72 : decode cX8_put 72 = .ok (.iload_n 3, 1) := by decide +kernel
theorem dX8_put_73 : decode cX8_put 73 = .ok (.i2b, 1) := by decide +kernel
theorem dX8_put_74 : decode cX8_put 74 = .ok (.goto 19, 3) := by decide +kernel
theorem dX8_put_77 : decode cX8_put 77 = .ok (.aload_n 0, 1) := by decide +kernel
theorem dX8_put_78 : decode cX8_put 78 = .ok (.getfield 9, 3) := by decide +kernel
theorem dX8_put_81 : decode cX8_put 81 = .ok (.iload_n 1, 1) := by decide +kernel
theorem dX8_put_82 : decode cX8_put 82 = .ok (.iaload, 1) := by decide +kernel
theorem dX8_put_83 : decode cX8_put 83 = .ok (.iconst 1, 1) := by decide +kernel
theorem dX8_put_84 : decode cX8_put 84 = .ok (.if_icmp .ne 8, 3) := by decide +kernel
theorem dX8_put_87 : decode cX8_put 87 = .ok (.iload_n 3, 1) := by decide +kernel
theorem dX8_put_88 : decode cX8_put 88 = .ok (.i2s, 1) := by decide +kernel
theorem dX8_put_89 : decode cX8_put 89 = .ok (.goto 4, 3) := by decide +kernel
theorem dX8_put_92 : decode cX8_put 92 = .ok (.iload_n 3, 1) := by decide +kernel
theorem dX8_put_93 : decode cX8_put 93 = .ok (.iastore, 1) := by decide +kernel
theorem dX8_put_94 : decode cX8_put 94 = .ok (.iconst 1, 1) := by decide +kernel
theorem dX8_put_95 : decode cX8_put 95 = .ok (.ireturn, 1) := by decide +kernel
theorem dX8_cell_0 : decode cX8_cell 0 = .ok (.aload_n 0, 1) := by decide +kernel
theorem dX8_cell_1 : decode cX8_cell 1 = .ok (.iconst 0, 1) := by decide +kernel
theorem dX8_cell_2 : decode cX8_cell 2 = .ok (.putfield 95, 3) := by decide +kernel
theorem dX8_cell_5 : decode cX8_cell 5 = .ok (.iload_n 1, 1) := by decide +kernel
theorem dX8_cell_6 : decode cX8_cell 6 = .ok (.invokestatic 111, 3) := by decide +kernel
theorem dX8_cell_9 : decode cX8_cell 9 = .ok (.ifCond .eq 10, 3) := by decide +kernel
theorem dX8_cell_12 : decode cX8_cell 12 = .ok (.iload_n 3, 1) := by decide +kernel
theorem dX8_cell_13 : decode cX8_cell 13 = .ok (.invokestatic 115, 3) := by decide +kernel
theorem dX8_cell_16 : decode cX8_cell 16 = .ok (.ifCond .ne 7, 3) := by decide +kernel
theorem dX8_cell_19 : decode cX8_cell 19 = .ok (.ldc2_w 99, 3) := by decide +kernel
theorem dX8_cell_22 : decode cX8_cell 22 = .ok (.lreturn, 1) := by decide +kernel
theorem dX8_cell_23 : decode cX8_cell 23 = .ok (.aload_n 0, 1) := by decide +kernel
theorem dX8_cell_24 : decode cX8_cell 24 = .ok (.getfield 9, 3) := by decide +kernel
theorem dX8_cell_27 : decode cX8_cell 27 = .ok (.iload_n 1, 1) := by decide +kernel
theorem dX8_cell_28 : decode cX8_cell 28 = .ok (.iaload, 1) := by decide +kernel
theorem dX8_cell_29 : decode cX8_cell 29 = .ok (.bipush (-9), 2) := by decide +kernel
theorem dX8_cell_31 : decode cX8_cell 31 = .ok (.if_icmp .eq 19, 3) := by decide +kernel
theorem dX8_cell_34 : decode cX8_cell 34 = .ok (.aload_n 0, 1) := by decide +kernel
theorem dX8_cell_35 : decode cX8_cell 35 = .ok (.getfield 9, 3) := by decide +kernel
theorem dX8_cell_38 : decode cX8_cell 38 = .ok (.iload_n 1, 1) := by decide +kernel
theorem dX8_cell_39 : decode cX8_cell 39 = .ok (.iaload, 1) := by decide +kernel
theorem dX8_cell_40 : decode cX8_cell 40 = .ok (.iload_n 3, 1) := by decide +kernel
theorem dX8_cell_41 : decode cX8_cell 41 = .ok (.if_icmp .eq 9, 3) := by decide +kernel
theorem dX8_cell_44 : decode cX8_cell 44 = .ok (.aload_n 0, 1) := by decide +kernel
theorem dX8_cell_45 : decode cX8_cell 45 = .ok (.iconst 2, 1) := by decide +kernel
theorem dX8_cell_46 : decode cX8_cell 46 = .ok (.invokevirtual 229, 3) := by decide +kernel
theorem dX8_cell_49 : decode cX8_cell 49 = .ok (.lreturn, 1) := by decide +kernel
theorem dX8_cell_50 : decode cX8_cell 50 = .ok (.aload_n 0, 1) := by decide +kernel
theorem dX8_cell_51 : decode cX8_cell 51 = .ok (.getfield 9, 3) := by decide +kernel
theorem dX8_cell_54 : decode cX8_cell 54 = .ok (.iload_n 1, 1) := by decide +kernel
theorem dX8_cell_55 : decode cX8_cell 55 = .ok (.iaload, 1) := by decide +kernel
theorem dX8_cell_56 : decode cX8_cell 56 = .ok (.bipush (-9), 2) := by decide +kernel
theorem dX8_cell_58 : decode cX8_cell 58 = .ok (.if_icmp .ne 9, 3) := by decide +kernel
theorem dX8_cell_61 : decode cX8_cell 61 = .ok (.aload_n 0, 1) := by decide +kernel
theorem dX8_cell_62 : decode cX8_cell 62 = .ok (.iconst 1, 1) := by decide +kernel
theorem dX8_cell_63 : decode cX8_cell 63 = .ok (.invokevirtual 229, 3) := by decide +kernel
theorem dX8_cell_66 : decode cX8_cell 66 = .ok (.lreturn, 1) := by decide +kernel
theorem dX8_cell_67 : decode cX8_cell 67 = .ok (.iload_n 2, 1) := by decide +kernel
theorem dX8_cell_68 : decode cX8_cell 68 = .ok (.iconst 0, 1) := by decide +kernel
theorem dX8_cell_69 : decode cX8_cell 69 = .ok (.aload_n 0, 1) := by decide +kernel
theorem dX8_cell_70 : decode cX8_cell 70 = .ok (.getfield 13, 3) := by decide +kernel
theorem dX8_cell_73 : decode cX8_cell 73 = .ok (.iload_n 1, 1) := by decide +kernel
theorem dX8_cell_74 : decode cX8_cell 74 = .ok (.iaload, 1) := by decide +kernel
theorem dX8_cell_75 : decode cX8_cell 75 = .ok (.iconst 1, 1) := by decide +kernel
theorem dX8_cell_76 : decode cX8_cell 76 = .ok (.isub, 1) := by decide +kernel
theorem dX8_cell_77 : decode cX8_cell 77 = .ok (.invokestatic 101, 3) := by decide +kernel
theorem dX8_cell_80 : decode cX8_cell 80 = .ok (.ifCond .ne 9, 3) := by decide +kernel
theorem dX8_cell_83 : decode cX8_cell 83 = .ok (.aload_n 0, 1) := by decide +kernel
theorem dX8_cell_84 : decode cX8_cell 84 = .ok (.iconst 3, 1) := by decide +kernel
theorem dX8_cell_85 : decode cX8_cell 85 = .ok (.invokevirtual 229, 3) := by decide +kernel
theorem dX8_cell_88 : decode cX8_cell 88 = .ok (.lreturn, 1) := by decide +kernel
theorem dX8_cell_89 : decode cX8_cell 89 = .ok (.aload_n 0, 1) := by decide +kernel
theorem dX8_cell_90 : decode cX8_cell 90 = .ok (.getfield 16, 3) := by decide +kernel
theorem dX8_cell_93 : decode cX8_cell 93 = .ok (.bipush 50, 2) := by decide +kernel
theorem dX8_cell_95 : decode cX8_cell 95 = .ok (.iload_n 1, 1) := by decide +kernel
theorem dX8_cell_96 : decode cX8_cell 96 = .ok (.imul, 1) := by decide +kernel
theorem dX8_cell_97 : decode cX8_cell 97 = .ok (.iload_n 2, 1) := by decide +kernel
theorem dX8_cell_98 : decode cX8_cell 98 = .ok (.iadd, 1) := by decide +kernel
theorem dX8_cell_99 : decode cX8_cell 99 = .ok (.iaload, 1) := by decide +kernel
theorem dX8_cell_100 : decode cX8_cell 100 = .ok (.i2l, 1) := by decide +kernel
theorem dX8_cell_101 : decode cX8_cell 101 = .ok (.lreturn, 1) := by decide +kernel
theorem dX8_copy_0 : decode cX8_copy 0 = .ok (.aload_n 0, 1) := by decide +kernel
theorem dX8_copy_1 : decode cX8_copy 1 = .ok (.iconst 0, 1) := by decide +kernel
theorem dX8_copy_2 : decode cX8_copy 2 = .ok (.putfield 95, 3) := by decide +kernel
theorem dX8_copy_5 : decode cX8_copy 5 = .ok (.iload_n 1, 1) := by decide +kernel
theorem dX8_copy_6 : decode cX8_copy 6 = .ok (.invokestatic 111, 3) := by decide +kernel
theorem dX8_copy_9 : decode cX8_copy 9 = .ok (.ifCond .eq 10, 3) := by decide +kernel
theorem dX8_copy_12 : decode cX8_copy 12 = .ok (.iload_n 3, 1) := by decide +kernel
theorem dX8_copy_13 : decode cX8_copy 13 = .ok (.invokestatic 111, 3) := by decide +kernel
theorem dX8_copy_16 : decode cX8_copy 16 = .ok (.ifCond .ne 5, 3) := by decide +kernel
theorem dX8_copy_19 : decode cX8_copy 19 = .ok (.iconst (-1), 1) := by decide +kernel
theorem dX8_copy_20 : decode cX8_copy 20 = .ok (.ireturn, 1) := by decide +kernel
theorem dX8_copy_21 : decode cX8_copy 21 = .ok (.aload_n 0, 1) := by decide +kernel
theorem dX8_copy_22 : decode cX8_copy 22 = .ok (.getfield 9, 3) := by decide +kernel
theorem dX8_copy_25 : decode cX8_copy 25 = .ok (.iload_n 1, 1) := by decide +kernel
theorem dX8_copy_26 : decode cX8_copy 26 = .ok (.iaload, 1) := by decide +kernel
theorem dX8_copy_27 : decode cX8_copy 27 = .ok (.bipush (-9), 2) := by decide +kernel
theorem dX8_copy_29 : decode cX8_copy 29 = .ok (.if_icmp .eq 14, 3) := by decide +kernel
theorem dX8_copy_32 : decode cX8_copy 32 = .ok (.aload_n 0, 1) := by decide +kernel
theorem dX8_copy_33 : decode cX8_copy 33 = .ok (.getfield 9, 3) := by decide +kernel
theorem dX8_copy_36 : decode cX8_copy 36 = .ok (.iload_n 3, 1) := by decide +kernel
theorem dX8_copy_37 : decode cX8_copy 37 = .ok (.iaload, 1) := by decide +kernel
theorem dX8_copy_38 : decode cX8_copy 38 = .ok (.bipush (-9), 2) := by decide +kernel
theorem dX8_copy_40 : decode cX8_copy 40 = .ok (.if_icmp .ne 9, 3) := by decide +kernel
theorem dX8_copy_43 : decode cX8_copy 43 = .ok (.aload_n 0, 1) := by decide +kernel
theorem dX8_copy_44 : decode cX8_copy 44 = .ok (.iconst 1, 1) := by decide +kernel
theorem dX8_copy_45 : decode cX8_copy 45 = .ok (.invokevirtual 122, 3) := by decide +kernel
theorem dX8_copy_48 : decode cX8_copy 48 = .ok (.ireturn, 1) := by decide +kernel
theorem dX8_copy_49 : decode cX8_copy 49 = .ok (.aload_n 0, 1) := by decide +kernel
theorem dX8_copy_50 : decode cX8_copy 50 = .ok (.getfield 9, 3) := by decide +kernel
theorem dX8_copy_53 : decode cX8_copy 53 = .ok (.iload_n 1, 1) := by decide +kernel
theorem dX8_copy_54 : decode cX8_copy 54 = .ok (.iaload, 1) := by decide +kernel
theorem dX8_copy_55 : decode cX8_copy 55 = .ok (.aload_n 0, 1) := by decide +kernel
theorem dX8_copy_56 : decode cX8_copy 56 = .ok (.getfield 9, 3) := by decide +kernel
theorem dX8_copy_59 : decode cX8_copy 59 = .ok (.iload_n 3, 1) := by decide +kernel
theorem dX8_copy_60 : decode cX8_copy 60 = .ok (.iaload, 1) := by decide +kernel
theorem dX8_copy_61 : decode cX8_copy 61 = .ok (.if_icmp .eq 9, 3) := by decide +kernel
theorem dX8_copy_64 : decode cX8_copy 64 = .ok (.aload_n 0, 1) := by decide +kernel
theorem dX8_copy_65 : decode cX8_copy 65 = .ok (.iconst 2, 1) := by decide +kernel
theorem dX8_copy_66 : decode cX8_copy 66 = .ok (.invokevirtual 122, 3) := by decide +kernel
theorem dX8_copy_69 : decode cX8_copy 69 = .ok (.ireturn, 1) := by decide +kernel
theorem dX8_copy_70 : decode cX8_copy 70 = .ok (.iload_n 2, 1) := by decide +kernel
theorem dX8_copy_71 : decode cX8_copy 71 = .ok (.ifCond .lt 38, 3) := by decide +kernel
theorem dX8_copy_74 : decode cX8_copy 74 = .ok (.iload 4, 2) := by decide +kernel
theorem dX8_copy_76 : decode cX8_copy 76 = .ok (.ifCond .lt 33, 3) := by decide +kernel
theorem dX8_copy_79 : decode cX8_copy 79 = .ok (.iload 5, 2) := by decide +kernel
theorem dX8_copy_81 : decode cX8_copy 81 = .ok (.ifCond .lt 28, 3) := by decide +kernel
theorem dX8_copy_84 : decode cX8_copy 84 = .ok (.iload_n 2, 1) := by decide +kernel
theorem dX8_copy_85 : decode cX8_copy 85 = .ok (.aload_n 0, 1) := by decide +kernel
theorem dX8_copy_86 : decode cX8_copy 86 = .ok (.getfield 13, 3) := by decide +kernel
theorem dX8_copy_89 : decode cX8_copy 89 = .ok (.iload_n 1, 1) := by decide +kernel
theorem dX8_copy_90 : decode cX8_copy 90 = .ok (.iaload, 1) := by decide +kernel
theorem dX8_copy_91 : decode cX8_copy 91 = .ok (.if_icmp .gt 18, 3) := by decide +kernel
theorem dX8_copy_94 : decode cX8_copy 94 = .ok (.iload 4, 2) := by decide +kernel
theorem dX8_copy_96 : decode cX8_copy 96 = .ok (.aload_n 0, 1) := by decide +kernel
theorem dX8_copy_97 : decode cX8_copy 97 = .ok (.getfield 13, 3) := by decide +kernel
theorem dX8_copy_100 : decode cX8_copy 100 = .ok (.iload_n 3, 1) := by decide +kernel
theorem dX8_copy_101 : decode cX8_copy 101 = .ok (.iaload, 1) := by decide +kernel
theorem dX8_copy_102 : decode cX8_copy 102 = .ok (.if_icmp .gt 7, 3) := by decide +kernel
theorem dX8_copy_105 : decode cX8_copy 105 = .ok (.iconst 1, 1) := by decide +kernel
theorem dX8_copy_106 : decode cX8_copy 106 = .ok (.goto 4, 3) := by decide +kernel
theorem dX8_copy_109 : decode cX8_copy 109 = .ok (.iconst 0, 1) := by decide +kernel
theorem dX8_copy_110 : decode cX8_copy 110 = .ok (.istore 6, 2) := by decide +kernel
theorem dX8_copy_112 : decode cX8_copy 112 = .ok (.iload 6, 2) := by decide +kernel
theorem dX8_copy_114 : decode cX8_copy 114 = .ok (.ifCond .eq 30, 3) := by decide +kernel
theorem dX8_copy_117 : decode cX8_copy 117 = .ok (.iload 5, 2) := by decide +kernel
theorem dX8_copy_119 : decode cX8_copy 119 = .ok (.aload_n 0, 1) := by decide +kernel
theorem dX8_copy_120 : decode cX8_copy 120 = .ok (.getfield 13, 3) := by decide +kernel
theorem dX8_copy_123 : decode cX8_copy 123 = .ok (.iload_n 1, 1) := by decide +kernel
theorem dX8_copy_124 : decode cX8_copy 124 = .ok (.iaload, 1) := by decide +kernel
theorem dX8_copy_125 : decode cX8_copy 125 = .ok (.iload_n 2, 1) := by decide +kernel
theorem dX8_copy_126 : decode cX8_copy 126 = .ok (.isub, 1) := by decide +kernel
theorem dX8_copy_127 : decode cX8_copy 127 = .ok (.if_icmp .gt 17, 3) := by decide +kernel
theorem dX8_copy_130 : decode cX8_copy 130 = .ok (.iload 5, 2) := by decide +kernel
theorem dX8_copy_132 : decode cX8_copy 132 = .ok (.aload_n 0, 1) := by decide +kernel
theorem dX8_copy_133 : decode cX8_copy 133 = .ok (.getfield 13, 3) := by decide +kernel
theorem dX8_copy_136 : decode cX8_copy 136 = .ok (.iload_n 3, 1) := by decide +kernel
theorem dX8_copy_137 : decode cX8_copy 137 = .ok (.iaload, 1) := by decide +kernel
theorem dX8_copy_138 : decode cX8_copy 138 = .ok (.iload 4, 2) := by decide +kernel
theorem dX8_copy_140 : decode cX8_copy 140 = .ok (.isub, 1) := by decide +kernel
theorem dX8_copy_141 : decode cX8_copy 141 = .ok (.if_icmp .le 9, 3) := by decide +kernel
theorem dX8_copy_144 : decode cX8_copy 144 = .ok (.aload_n 0, 1) := by decide +kernel
theorem dX8_copy_145 : decode cX8_copy 145 = .ok (.iconst 3, 1) := by decide +kernel
theorem dX8_copy_146 : decode cX8_copy 146 = .ok (.invokevirtual 122, 3) := by decide +kernel
theorem dX8_copy_149 : decode cX8_copy 149 = .ok (.ireturn, 1) := by decide +kernel
theorem dX8_copy_150 : decode cX8_copy 150 = .ok (.iload_n 2, 1) := by decide +kernel
theorem dX8_copy_151 : decode cX8_copy 151 = .ok (.iload 4, 2) := by decide +kernel
theorem dX8_copy_153 : decode cX8_copy 153 = .ok (.if_icmp .ge 7, 3) := by decide +kernel
theorem dX8_copy_156 : decode cX8_copy 156 = .ok (.iconst 1, 1) := by decide +kernel
theorem dX8_copy_157 : decode cX8_copy 157 = .ok (.goto 4, 3) := by decide +kernel
theorem dX8_copy_160 : decode cX8_copy 160 = .ok (.iconst 0, 1) := by decide +kernel
theorem dX8_copy_161 : decode cX8_copy 161 = .ok (.istore 7, 2) := by decide +kernel
theorem dX8_copy_163 : decode cX8_copy 163 = .ok (.iconst 0, 1) := by decide +kernel
theorem dX8_copy_164 : decode cX8_copy 164 = .ok (.istore 8, 2) := by decide +kernel
theorem dX8_copy_166 : decode cX8_copy 166 = .ok (.iload 8, 2) := by decide +kernel
theorem dX8_copy_168 : decode cX8_copy 168 = .ok (.iload 5, 2) := by decide +kernel
theorem dX8_copy_170 : decode cX8_copy 170 = .ok (.if_icmp .ge 57, 3) := by decide +kernel
theorem dX8_copy_173 : decode cX8_copy 173 = .ok (.iload 7, 2) := by decide +kernel
theorem dX8_copy_175 : decode cX8_copy 175 = .ok (.ifCond .eq 13, 3) := by decide +kernel
theorem dX8_copy_178 : decode cX8_copy 178 = .ok (.iload 5, 2) := by decide +kernel
theorem dX8_copy_180 : decode cX8_copy 180 = .ok (.iconst 1, 1) := by decide +kernel
theorem dX8_copy_181 : decode cX8_copy 181 = .ok (.isub, 1) := by decide +kernel
theorem dX8_copy_182 : decode cX8_copy 182 = .ok (.iload 8, 2) := by decide +kernel
theorem dX8_copy_184 : decode cX8_copy 184 = .ok (.isub, 1) := by decide +kernel
theorem dX8_copy_185 : decode cX8_copy 185 = .ok (.goto 5, 3) := by decide +kernel
theorem dX8_copy_188 : decode cX8_copy 188 = .ok (.iload 8, 2) := by decide +kernel
theorem dX8_copy_190 : decode cX8_copy 190 = .ok (.istore 9, 2) := by decide +kernel
theorem dX8_copy_192 : decode cX8_copy 192 = .ok (.aload_n 0, 1) := by decide +kernel
theorem dX8_copy_193 : decode cX8_copy 193 = .ok (.getfield 16, 3) := by decide +kernel
theorem dX8_copy_196 : decode cX8_copy 196 = .ok (.bipush 50, 2) := by decide +kernel
theorem dX8_copy_198 : decode cX8_copy 198 = .ok (.iload_n 3, 1) := by decide +kernel
theorem dX8_copy_199 : decode cX8_copy 199 = .ok (.imul, 1) := by decide +kernel
theorem dX8_copy_200 : decode cX8_copy 200 = .ok (.iload 4, 2) := by decide +kernel
theorem dX8_copy_202 : decode cX8_copy 202 = .ok (.iadd, 1) := by decide +kernel
theorem dX8_copy_203 : decode cX8_copy 203 = .ok (.iload 9, 2) := by decide +kernel
theorem dX8_copy_205 : decode cX8_copy 205 = .ok (.iadd, 1) := by decide +kernel
theorem dX8_copy_206 : decode cX8_copy 206 = .ok (.aload_n 0, 1) := by decide +kernel
theorem dX8_copy_207 : decode cX8_copy 207 = .ok (.getfield 16, 3) := by decide +kernel
theorem dX8_copy_210 : decode cX8_copy 210 = .ok (.bipush 50, 2) := by decide +kernel
theorem dX8_copy_212 : decode cX8_copy 212 = .ok (.iload_n 1, 1) := by decide +kernel
theorem dX8_copy_213 : decode cX8_copy 213 = .ok (.imul, 1) := by decide +kernel
theorem dX8_copy_214 : decode cX8_copy 214 = .ok (.iload_n 2, 1) := by decide +kernel
theorem dX8_copy_215 : decode cX8_copy 215 = .ok (.iadd, 1) := by decide +kernel
theorem dX8_copy_216 : decode cX8_copy 216 = .ok (.iload 9, 2) := by decide +kernel
theorem dX8_copy_218 : decode cX8_copy 218 = .ok (.iadd, 1) := by decide +kernel
theorem dX8_copy_219 : decode cX8_copy 219 = .ok (.iaload, 1) := by decide +kernel
theorem dX8_copy_220 : decode cX8_copy 220 = .ok (.iastore, 1) := by decide +kernel
theorem dX8_copy_221 : decode cX8_copy 221 = .ok (.iinc 8 1, 3) := by decide +kernel
theorem dX8_copy_224 : decode cX8_copy 224 = .ok (.goto (-58), 3) := by decide +kernel
theorem dX8_copy_227 : decode cX8_copy 227 = .ok (.iload 5, 2) := by decide +kernel
theorem dX8_copy_229 : decode cX8_copy 229 = .ok (.ireturn, 1) := by decide +kernel
theorem dX8_begins_0 : decode cX8_begins 0 = .ok (.aload_n 0, 1) := by decide +kernel
theorem dX8_begins_1 : decode cX8_begins 1 = .ok (.bipush 31, 2) := by decide +kernel
theorem dX8_begins_3 : decode cX8_begins 3 = .ok (.aload_n 0, 1) := by decide +kernel
theorem dX8_begins_4 : decode cX8_begins 4 = .ok (.getfield 233, 3) := by decide +kernel
theorem dX8_begins_7 : decode cX8_begins 7 = .ok (.imul, 1) := by decide +kernel
theorem dX8_begins_8 : decode cX8_begins 8 = .ok (.iload_n 1, 1) := by decide +kernel
theorem dX8_begins_9 : decode cX8_begins 9 = .ok (.iadd, 1) := by decide +kernel
theorem dX8_begins_10 : decode cX8_begins 10 = .ok (.putfield 233, 3) := by decide +kernel
theorem dX8_begins_13 : decode cX8_begins 13 = .ok (.return_, 1) := by decide +kernel
theorem dX8_tell_0 : decode cX8_tell 0 = .ok (.aload_n 0, 1) := by decide +kernel
theorem dX8_tell_1 : decode cX8_tell 1 = .ok (.iload_n 1, 1) := by decide +kernel
theorem dX8_tell_2 : decode cX8_tell 2 = .ok (.invokevirtual 145, 3) := by decide +kernel
theorem dX8_tell_5 : decode cX8_tell 5 = .ok (.ifCond .ne 5, 3) := by decide +kernel
theorem dX8_tell_8 : decode cX8_tell 8 = .ok (.iconst (-1), 1) := by decide +kernel
theorem dX8_tell_9 : decode cX8_tell 9 = .ok (.ireturn, 1) := by decide +kernel
theorem dX8_tell_10 : decode cX8_tell 10 = .ok (.aload_n 0, 1) := by decide +kernel
theorem dX8_tell_11 : decode cX8_tell 11 = .ok (.getfield 22, 3) := by decide +kernel
theorem dX8_tell_14 : decode cX8_tell 14 = .ok (.iload_n 1, 1) := by decide +kernel
theorem dX8_tell_15 : decode cX8_tell 15 = .ok (.iaload, 1) := by decide +kernel
theorem dX8_tell_16 : decode cX8_tell 16 = .ok (.istore_n 2, 1) := by decide +kernel
theorem dX8_tell_17 : decode cX8_tell 17 = .ok (.aload_n 0, 1) := by decide +kernel
theorem dX8_tell_18 : decode cX8_tell 18 = .ok (.getfield 19, 3) := by decide +kernel
theorem dX8_tell_21 : decode cX8_tell 21 = .ok (.iload_n 1, 1) := by decide +kernel
theorem dX8_tell_22 : decode cX8_tell 22 = .ok (.iaload, 1) := by decide +kernel
theorem dX8_tell_23 : decode cX8_tell 23 = .ok (.lookupswitch 67 #[(1, 25), (2, 40)], 25) := by decide +kernel
theorem dX8_tell_48 : decode cX8_tell 48 = .ok (.aload_n 0, 1) := by decide +kernel
theorem dX8_tell_49 : decode cX8_tell 49 = .ok (.iconst 2, 1) := by decide +kernel
theorem dX8_tell_50 : decode cX8_tell 50 = .ok (.invokevirtual 236, 3) := by decide +kernel
theorem dX8_tell_53 : decode cX8_tell 53 = .ok (.aload_n 0, 1) := by decide +kernel
theorem dX8_tell_54 : decode cX8_tell 54 = .ok (.iconst 1, 1) := by decide +kernel
theorem dX8_tell_55 : decode cX8_tell 55 = .ok (.invokevirtual 236, 3) := by decide +kernel
theorem dX8_tell_58 : decode cX8_tell 58 = .ok (.iload_n 2, 1) := by decide +kernel
theorem dX8_tell_59 : decode cX8_tell 59 = .ok (.bipush 100, 2) := by decide +kernel
theorem dX8_tell_61 : decode cX8_tell 61 = .ok (.iadd, 1) := by decide +kernel
theorem dX8_tell_62 : decode cX8_tell 62 = .ok (.ireturn, 1) := by decide +kernel
theorem dX8_tell_63 : decode cX8_tell 63 = .ok (.aload_n 0, 1) := by decide +kernel
theorem dX8_tell_64 : decode cX8_tell 64 = .ok (.iconst 3, 1) := by decide +kernel
theorem dX8_tell_65 : decode cX8_tell 65 = .ok (.invokevirtual 236, 3) := by decide +kernel
theorem dX8_tell_68 : decode cX8_tell 68 = .ok (.aload_n 0, 1) := by decide +kernel
theorem dX8_tell_69 : decode cX8_tell 69 = .ok (.iconst 2, 1) := by decide +kernel
theorem dX8_tell_70 : decode cX8_tell 70 = .ok (.invokevirtual 236, 3) := by decide +kernel
theorem dX8_tell_73 : decode cX8_tell 73 = .ok (.aload_n 0, 1) := by decide +kernel
theorem dX8_tell_74 : decode cX8_tell 74 = .ok (.iconst 1, 1) := by decide +kernel
theorem dX8_tell_75 : decode cX8_tell 75 = .ok (.invokevirtual 236, 3) := by decide +kernel
theorem dX8_tell_78 : decode cX8_tell 78 = .ok (.aload_n 0, 1) := by decide +kernel
theorem dX8_tell_79 : decode cX8_tell 79 = .ok (.iconst 1, 1) := by decide +kernel
theorem dX8_tell_80 : decode cX8_tell 80 = .ok (.invokevirtual 236, 3) := by decide +kernel
theorem dX8_tell_83 : decode cX8_tell 83 = .ok (.iconst 2, 1) := by decide +kernel
theorem dX8_tell_84 : decode cX8_tell 84 = .ok (.iload_n 2, 1) := by decide +kernel
theorem dX8_tell_85 : decode cX8_tell 85 = .ok (.imul, 1) := by decide +kernel
theorem dX8_tell_86 : decode cX8_tell 86 = .ok (.bipush 100, 2) := by decide +kernel
theorem dX8_tell_88 : decode cX8_tell 88 = .ok (.iadd, 1) := by decide +kernel
theorem dX8_tell_89 : decode cX8_tell 89 = .ok (.ireturn, 1) := by decide +kernel
theorem dX8_tell_90 : decode cX8_tell 90 = .ok (.aload_n 0, 1) := by decide +kernel
theorem dX8_tell_91 : decode cX8_tell 91 = .ok (.iconst 1, 1) := by decide +kernel
theorem dX8_tell_92 : decode cX8_tell 92 = .ok (.invokevirtual 236, 3) := by decide +kernel
theorem dX8_tell_95 : decode cX8_tell 95 = .ok (.iload_n 2, 1) := by decide +kernel
theorem dX8_tell_96 : decode cX8_tell 96 = .ok (.ireturn, 1) := by decide +kernel
theorem dX8_salute_0 : decode cX8_salute 0 = .ok (.aload_n 0, 1) := by decide +kernel
theorem dX8_salute_1 : decode cX8_salute 1 = .ok (.iload_n 1, 1) := by decide +kernel
theorem dX8_salute_2 : decode cX8_salute 2 = .ok (.invokevirtual 145, 3) := by decide +kernel
theorem dX8_salute_5 : decode cX8_salute 5 = .ok (.ifCond .ne 5, 3) := by decide +kernel
theorem dX8_salute_8 : decode cX8_salute 8 = .ok (.iconst (-1), 1) := by decide +kernel
theorem dX8_salute_9 : decode cX8_salute 9 = .ok (.ireturn, 1) := by decide +kernel
theorem dX8_salute_10 : decode cX8_salute 10 = .ok (.aload_n 0, 1) := by decide +kernel
theorem dX8_salute_11 : decode cX8_salute 11 = .ok (.aload_n 0, 1) := by decide +kernel
theorem dX8_salute_12 : decode cX8_salute 12 = .ok (.getfield 19, 3) := by decide +kernel
theorem dX8_salute_15 : decode cX8_salute 15 = .ok (.iload_n 1, 1) := by decide +kernel
theorem dX8_salute_16 : decode cX8_salute 16 = .ok (.iaload, 1) := by decide +kernel
theorem dX8_salute_17 : decode cX8_salute 17 = .ok (.iconst 2, 1) := by decide +kernel
theorem dX8_salute_18 : decode cX8_salute 18 = .ok (.if_icmp .ne 7, 3) := by decide +kernel
theorem dX8_salute_21 : decode cX8_salute 21 = .ok (.iconst 5, 1) := by decide +kernel
theorem dX8_salute_22 : decode cX8_salute 22 = .ok (.goto 4, 3) := by decide +kernel
theorem dX8_salute_25 : decode cX8_salute 25 = .ok (.iconst 4, 1) := by decide +kernel
theorem dX8_salute_26 : decode cX8_salute 26 = .ok (.invokevirtual 236, 3) := by decide +kernel
theorem dX8_salute_29 : decode cX8_salute 29 = .ok (.aload_n 0, 1) := by decide +kernel
theorem dX8_salute_30 : decode cX8_salute 30 = .ok (.getfield 19, 3) := by decide +kernel
theorem dX8_salute_33 : decode cX8_salute 33 = .ok (.iload_n 1, 1) := by decide +kernel
theorem dX8_salute_34 : decode cX8_salute 34 = .ok (.iaload, 1) := by decide +kernel
theorem dX8_salute_35 : decode cX8_salute 35 = .ok (.iconst 2, 1) := by decide +kernel
theorem dX8_salute_36 : decode cX8_salute 36 = .ok (.if_icmp .ne 8, 3) := by decide +kernel
theorem dX8_salute_39 : decode cX8_salute 39 = .ok (.bipush 80, 2) := by decide +kernel
theorem dX8_salute_41 : decode cX8_salute 41 = .ok (.goto 4, 3) := by decide +kernel
theorem dX8_salute_44 : decode cX8_salute 44 = .ok (.iload_n 1, 1) := by decide +kernel
theorem dX8_salute_45 : decode cX8_salute 45 = .ok (.ireturn, 1) := by decide +kernel
theorem dX8_as_0 : decode cX8_as 0 = .ok (.aload_n 0, 1) := by decide +kernel
theorem dX8_as_1 : decode cX8_as 1 = .ok (.iconst 0, 1) := by decide +kernel
theorem dX8_as_2 : decode cX8_as 2 = .ok (.putfield 95, 3) := by decide +kernel
theorem dX8_as_5 : decode cX8_as 5 = .ok (.aload_n 0, 1) := by decide +kernel
theorem dX8_as_6 : decode cX8_as 6 = .ok (.iload_n 1, 1) := by decide +kernel
theorem dX8_as_7 : decode cX8_as 7 = .ok (.invokevirtual 145, 3) := by decide +kernel
theorem dX8_as_10 : decode cX8_as 10 = .ok (.ifCond .ne 5, 3) := by decide +kernel
theorem dX8_as_13 : decode cX8_as 13 = .ok (.iconst (-1), 1) := by decide +kernel
theorem dX8_as_14 : decode cX8_as 14 = .ok (.ireturn, 1) := by decide +kernel
theorem dX8_as_15 : decode cX8_as 15 = .ok (.iload_n 2, 1) := by decide +kernel
theorem dX8_as_16 : decode cX8_as 16 = .ok (.iconst 0, 1) := by decide +kernel
theorem dX8_as_17 : decode cX8_as 17 = .ok (.iconst 2, 1) := by decide +kernel
theorem dX8_as_18 : decode cX8_as 18 = .ok (.invokestatic 101, 3) := by decide +kernel
theorem dX8_as_21 : decode cX8_as 21 = .ok (.ifCond .ne 6, 3) := by decide +kernel
theorem dX8_as_24 : decode cX8_as 24 = .ok (.bipush (-2), 2) := by decide +kernel
theorem dX8_as_26 : decode cX8_as 26 = .ok (.ireturn, 1) := by decide +kernel
theorem dX8_as_27 : decode cX8_as 27 = .ok (.aload_n 0, 1) := by decide +kernel
theorem dX8_as_28 : decode cX8_as 28 = .ok (.getfield 19, 3) := by decide +kernel
theorem dX8_as_31 : decode cX8_as 31 = .ok (.iload_n 1, 1) := by decide +kernel
theorem dX8_as_32 : decode cX8_as 32 = .ok (.iaload, 1) := by decide +kernel
theorem dX8_as_33 : decode cX8_as 33 = .ok (.iload_n 2, 1) := by decide +kernel
theorem dX8_as_34 : decode cX8_as 34 = .ok (.if_icmp .lt 7, 3) := by decide +kernel
theorem dX8_as_37 : decode cX8_as 37 = .ok (.iconst 1, 1) := by decide +kernel
theorem dX8_as_38 : decode cX8_as 38 = .ok (.goto 8, 3) := by decide +kernel
theorem dX8_as_41 : decode cX8_as 41 = .ok (.aload_n 0, 1) := by decide +kernel
theorem dX8_as_42 : decode cX8_as 42 = .ok (.iconst 2, 1) := by decide +kernel
theorem dX8_as_43 : decode cX8_as 43 = .ok (.invokevirtual 122, 3) := by decide +kernel
theorem dX8_as_46 : decode cX8_as 46 = .ok (.ireturn, 1) := by decide +kernel
theorem dX8_trace_0 : decode cX8_trace 0 = .ok (.aload_n 0, 1) := by decide +kernel
theorem dX8_trace_1 : decode cX8_trace 1 = .ok (.getfield 233, 3) := by decide +kernel
theorem dX8_trace_4 : decode cX8_trace 4 = .ok (.ireturn, 1) := by decide +kernel
theorem dX8_fault_0 : decode cX8_fault 0 = .ok (.aload_n 0, 1) := by decide +kernel
theorem dX8_fault_1 : decode cX8_fault 1 = .ok (.getfield 95, 3) := by decide +kernel
theorem dX8_fault_4 : decode cX8_fault 4 = .ok (.ireturn, 1) := by decide +kernel
theorem dX8_many_0 : decode cX8_many 0 = .ok (.iload_n 1, 1) := by decide +kernel
theorem dX8_many_1 : decode cX8_many 1 = .ok (.iconst 3, 1) := by decide +kernel
theorem dX8_many_2 : decode cX8_many 2 = .ok (.if_icmp .ne 25, 3) := by decide +kernel
theorem dX8_many_5 : decode cX8_many 5 = .ok (.aload_n 0, 1) := by decide +kernel
theorem dX8_many_6 : decode cX8_many 6 = .ok (.bipush 60, 2) := by decide +kernel
theorem dX8_many_8 : decode cX8_many 8 = .ok (.invokevirtual 198, 3) := by decide +kernel
theorem dX8_many_11 : decode cX8_many 11 = .ok (.aload_n 0, 1) := by decide +kernel
theorem dX8_many_12 : decode cX8_many 12 = .ok (.getfield 105, 3) := by decide +kernel
theorem dX8_many_15 : decode cX8_many 15 = .ok (.ifCond .ne 7, 3) := by decide +kernel
theorem dX8_many_18 : decode cX8_many 18 = .ok (.iconst 0, 1) := by decide +kernel
theorem dX8_many_19 : decode cX8_many 19 = .ok (.goto 7, 3) := by decide +kernel
theorem dX8_many_22 : decode cX8_many 22 = .ok (.aload_n 0, 1) := by decide +kernel
theorem dX8_many_23 : decode cX8_many 23 = .ok (.getfield 165, 3) := by decide +kernel
theorem dX8_many_26 : decode cX8_many 26 = .ok (.ireturn, 1) := by decide +kernel
theorem dX8_many_27 : decode cX8_many 27 = .ok (.iload_n 1, 1) := by decide +kernel
theorem dX8_many_28 : decode cX8_many 28 = .ok (.ifCond .ne 10, 3) := by decide +kernel
theorem dX8_many_31 : decode cX8_many 31 = .ok (.aload_n 0, 1) := by decide +kernel
theorem dX8_many_32 : decode cX8_many 32 = .ok (.getfield 105, 3) := by decide +kernel
theorem dX8_many_35 : decode cX8_many 35 = .ok (.goto 29, 3) := by decide +kernel
theorem dX8_many_38 : decode cX8_many 38 = .ok (.iload_n 1, 1) := by decide +kernel
theorem dX8_many_39 : decode cX8_many 39 = .ok (.iconst 1, 1) := by decide +kernel
theorem dX8_many_40 : decode cX8_many 40 = .ok (.if_icmp .ne 10, 3) := by decide +kernel
theorem dX8_many_43 : decode cX8_many 43 = .ok (.aload_n 0, 1) := by decide +kernel
theorem dX8_many_44 : decode cX8_many 44 = .ok (.getfield 132, 3) := by decide +kernel
theorem dX8_many_47 : decode cX8_many 47 = .ok (.goto 17, 3) := by decide +kernel
theorem dX8_many_50 : decode cX8_many 50 = .ok (.iload_n 1, 1) := by decide +kernel
theorem dX8_many_51 : decode cX8_many 51 = .ok (.iconst 2, 1) := by decide +kernel
theorem dX8_many_52 : decode cX8_many 52 = .ok (.if_icmp .ne 10, 3) := by decide +kernel
theorem dX8_many_55 : decode cX8_many 55 = .ok (.aload_n 0, 1) := by decide +kernel
theorem dX8_many_56 : decode cX8_many 56 = .ok (.getfield 135, 3) := by decide +kernel
theorem dX8_many_59 : decode cX8_many 59 = .ok (.goto 5, 3) := by decide +kernel
theorem dX8_many_62 : decode cX8_many 62 = .ok (.bipush (-2), 2) := by decide +kernel
theorem dX8_many_64 : decode cX8_many 64 = .ok (.ireturn, 1) := by decide +kernel
