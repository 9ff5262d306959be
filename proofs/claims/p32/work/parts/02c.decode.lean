theorem dL_cell_0 : decode cL_cell 0 = .ok (.iload_n 1, 1) := by decide +kernel
theorem dL_cell_1 : decode cL_cell 1 = .ok (.aload_n 0, 1) := by decide +kernel
theorem dL_cell_2 : decode cL_cell 2 = .ok (.arraylength, 1) := by decide +kernel
theorem dL_cell_3 : decode cL_cell 3 = .ok (.if_icmp .ge 9, 3) := by decide +kernel
theorem dL_cell_6 : decode cL_cell 6 = .ok (.aload_n 0, 1) := by decide +kernel
theorem dL_cell_7 : decode cL_cell 7 = .ok (.iload_n 1, 1) := by decide +kernel
theorem dL_cell_8 : decode cL_cell 8 = .ok (.iaload, 1) := by decide +kernel
theorem dL_cell_9 : decode cL_cell 9 = .ok (.goto 9, 3) := by decide +kernel
theorem dL_cell_12 : decode cL_cell 12 = .ok (.ldc 7, 2) := by decide +kernel
theorem dL_cell_14 : decode cL_cell 14 = .ok (.iload_n 1, 1) := by decide +kernel
theorem dL_cell_15 : decode cL_cell 15 = .ok (.iconst 1, 1) := by decide +kernel
theorem dL_cell_16 : decode cL_cell 16 = .ok (.iadd, 1) := by decide +kernel
theorem dL_cell_17 : decode cL_cell 17 = .ok (.imul, 1) := by decide +kernel
theorem dL_cell_18 : decode cL_cell 18 = .ok (.ireturn, 1) := by decide +kernel
theorem dL_some_0 : decode cL_some 0 = .ok (.iload_n 0, 1) := by decide +kernel
theorem dL_some_1 : decode cL_some 1 = .ok (.ldc 8, 2) := by decide +kernel
theorem dL_some_3 : decode cL_some 3 = .ok (.iand, 1) := by decide +kernel
theorem dL_some_4 : decode cL_some 4 = .ok (.iload_n 1, 1) := by decide +kernel
theorem dL_some_5 : decode cL_some 5 = .ok (.irem, 1) := by decide +kernel
theorem dL_some_6 : decode cL_some 6 = .ok (.ireturn, 1) := by decide +kernel
theorem dL_put_0 : decode cL_put 0 = .ok (.aload_n 1, 1) := by decide +kernel
theorem dL_put_1 : decode cL_put 1 = .ok (.iload_n 2, 1) := by decide +kernel
theorem dL_put_2 : decode cL_put 2 = .ok (.invokestatic 9, 3) := by decide +kernel
theorem dL_put_5 : decode cL_put 5 = .ok (.istore 5, 2) := by decide +kernel
theorem dL_put_7 : decode cL_put 7 = .ok (.aload 4, 2) := by decide +kernel
theorem dL_put_9 : decode cL_put 9 = .ok (.iconst 0, 1) := by decide +kernel
theorem dL_put_10 : decode cL_put 10 = .ok (.iconst 2, 1) := by decide +kernel
theorem dL_put_11 : decode cL_put 11 = .ok (.iload 5, 2) := by decide +kernel
theorem dL_put_13 : decode cL_put 13 = .ok (.iload_n 3, 1) := by decide +kernel
theorem dL_put_14 : decode cL_put 14 = .ok (.iconst 1, 1) := by decide +kernel
theorem dL_put_15 : decode cL_put 15 = .ok (.isub, 1) := by decide +kernel
theorem dL_put_16 : decode cL_put 16 = .ok (.invokestatic 15, 3) := by decide +kernel
theorem dL_put_19 : decode cL_put 19 = .ok (.iadd, 1) := by decide +kernel
theorem dL_put_20 : decode cL_put 20 = .ok (.iastore, 1) := by decide +kernel
theorem dL_put_21 : decode cL_put 21 = .ok (.aload 4, 2) := by decide +kernel
theorem dL_put_23 : decode cL_put 23 = .ok (.iconst 1, 1) := by decide +kernel
theorem dL_put_24 : decode cL_put 24 = .ok (.iconst 0, 1) := by decide +kernel
theorem dL_put_25 : decode cL_put 25 = .ok (.iastore, 1) := by decide +kernel
theorem dL_put_26 : decode cL_put 26 = .ok (.aload 4, 2) := by decide +kernel
theorem dL_put_28 : decode cL_put 28 = .ok (.iconst 2, 1) := by decide +kernel
theorem dL_put_29 : decode cL_put 29 = .ok (.iconst 0, 1) := by decide +kernel
theorem dL_put_30 : decode cL_put 30 = .ok (.iastore, 1) := by decide +kernel
theorem dL_put_31 : decode cL_put 31 = .ok (.aload_n 0, 1) := by decide +kernel
theorem dL_put_32 : decode cL_put 32 = .ok (.iconst 0, 1) := by decide +kernel
theorem dL_put_33 : decode cL_put 33 = .ok (.iconst 0, 1) := by decide +kernel
theorem dL_put_34 : decode cL_put 34 = .ok (.bipush 50, 2) := by decide +kernel
theorem dL_put_36 : decode cL_put 36 = .ok (.invokevirtual 19, 3) := by decide +kernel
theorem dL_put_39 : decode cL_put 39 = .ok (.iconst 1, 1) := by decide +kernel
theorem dL_put_40 : decode cL_put 40 = .ok (.if_icmp .ne 32, 3) := by decide +kernel
theorem dL_put_43 : decode cL_put 43 = .ok (.aload_n 0, 1) := by decide +kernel
theorem dL_put_44 : decode cL_put 44 = .ok (.iconst 0, 1) := by decide +kernel
theorem dL_put_45 : decode cL_put 45 = .ok (.iconst 0, 1) := by decide +kernel
theorem dL_put_46 : decode cL_put 46 = .ok (.bipush 100, 2) := by decide +kernel
theorem dL_put_48 : decode cL_put 48 = .ok (.invokevirtual 25, 3) := by decide +kernel
theorem dL_put_51 : decode cL_put 51 = .ok (.iconst 1, 1) := by decide +kernel
theorem dL_put_52 : decode cL_put 52 = .ok (.if_icmp .ne 20, 3) := by decide +kernel
theorem dL_put_55 : decode cL_put 55 = .ok (.aload_n 0, 1) := by decide +kernel
theorem dL_put_56 : decode cL_put 56 = .ok (.iconst 0, 1) := by decide +kernel
theorem dL_put_57 : decode cL_put 57 = .ok (.iconst 1, 1) := by decide +kernel
theorem dL_put_58 : decode cL_put 58 = .ok (.bipush 48, 2) := by decide +kernel
theorem dL_put_60 : decode cL_put 60 = .ok (.aload 4, 2) := by decide +kernel
theorem dL_put_62 : decode cL_put 62 = .ok (.iconst 0, 1) := by decide +kernel
theorem dL_put_63 : decode cL_put 63 = .ok (.iaload, 1) := by decide +kernel
theorem dL_put_64 : decode cL_put 64 = .ok (.iadd, 1) := by decide +kernel
theorem dL_put_65 : decode cL_put 65 = .ok (.invokevirtual 25, 3) := by decide +kernel
theorem dL_put_68 : decode cL_put 68 = .ok (.iconst 1, 1) := by decide +kernel
theorem dL_put_69 : decode cL_put 69 = .ok (.if_icmp .eq 6, 3) := by decide +kernel
theorem dL_put_72 : decode cL_put 72 = .ok (.bipush (-99), 2) := by decide +kernel
theorem dL_put_74 : decode cL_put 74 = .ok (.ireturn, 1) := by decide +kernel
theorem dL_put_75 : decode cL_put 75 = .ok (.iconst 2, 1) := by decide +kernel
theorem dL_put_76 : decode cL_put 76 = .ok (.istore 6, 2) := by decide +kernel
theorem dL_put_78 : decode cL_put 78 = .ok (.iconst 0, 1) := by decide +kernel
theorem dL_put_79 : decode cL_put 79 = .ok (.istore 7, 2) := by decide +kernel
theorem dL_put_81 : decode cL_put 81 = .ok (.iload 7, 2) := by decide +kernel
theorem dL_put_83 : decode cL_put 83 = .ok (.aload 4, 2) := by decide +kernel
theorem dL_put_85 : decode cL_put 85 = .ok (.iconst 0, 1) := by decide +kernel
theorem dL_put_86 : decode cL_put 86 = .ok (.iaload, 1) := by decide +kernel
theorem dL_put_87 : decode cL_put 87 = .ok (.if_icmp .ge 275, 3) := by decide +kernel
theorem dL_put_90 : decode cL_put 90 = .ok (.aload_n 1, 1) := by decide +kernel
theorem dL_put_91 : decode cL_put 91 = .ok (.iload_n 2, 1) := by decide +kernel
theorem dL_put_92 : decode cL_put 92 = .ok (.iconst 1, 1) := by decide +kernel
theorem dL_put_93 : decode cL_put 93 = .ok (.iadd, 1) := by decide +kernel
theorem dL_put_94 : decode cL_put 94 = .ok (.iload 7, 2) := by decide +kernel
theorem dL_put_96 : decode cL_put 96 = .ok (.iconst 3, 1) := by decide +kernel
theorem dL_put_97 : decode cL_put 97 = .ok (.irem, 1) := by decide +kernel
theorem dL_put_98 : decode cL_put 98 = .ok (.iadd, 1) := by decide +kernel
theorem dL_put_99 : decode cL_put 99 = .ok (.invokestatic 9, 3) := by decide +kernel
theorem dL_put_102 : decode cL_put 102 = .ok (.iload 7, 2) := by decide +kernel
theorem dL_put_104 : decode cL_put 104 = .ok (.iconst 3, 1) := by decide +kernel
theorem dL_put_105 : decode cL_put 105 = .ok (.idiv, 1) := by decide +kernel
theorem dL_put_106 : decode cL_put 106 = .ok (.bipush 9, 2) := by decide +kernel
theorem dL_put_108 : decode cL_put 108 = .ok (.imul, 1) := by decide +kernel
theorem dL_put_109 : decode cL_put 109 = .ok (.ishr, 1) := by decide +kernel
theorem dL_put_110 : decode cL_put 110 = .ok (.istore 8, 2) := by decide +kernel
theorem dL_put_112 : decode cL_put 112 = .ok (.aload 4, 2) := by decide +kernel
theorem dL_put_114 : decode cL_put 114 = .ok (.iconst 3, 1) := by decide +kernel
theorem dL_put_115 : decode cL_put 115 = .ok (.iload 7, 2) := by decide +kernel
theorem dL_put_117 : decode cL_put 117 = .ok (.iadd, 1) := by decide +kernel
theorem dL_put_118 : decode cL_put 118 = .ok (.iload 8, 2) := by decide +kernel
theorem dL_put_120 : decode cL_put 120 = .ok (.iconst 3, 1) := by decide +kernel
theorem dL_put_121 : decode cL_put 121 = .ok (.invokestatic 15, 3) := by decide +kernel
theorem dL_put_124 : decode cL_put 124 = .ok (.iastore, 1) := by decide +kernel
theorem dL_put_125 : decode cL_put 125 = .ok (.aload 4, 2) := by decide +kernel
theorem dL_put_127 : decode cL_put 127 = .ok (.bipush 9, 2) := by decide +kernel
theorem dL_put_129 : decode cL_put 129 = .ok (.iload 7, 2) := by decide +kernel
theorem dL_put_131 : decode cL_put 131 = .ok (.iadd, 1) := by decide +kernel
theorem dL_put_132 : decode cL_put 132 = .ok (.iconst 1, 1) := by decide +kernel
theorem dL_put_133 : decode cL_put 133 = .ok (.iload 8, 2) := by decide +kernel
theorem dL_put_135 : decode cL_put 135 = .ok (.iconst 2, 1) := by decide +kernel
theorem dL_put_136 : decode cL_put 136 = .ok (.ishr, 1) := by decide +kernel
theorem dL_put_137 : decode cL_put 137 = .ok (.bipush 9, 2) := by decide +kernel
theorem dL_put_139 : decode cL_put 139 = .ok (.invokestatic 15, 3) := by decide +kernel
theorem dL_put_142 : decode cL_put 142 = .ok (.iadd, 1) := by decide +kernel
theorem dL_put_143 : decode cL_put 143 = .ok (.iastore, 1) := by decide +kernel
theorem dL_put_144 : decode cL_put 144 = .ok (.aload 4, 2) := by decide +kernel
theorem dL_put_146 : decode cL_put 146 = .ok (.bipush 15, 2) := by decide +kernel
theorem dL_put_148 : decode cL_put 148 = .ok (.iconst 2, 1) := by decide +kernel
theorem dL_put_149 : decode cL_put 149 = .ok (.iload 7, 2) := by decide +kernel
theorem dL_put_151 : decode cL_put 151 = .ok (.imul, 1) := by decide +kernel
theorem dL_put_152 : decode cL_put 152 = .ok (.iadd, 1) := by decide +kernel
theorem dL_put_153 : decode cL_put 153 = .ok (.iload 7, 2) := by decide +kernel
theorem dL_put_155 : decode cL_put 155 = .ok (.iconst 1, 1) := by decide +kernel
theorem dL_put_156 : decode cL_put 156 = .ok (.iadd, 1) := by decide +kernel
theorem dL_put_157 : decode cL_put 157 = .ok (.iload 8, 2) := by decide +kernel
theorem dL_put_159 : decode cL_put 159 = .ok (.iconst 5, 1) := by decide +kernel
theorem dL_put_160 : decode cL_put 160 = .ok (.ishr, 1) := by decide +kernel
theorem dL_put_161 : decode cL_put 161 = .ok (.aload 4, 2) := by decide +kernel
theorem dL_put_163 : decode cL_put 163 = .ok (.iconst 0, 1) := by decide +kernel
theorem dL_put_164 : decode cL_put 164 = .ok (.iaload, 1) := by decide +kernel
theorem dL_put_165 : decode cL_put 165 = .ok (.iconst 1, 1) := by decide +kernel
theorem dL_put_166 : decode cL_put 166 = .ok (.isub, 1) := by decide +kernel
theorem dL_put_167 : decode cL_put 167 = .ok (.invokestatic 15, 3) := by decide +kernel
theorem dL_put_170 : decode cL_put 170 = .ok (.iadd, 1) := by decide +kernel
theorem dL_put_171 : decode cL_put 171 = .ok (.aload 4, 2) := by decide +kernel
theorem dL_put_173 : decode cL_put 173 = .ok (.iconst 0, 1) := by decide +kernel
theorem dL_put_174 : decode cL_put 174 = .ok (.iaload, 1) := by decide +kernel
theorem dL_put_175 : decode cL_put 175 = .ok (.irem, 1) := by decide +kernel
theorem dL_put_176 : decode cL_put 176 = .ok (.iastore, 1) := by decide +kernel
theorem dL_put_177 : decode cL_put 177 = .ok (.aload 4, 2) := by decide +kernel
theorem dL_put_179 : decode cL_put 179 = .ok (.bipush 16, 2) := by decide +kernel
theorem dL_put_181 : decode cL_put 181 = .ok (.iconst 2, 1) := by decide +kernel
theorem dL_put_182 : decode cL_put 182 = .ok (.iload 7, 2) := by decide +kernel
theorem dL_put_184 : decode cL_put 184 = .ok (.imul, 1) := by decide +kernel
theorem dL_put_185 : decode cL_put 185 = .ok (.iadd, 1) := by decide +kernel
theorem dL_put_186 : decode cL_put 186 = .ok (.iload 7, 2) := by decide +kernel
theorem dL_put_188 : decode cL_put 188 = .ok (.iconst 1, 1) := by decide +kernel
theorem dL_put_189 : decode cL_put 189 = .ok (.iadd, 1) := by decide +kernel
theorem dL_put_190 : decode cL_put 190 = .ok (.iload 8, 2) := by decide +kernel
theorem dL_put_192 : decode cL_put 192 = .ok (.bipush 7, 2) := by decide +kernel
theorem dL_put_194 : decode cL_put 194 = .ok (.ishr, 1) := by decide +kernel
theorem dL_put_195 : decode cL_put 195 = .ok (.aload 4, 2) := by decide +kernel
theorem dL_put_197 : decode cL_put 197 = .ok (.iconst 0, 1) := by decide +kernel
theorem dL_put_198 : decode cL_put 198 = .ok (.iaload, 1) := by decide +kernel
theorem dL_put_199 : decode cL_put 199 = .ok (.iconst 1, 1) := by decide +kernel
theorem dL_put_200 : decode cL_put 200 = .ok (.isub, 1) := by decide +kernel
theorem dL_put_201 : decode cL_put 201 = .ok (.invokestatic 15, 3) := by decide +kernel
theorem dL_put_204 : decode cL_put 204 = .ok (.iadd, 1) := by decide +kernel
theorem dL_put_205 : decode cL_put 205 = .ok (.aload 4, 2) := by decide +kernel
theorem dL_put_207 : decode cL_put 207 = .ok (.iconst 0, 1) := by decide +kernel
theorem dL_put_208 : decode cL_put 208 = .ok (.iaload, 1) := by decide +kernel
theorem dL_put_209 : decode cL_put 209 = .ok (.irem, 1) := by decide +kernel
theorem dL_put_210 : decode cL_put 210 = .ok (.iastore, 1) := by decide +kernel
theorem dL_put_211 : decode cL_put 211 = .ok (.aload_n 0, 1) := by decide +kernel
theorem dL_put_212 : decode cL_put 212 = .ok (.iconst 0, 1) := by decide +kernel
theorem dL_put_213 : decode cL_put 213 = .ok (.iload 6, 2) := by decide +kernel
theorem dL_put_215 : decode cL_put 215 = .ok (.iinc 6 1, 3) := by decide +kernel
theorem dL_put_218 : decode cL_put 218 = .ok (.bipush 59, 2) := by decide +kernel
theorem dL_put_220 : decode cL_put 220 = .ok (.invokevirtual 25, 3) := by decide +kernel
theorem dL_put_223 : decode cL_put 223 = .ok (.iconst 1, 1) := by decide +kernel
theorem dL_put_224 : decode cL_put 224 = .ok (.if_icmp .ne 129, 3) := by decide +kernel
theorem dL_put_227 : decode cL_put 227 = .ok (.aload_n 0, 1) := by decide +kernel
theorem dL_put_228 : decode cL_put 228 = .ok (.iconst 0, 1) := by decide +kernel
theorem dL_put_229 : decode cL_put 229 = .ok (.iload 6, 2) := by decide +kernel
theorem dL_put_231 : decode cL_put 231 = .ok (.iinc 6 1, 3) := by decide +kernel
theorem dL_put_234 : decode cL_put 234 = .ok (.aload 4, 2) := by decide +kernel
theorem dL_put_236 : decode cL_put 236 = .ok (.iconst 3, 1) := by decide +kernel
theorem dL_put_237 : decode cL_put 237 = .ok (.iload 7, 2) := by decide +kernel
theorem dL_put_239 : decode cL_put 239 = .ok (.iadd, 1) := by decide +kernel
theorem dL_put_240 : decode cL_put 240 = .ok (.iaload, 1) := by decide +kernel
theorem dL_put_241 : decode cL_put 241 = .ok (.ifCond .ne 8, 3) := by decide +kernel
theorem dL_put_244 : decode cL_put 244 = .ok (.bipush 103, 2) := by decide +kernel
theorem dL_put_246 : decode cL_put 246 = .ok (.goto 21, 3) := by decide +kernel
theorem dL_put_249 : decode cL_put 249 = .ok (.aload 4, 2) := by decide +kernel
theorem dL_put_251 : decode cL_put 251 = .ok (.iconst 3, 1) := by decide +kernel
theorem dL_put_252 : decode cL_put 252 = .ok (.iload 7, 2) := by decide +kernel
theorem dL_put_254 : decode cL_put 254 = .ok (.iadd, 1) := by decide +kernel
theorem dL_put_255 : decode cL_put 255 = .ok (.iaload, 1) := by decide +kernel
theorem dL_put_256 : decode cL_put 256 = .ok (.iconst 1, 1) := by decide +kernel
theorem dL_put_257 : decode cL_put 257 = .ok (.if_icmp .ne 8, 3) := by decide +kernel
theorem dL_put_260 : decode cL_put 260 = .ok (.bipush 104, 2) := by decide +kernel
theorem dL_put_262 : decode cL_put 262 = .ok (.goto 5, 3) := by decide +kernel
theorem dL_put_265 : decode cL_put 265 = .ok (.bipush 111, 2) := by decide +kernel
theorem dL_put_267 : decode cL_put 267 = .ok (.invokevirtual 25, 3) := by decide +kernel
theorem dL_put_270 : decode cL_put 270 = .ok (.iconst 1, 1) := by decide +kernel
theorem dL_put_271 : decode cL_put 271 = .ok (.if_icmp .ne 82, 3) := by decide +kernel
theorem dL_put_274 : decode cL_put 274 = .ok (.aload_n 0, 1) := by decide +kernel
theorem dL_put_275 : decode cL_put 275 = .ok (.iconst 0, 1) := by decide +kernel
theorem dL_put_276 : decode cL_put 276 = .ok (.iload 6, 2) := by decide +kernel
theorem dL_put_278 : decode cL_put 278 = .ok (.iinc 6 1, 3) := by decide +kernel
theorem dL_put_281 : decode cL_put 281 = .ok (.bipush 48, 2) := by decide +kernel
theorem dL_put_283 : decode cL_put 283 = .ok (.aload 4, 2) := by decide +kernel
theorem dL_put_285 : decode cL_put 285 = .ok (.bipush 9, 2) := by decide +kernel
theorem dL_put_287 : decode cL_put 287 = .ok (.iload 7, 2) := by decide +kernel
theorem dL_put_289 : decode cL_put 289 = .ok (.iadd, 1) := by decide +kernel
theorem dL_put_290 : decode cL_put 290 = .ok (.iaload, 1) := by decide +kernel
theorem dL_put_291 : decode cL_put 291 = .ok (.iadd, 1) := by decide +kernel
theorem dL_put_292 : decode cL_put 292 = .ok (.invokevirtual 25, 3) := by decide +kernel
theorem dL_put_295 : decode cL_put 295 = .ok (.iconst 1, 1) := by decide +kernel
theorem dL_put_296 : decode cL_put 296 = .ok (.if_icmp .ne 57, 3) := by decide +kernel
theorem dL_put_299 : decode cL_put 299 = .ok (.aload_n 0, 1) := by decide +kernel
theorem dL_put_300 : decode cL_put 300 = .ok (.iconst 0, 1) := by decide +kernel
theorem dL_put_301 : decode cL_put 301 = .ok (.iload 6, 2) := by decide +kernel
theorem dL_put_303 : decode cL_put 303 = .ok (.iinc 6 1, 3) := by decide +kernel
theorem dL_put_306 : decode cL_put 306 = .ok (.bipush 48, 2) := by decide +kernel
theorem dL_put_308 : decode cL_put 308 = .ok (.aload 4, 2) := by decide +kernel
theorem dL_put_310 : decode cL_put 310 = .ok (.bipush 15, 2) := by decide +kernel
theorem dL_put_312 : decode cL_put 312 = .ok (.iconst 2, 1) := by decide +kernel
theorem dL_put_313 : decode cL_put 313 = .ok (.iload 7, 2) := by decide +kernel
theorem dL_put_315 : decode cL_put 315 = .ok (.imul, 1) := by decide +kernel
theorem dL_put_316 : decode cL_put 316 = .ok (.iadd, 1) := by decide +kernel
theorem dL_put_317 : decode cL_put 317 = .ok (.iaload, 1) := by decide +kernel
theorem dL_put_318 : decode cL_put 318 = .ok (.iadd, 1) := by decide +kernel
theorem dL_put_319 : decode cL_put 319 = .ok (.invokevirtual 25, 3) := by decide +kernel
theorem dL_put_322 : decode cL_put 322 = .ok (.iconst 1, 1) := by decide +kernel
theorem dL_put_323 : decode cL_put 323 = .ok (.if_icmp .ne 30, 3) := by decide +kernel
theorem dL_put_326 : decode cL_put 326 = .ok (.aload_n 0, 1) := by decide +kernel
theorem dL_put_327 : decode cL_put 327 = .ok (.iconst 0, 1) := by decide +kernel
theorem dL_put_328 : decode cL_put 328 = .ok (.iload 6, 2) := by decide +kernel
theorem dL_put_330 : decode cL_put 330 = .ok (.iinc 6 1, 3) := by decide +kernel
theorem dL_put_333 : decode cL_put 333 = .ok (.bipush 48, 2) := by decide +kernel
theorem dL_put_335 : decode cL_put 335 = .ok (.aload 4, 2) := by decide +kernel
theorem dL_put_337 : decode cL_put 337 = .ok (.bipush 16, 2) := by decide +kernel
theorem dL_put_339 : decode cL_put 339 = .ok (.iconst 2, 1) := by decide +kernel
theorem dL_put_340 : decode cL_put 340 = .ok (.iload 7, 2) := by decide +kernel
theorem dL_put_342 : decode cL_put 342 = .ok (.imul, 1) := by decide +kernel
theorem dL_put_343 : decode cL_put 343 = .ok (.iadd, 1) := by decide +kernel
theorem dL_put_344 : decode cL_put 344 = .ok (.iaload, 1) := by decide +kernel
theorem dL_put_345 : decode cL_put 345 = .ok (.iadd, 1) := by decide +kernel
theorem dL_put_346 : decode cL_put 346 = .ok (.invokevirtual 25, 3) := by decide +kernel
theorem dL_put_349 : decode cL_put 349 = .ok (.iconst 1, 1) := by decide +kernel
theorem dL_put_350 : decode cL_put 350 = .ok (.if_icmp .eq 6, 3) := by decide +kernel
theorem dL_put_353 : decode cL_put 353 = .ok (.bipush (-99), 2) := by decide +kernel
theorem dL_put_355 : decode cL_put 355 = .ok (.ireturn, 1) := by decide +kernel
theorem dL_put_356 : decode cL_put 356 = .ok (.iinc 7 1, 3) := by decide +kernel
theorem dL_put_359 : decode cL_put 359 = .ok (.goto (-278), 3) := by decide +kernel
theorem dL_put_362 : decode cL_put 362 = .ok (.iload 6, 2) := by decide +kernel
theorem dL_put_364 : decode cL_put 364 = .ok (.ireturn, 1) := by decide +kernel
theorem dL_change_0 : decode cL_change 0 = .ok (.aload_n 3, 1) := by decide +kernel
theorem dL_change_1 : decode cL_change 1 = .ok (.iconst 1, 1) := by decide +kernel
theorem dL_change_2 : decode cL_change 2 = .ok (.iaload, 1) := by decide +kernel
theorem dL_change_3 : decode cL_change 3 = .ok (.iconst 4, 1) := by decide +kernel
theorem dL_change_4 : decode cL_change 4 = .ok (.if_icmp .gt 14, 3) := by decide +kernel
theorem dL_change_7 : decode cL_change 7 = .ok (.iload_n 1, 1) := by decide +kernel
theorem dL_change_8 : decode cL_change 8 = .ok (.bipush 19, 2) := by decide +kernel
theorem dL_change_10 : decode cL_change 10 = .ok (.ishr, 1) := by decide +kernel
theorem dL_change_11 : decode cL_change 11 = .ok (.iconst 4, 1) := by decide +kernel
theorem dL_change_12 : decode cL_change 12 = .ok (.invokestatic 15, 3) := by decide +kernel
theorem dL_change_15 : decode cL_change 15 = .ok (.ifCond .ne 42, 3) := by decide +kernel
theorem dL_change_18 : decode cL_change 18 = .ok (.iload_n 2, 1) := by decide +kernel
theorem dL_change_19 : decode cL_change 19 = .ok (.bipush 17, 2) := by decide +kernel
theorem dL_change_21 : decode cL_change 21 = .ok (.ishr, 1) := by decide +kernel
theorem dL_change_22 : decode cL_change 22 = .ok (.aload_n 3, 1) := by decide +kernel
theorem dL_change_23 : decode cL_change 23 = .ok (.iconst 1, 1) := by decide +kernel
theorem dL_change_24 : decode cL_change 24 = .ok (.iaload, 1) := by decide +kernel
theorem dL_change_25 : decode cL_change 25 = .ok (.iconst 1, 1) := by decide +kernel
theorem dL_change_26 : decode cL_change 26 = .ok (.iadd, 1) := by decide +kernel
theorem dL_change_27 : decode cL_change 27 = .ok (.invokestatic 15, 3) := by decide +kernel
theorem dL_change_30 : decode cL_change 30 = .ok (.istore 5, 2) := by decide +kernel
theorem dL_change_32 : decode cL_change 32 = .ok (.aload_n 0, 1) := by decide +kernel
theorem dL_change_33 : decode cL_change 33 = .ok (.iload 5, 2) := by decide +kernel
theorem dL_change_35 : decode cL_change 35 = .ok (.invokevirtual 28, 3) := by decide +kernel
theorem dL_change_38 : decode cL_change 38 = .ok (.aload_n 3, 1) := by decide +kernel
theorem dL_change_39 : decode cL_change 39 = .ok (.iconst 1, 1) := by decide +kernel
theorem dL_change_40 : decode cL_change 40 = .ok (.iaload, 1) := by decide +kernel
theorem dL_change_41 : decode cL_change 41 = .ok (.iload 5, 2) := by decide +kernel
theorem dL_change_43 : decode cL_change 43 = .ok (.isub, 1) := by decide +kernel
theorem dL_change_44 : decode cL_change 44 = .ok (.if_icmp .eq 5, 3) := by decide +kernel
theorem dL_change_47 : decode cL_change 47 = .ok (.iconst 0, 1) := by decide +kernel
theorem dL_change_48 : decode cL_change 48 = .ok (.ireturn, 1) := by decide +kernel
theorem dL_change_49 : decode cL_change 49 = .ok (.aload_n 3, 1) := by decide +kernel
theorem dL_change_50 : decode cL_change 50 = .ok (.iconst 1, 1) := by decide +kernel
theorem dL_change_51 : decode cL_change 51 = .ok (.dup2, 1) := by decide +kernel
theorem dL_change_52 : decode cL_change 52 = .ok (.iaload, 1) := by decide +kernel
theorem dL_change_53 : decode cL_change 53 = .ok (.iload 5, 2) := by decide +kernel
theorem dL_change_55 : decode cL_change 55 = .ok (.isub, 1) := by decide +kernel
theorem dL_change_56 : decode cL_change 56 = .ok (.iastore, 1) := by decide +kernel
theorem dL_change_57 : decode cL_change 57 = .ok (.iconst 0, 1) := by decide +kernel
theorem dL_change_58 : decode cL_change 58 = .ok (.istore 5, 2) := by decide +kernel
theorem dL_change_60 : decode cL_change 60 = .ok (.iload 5, 2) := by decide +kernel
theorem dL_change_62 : decode cL_change 62 = .ok (.iconst 3, 1) := by decide +kernel
theorem dL_change_63 : decode cL_change 63 = .ok (.if_icmp .ge 174, 3) := by decide +kernel
theorem dL_change_66 : decode cL_change 66 = .ok (.aload_n 3, 1) := by decide +kernel
theorem dL_change_67 : decode cL_change 67 = .ok (.iconst 1, 1) := by decide +kernel
theorem dL_change_68 : decode cL_change 68 = .ok (.iaload, 1) := by decide +kernel
theorem dL_change_69 : decode cL_change 69 = .ok (.bipush 8, 2) := by decide +kernel
theorem dL_change_71 : decode cL_change 71 = .ok (.if_icmp .ne 6, 3) := by decide +kernel
theorem dL_change_74 : decode cL_change 74 = .ok (.goto 157, 3) := by decide +kernel
theorem dL_change_77 : decode cL_change 77 = .ok (.iload_n 1, 1) := by decide +kernel
theorem dL_change_78 : decode cL_change 78 = .ok (.iconst 3, 1) := by decide +kernel
theorem dL_change_79 : decode cL_change 79 = .ok (.iload 5, 2) := by decide +kernel
theorem dL_change_81 : decode cL_change 81 = .ok (.imul, 1) := by decide +kernel
theorem dL_change_82 : decode cL_change 82 = .ok (.ishr, 1) := by decide +kernel
theorem dL_change_83 : decode cL_change 83 = .ok (.aload_n 3, 1) := by decide +kernel
theorem dL_change_84 : decode cL_change 84 = .ok (.iconst 0, 1) := by decide +kernel
theorem dL_change_85 : decode cL_change 85 = .ok (.iaload, 1) := by decide +kernel
theorem dL_change_86 : decode cL_change 86 = .ok (.invokestatic 15, 3) := by decide +kernel
theorem dL_change_89 : decode cL_change 89 = .ok (.istore 6, 2) := by decide +kernel
theorem dL_change_91 : decode cL_change 91 = .ok (.iload 6, 2) := by decide +kernel
theorem dL_change_93 : decode cL_change 93 = .ok (.iconst 1, 1) := by decide +kernel
theorem dL_change_94 : decode cL_change 94 = .ok (.iadd, 1) := by decide +kernel
theorem dL_change_95 : decode cL_change 95 = .ok (.iload_n 1, 1) := by decide +kernel
theorem dL_change_96 : decode cL_change 96 = .ok (.iconst 2, 1) := by decide +kernel
theorem dL_change_97 : decode cL_change 97 = .ok (.iconst 3, 1) := by decide +kernel
theorem dL_change_98 : decode cL_change 98 = .ok (.iload 5, 2) := by decide +kernel
theorem dL_change_100 : decode cL_change 100 = .ok (.imul, 1) := by decide +kernel
theorem dL_change_101 : decode cL_change 101 = .ok (.iadd, 1) := by decide +kernel
theorem dL_change_102 : decode cL_change 102 = .ok (.ishr, 1) := by decide +kernel
theorem dL_change_103 : decode cL_change 103 = .ok (.aload_n 3, 1) := by decide +kernel
theorem dL_change_104 : decode cL_change 104 = .ok (.iconst 0, 1) := by decide +kernel
theorem dL_change_105 : decode cL_change 105 = .ok (.iaload, 1) := by decide +kernel
theorem dL_change_106 : decode cL_change 106 = .ok (.iconst 1, 1) := by decide +kernel
theorem dL_change_107 : decode cL_change 107 = .ok (.isub, 1) := by decide +kernel
theorem dL_change_108 : decode cL_change 108 = .ok (.invokestatic 15, 3) := by decide +kernel
theorem dL_change_111 : decode cL_change 111 = .ok (.iadd, 1) := by decide +kernel
theorem dL_change_112 : decode cL_change 112 = .ok (.aload_n 3, 1) := by decide +kernel
theorem dL_change_113 : decode cL_change 113 = .ok (.iconst 0, 1) := by decide +kernel
theorem dL_change_114 : decode cL_change 114 = .ok (.iaload, 1) := by decide +kernel
theorem dL_change_115 : decode cL_change 115 = .ok (.irem, 1) := by decide +kernel
theorem dL_change_116 : decode cL_change 116 = .ok (.istore 7, 2) := by decide +kernel
theorem dL_change_118 : decode cL_change 118 = .ok (.iload_n 2, 1) := by decide +kernel
theorem dL_change_119 : decode cL_change 119 = .ok (.iconst 3, 1) := by decide +kernel
theorem dL_change_120 : decode cL_change 120 = .ok (.iload 5, 2) := by decide +kernel
theorem dL_change_122 : decode cL_change 122 = .ok (.imul, 1) := by decide +kernel
theorem dL_change_123 : decode cL_change 123 = .ok (.ishr, 1) := by decide +kernel
theorem dL_change_124 : decode cL_change 124 = .ok (.iload_n 1, 1) := by decide +kernel
theorem dL_change_125 : decode cL_change 125 = .ok (.bipush 17, 2) := by decide +kernel
theorem dL_change_127 : decode cL_change 127 = .ok (.ishr, 1) := by decide +kernel
theorem dL_change_128 : decode cL_change 128 = .ok (.iconst 2, 1) := by decide +kernel
theorem dL_change_129 : decode cL_change 129 = .ok (.invokestatic 15, 3) := by decide +kernel
theorem dL_change_132 : decode cL_change 132 = .ok (.ifCond .ne 8, 3) := by decide +kernel
theorem dL_change_135 : decode cL_change 135 = .ok (.bipush 30, 2) := by decide +kernel
theorem dL_change_137 : decode cL_change 137 = .ok (.goto 4, 3) := by decide +kernel
theorem dL_change_140 : decode cL_change 140 = .ok (.iconst 4, 1) := by decide +kernel
theorem dL_change_141 : decode cL_change 141 = .ok (.invokestatic 15, 3) := by decide +kernel
theorem dL_change_144 : decode cL_change 144 = .ok (.istore 8, 2) := by decide +kernel
theorem dL_change_146 : decode cL_change 146 = .ok (.iconst 1, 1) := by decide +kernel
theorem dL_change_147 : decode cL_change 147 = .ok (.iload_n 2, 1) := by decide +kernel
theorem dL_change_148 : decode cL_change 148 = .ok (.iconst 5, 1) := by decide +kernel
theorem dL_change_149 : decode cL_change 149 = .ok (.iconst 3, 1) := by decide +kernel
theorem dL_change_150 : decode cL_change 150 = .ok (.iload 5, 2) := by decide +kernel
theorem dL_change_152 : decode cL_change 152 = .ok (.imul, 1) := by decide +kernel
theorem dL_change_153 : decode cL_change 153 = .ok (.iadd, 1) := by decide +kernel
theorem dL_change_154 : decode cL_change 154 = .ok (.ishr, 1) := by decide +kernel
theorem dL_change_155 : decode cL_change 155 = .ok (.bipush 9, 2) := by decide +kernel
theorem dL_change_157 : decode cL_change 157 = .ok (.invokestatic 15, 3) := by decide +kernel
theorem dL_change_160 : decode cL_change 160 = .ok (.iadd, 1) := by decide +kernel
theorem dL_change_161 : decode cL_change 161 = .ok (.istore 9, 2) := by decide +kernel
theorem dL_change_163 : decode cL_change 163 = .ok (.aload_n 0, 1) := by decide +kernel
theorem dL_change_164 : decode cL_change 164 = .ok (.iload 6, 2) := by decide +kernel
theorem dL_change_166 : decode cL_change 166 = .ok (.iload 7, 2) := by decide +kernel
theorem dL_change_168 : decode cL_change 168 = .ok (.iload 8, 2) := by decide +kernel
theorem dL_change_170 : decode cL_change 170 = .ok (.iload 9, 2) := by decide +kernel
theorem dL_change_172 : decode cL_change 172 = .ok (.invokevirtual 32, 3) := by decide +kernel
theorem dL_change_175 : decode cL_change 175 = .ok (.aload_n 3, 1) := by decide +kernel
theorem dL_change_176 : decode cL_change 176 = .ok (.iconst 1, 1) := by decide +kernel
theorem dL_change_177 : decode cL_change 177 = .ok (.iaload, 1) := by decide +kernel
theorem dL_change_178 : decode cL_change 178 = .ok (.if_icmp .eq 5, 3) := by decide +kernel
theorem dL_change_181 : decode cL_change 181 = .ok (.iconst 0, 1) := by decide +kernel
theorem dL_change_182 : decode cL_change 182 = .ok (.ireturn, 1) := by decide +kernel
theorem dL_change_183 : decode cL_change 183 = .ok (.iconst 4, 1) := by decide +kernel
theorem dL_change_184 : decode cL_change 184 = .ok (.aload_n 3, 1) := by decide +kernel
theorem dL_change_185 : decode cL_change 185 = .ok (.iconst 1, 1) := by decide +kernel
theorem dL_change_186 : decode cL_change 186 = .ok (.iaload, 1) := by decide +kernel
theorem dL_change_187 : decode cL_change 187 = .ok (.imul, 1) := by decide +kernel
theorem dL_change_188 : decode cL_change 188 = .ok (.istore 10, 2) := by decide +kernel
theorem dL_change_190 : decode cL_change 190 = .ok (.aload 4, 2) := by decide +kernel
theorem dL_change_192 : decode cL_change 192 = .ok (.iload 10, 2) := by decide +kernel
theorem dL_change_194 : decode cL_change 194 = .ok (.iload 6, 2) := by decide +kernel
theorem dL_change_196 : decode cL_change 196 = .ok (.iastore, 1) := by decide +kernel
theorem dL_change_197 : decode cL_change 197 = .ok (.aload 4, 2) := by decide +kernel
theorem dL_change_199 : decode cL_change 199 = .ok (.iload 10, 2) := by decide +kernel
theorem dL_change_201 : decode cL_change 201 = .ok (.iconst 1, 1) := by decide +kernel
theorem dL_change_202 : decode cL_change 202 = .ok (.iadd, 1) := by decide +kernel
theorem dL_change_203 : decode cL_change 203 = .ok (.iload 7, 2) := by decide +kernel
theorem dL_change_205 : decode cL_change 205 = .ok (.iastore, 1) := by decide +kernel
theorem dL_change_206 : decode cL_change 206 = .ok (.aload 4, 2) := by decide +kernel
theorem dL_change_208 : decode cL_change 208 = .ok (.iload 10, 2) := by decide +kernel
theorem dL_change_210 : decode cL_change 210 = .ok (.iconst 2, 1) := by decide +kernel
theorem dL_change_211 : decode cL_change 211 = .ok (.iadd, 1) := by decide +kernel
theorem dL_change_212 : decode cL_change 212 = .ok (.iload 8, 2) := by decide +kernel
theorem dL_change_214 : decode cL_change 214 = .ok (.iastore, 1) := by decide +kernel
theorem dL_change_215 : decode cL_change 215 = .ok (.aload 4, 2) := by decide +kernel
theorem dL_change_217 : decode cL_change 217 = .ok (.iload 10, 2) := by decide +kernel
theorem dL_change_219 : decode cL_change 219 = .ok (.iconst 3, 1) := by decide +kernel
theorem dL_change_220 : decode cL_change 220 = .ok (.iadd, 1) := by decide +kernel
theorem dL_change_221 : decode cL_change 221 = .ok (.iload 9, 2) := by decide +kernel
theorem dL_change_223 : decode cL_change 223 = .ok (.iastore, 1) := by decide +kernel
theorem dL_change_224 : decode cL_change 224 = .ok (.aload_n 3, 1) := by decide +kernel
theorem dL_change_225 : decode cL_change 225 = .ok (.iconst 1, 1) := by decide +kernel
theorem dL_change_226 : decode cL_change 226 = .ok (.dup2, 1) := by decide +kernel
theorem dL_change_227 : decode cL_change 227 = .ok (.iaload, 1) := by decide +kernel
theorem dL_change_228 : decode cL_change 228 = .ok (.iconst 1, 1) := by decide +kernel
theorem dL_change_229 : decode cL_change 229 = .ok (.iadd, 1) := by decide +kernel
theorem dL_change_230 : decode cL_change 230 = .ok (.iastore, 1) := by decide +kernel
theorem dL_change_231 : decode cL_change 231 = .ok (.iinc 5 1, 3) := by decide +kernel
theorem dL_change_234 : decode cL_change 234 = .ok (.goto (-174), 3) := by decide +kernel
theorem dL_change_237 : decode cL_change 237 = .ok (.iload_n 2, 1) := by decide +kernel
theorem dL_change_238 : decode cL_change 238 = .ok (.bipush 13, 2) := by decide +kernel
theorem dL_change_240 : decode cL_change 240 = .ok (.ishr, 1) := by decide +kernel
theorem dL_change_241 : decode cL_change 241 = .ok (.aload_n 3, 1) := by decide +kernel
theorem dL_change_242 : decode cL_change 242 = .ok (.iconst 0, 1) := by decide +kernel
theorem dL_change_243 : decode cL_change 243 = .ok (.iaload, 1) := by decide +kernel
theorem dL_change_244 : decode cL_change 244 = .ok (.invokestatic 15, 3) := by decide +kernel
theorem dL_change_247 : decode cL_change 247 = .ok (.istore 5, 2) := by decide +kernel
theorem dL_change_249 : decode cL_change 249 = .ok (.iload_n 1, 1) := by decide +kernel
theorem dL_change_250 : decode cL_change 250 = .ok (.bipush 14, 2) := by decide +kernel
theorem dL_change_252 : decode cL_change 252 = .ok (.ishr, 1) := by decide +kernel
theorem dL_change_253 : decode cL_change 253 = .ok (.iconst 5, 1) := by decide +kernel
theorem dL_change_254 : decode cL_change 254 = .ok (.invokestatic 15, 3) := by decide +kernel
theorem dL_change_257 : decode cL_change 257 = .ok (.ifCond .ne 7, 3) := by decide +kernel
theorem dL_change_260 : decode cL_change 260 = .ok (.iconst 1, 1) := by decide +kernel
theorem dL_change_261 : decode cL_change 261 = .ok (.goto 4, 3) := by decide +kernel
theorem dL_change_264 : decode cL_change 264 = .ok (.iconst 0, 1) := by decide +kernel
theorem dL_change_265 : decode cL_change 265 = .ok (.istore 6, 2) := by decide +kernel
theorem dL_change_267 : decode cL_change 267 = .ok (.aload_n 0, 1) := by decide +kernel
theorem dL_change_268 : decode cL_change 268 = .ok (.iload 5, 2) := by decide +kernel
theorem dL_change_270 : decode cL_change 270 = .ok (.iload 6, 2) := by decide +kernel
theorem dL_change_272 : decode cL_change 272 = .ok (.invokevirtual 36, 3) := by decide +kernel
theorem dL_change_275 : decode cL_change 275 = .ok (.aload_n 3, 1) := by decide +kernel
theorem dL_change_276 : decode cL_change 276 = .ok (.iconst 2, 1) := by decide +kernel
theorem dL_change_277 : decode cL_change 277 = .ok (.iaload, 1) := by decide +kernel
theorem dL_change_278 : decode cL_change 278 = .ok (.iload 5, 2) := by decide +kernel
theorem dL_change_280 : decode cL_change 280 = .ok (.ishr, 1) := by decide +kernel
theorem dL_change_281 : decode cL_change 281 = .ok (.iconst 1, 1) := by decide +kernel
theorem dL_change_282 : decode cL_change 282 = .ok (.iand, 1) := by decide +kernel
theorem dL_change_283 : decode cL_change 283 = .ok (.iconst 1, 1) := by decide +kernel
theorem dL_change_284 : decode cL_change 284 = .ok (.if_icmp .ne 7, 3) := by decide +kernel
theorem dL_change_287 : decode cL_change 287 = .ok (.iconst 1, 1) := by decide +kernel
theorem dL_change_288 : decode cL_change 288 = .ok (.goto 4, 3) := by decide +kernel
theorem dL_change_291 : decode cL_change 291 = .ok (.iconst 0, 1) := by decide +kernel
theorem dL_change_292 : decode cL_change 292 = .ok (.iload 6, 2) := by decide +kernel
theorem dL_change_294 : decode cL_change 294 = .ok (.if_icmp .ne 7, 3) := by decide +kernel
theorem dL_change_297 : decode cL_change 297 = .ok (.iconst 0, 1) := by decide +kernel
theorem dL_change_298 : decode cL_change 298 = .ok (.goto 4, 3) := by decide +kernel
theorem dL_change_301 : decode cL_change 301 = .ok (.iconst 1, 1) := by decide +kernel
theorem dL_change_302 : decode cL_change 302 = .ok (.if_icmp .eq 5, 3) := by decide +kernel
theorem dL_change_305 : decode cL_change 305 = .ok (.iconst 0, 1) := by decide +kernel
theorem dL_change_306 : decode cL_change 306 = .ok (.ireturn, 1) := by decide +kernel
theorem dL_change_307 : decode cL_change 307 = .ok (.aload_n 3, 1) := by decide +kernel
theorem dL_change_308 : decode cL_change 308 = .ok (.iconst 2, 1) := by decide +kernel
theorem dL_change_309 : decode cL_change 309 = .ok (.iload 6, 2) := by decide +kernel
theorem dL_change_311 : decode cL_change 311 = .ok (.ifCond .eq 14, 3) := by decide +kernel
theorem dL_change_314 : decode cL_change 314 = .ok (.aload_n 3, 1) := by decide +kernel
theorem dL_change_315 : decode cL_change 315 = .ok (.iconst 2, 1) := by decide +kernel
theorem dL_change_316 : decode cL_change 316 = .ok (.iaload, 1) := by decide +kernel
theorem dL_change_317 : decode cL_change 317 = .ok (.iconst 1, 1) := by decide +kernel
theorem dL_change_318 : decode cL_change 318 = .ok (.iload 5, 2) := by decide +kernel
theorem dL_change_320 : decode cL_change 320 = .ok (.ishl, 1) := by decide +kernel
theorem dL_change_321 : decode cL_change 321 = .ok (.ior, 1) := by decide +kernel
theorem dL_change_322 : decode cL_change 322 = .ok (.goto 13, 3) := by decide +kernel
theorem dL_change_325 : decode cL_change 325 = .ok (.aload_n 3, 1) := by decide +kernel
theorem dL_change_326 : decode cL_change 326 = .ok (.iconst 2, 1) := by decide +kernel
theorem dL_change_327 : decode cL_change 327 = .ok (.iaload, 1) := by decide +kernel
theorem dL_change_328 : decode cL_change 328 = .ok (.iconst 1, 1) := by decide +kernel
theorem dL_change_329 : decode cL_change 329 = .ok (.iload 5, 2) := by decide +kernel
theorem dL_change_331 : decode cL_change 331 = .ok (.ishl, 1) := by decide +kernel
theorem dL_change_332 : decode cL_change 332 = .ok (.iconst (-1), 1) := by decide +kernel
theorem dL_change_333 : decode cL_change 333 = .ok (.ixor, 1) := by decide +kernel
theorem dL_change_334 : decode cL_change 334 = .ok (.iand, 1) := by decide +kernel
theorem dL_change_335 : decode cL_change 335 = .ok (.iastore, 1) := by decide +kernel
theorem dL_change_336 : decode cL_change 336 = .ok (.iconst 1, 1) := by decide +kernel
theorem dL_change_337 : decode cL_change 337 = .ok (.ireturn, 1) := by decide +kernel
theorem dL_touchy_0 : decode cL_touchy 0 = .ok (.bipush 10, 2) := by decide +kernel
theorem dL_touchy_2 : decode cL_touchy 2 = .ok (.aload_n 0, 1) := by decide +kernel
theorem dL_touchy_3 : decode cL_touchy 3 = .ok (.bipush 9, 2) := by decide +kernel
theorem dL_touchy_5 : decode cL_touchy 5 = .ok (.iload_n 1, 1) := by decide +kernel
theorem dL_touchy_6 : decode cL_touchy 6 = .ok (.iadd, 1) := by decide +kernel
theorem dL_touchy_7 : decode cL_touchy 7 = .ok (.iaload, 1) := by decide +kernel
theorem dL_touchy_8 : decode cL_touchy 8 = .ok (.isub, 1) := by decide +kernel
theorem dL_touchy_9 : decode cL_touchy 9 = .ok (.aload_n 0, 1) := by decide +kernel
theorem dL_touchy_10 : decode cL_touchy 10 = .ok (.iconst 3, 1) := by decide +kernel
theorem dL_touchy_11 : decode cL_touchy 11 = .ok (.iload_n 1, 1) := by decide +kernel
theorem dL_touchy_12 : decode cL_touchy 12 = .ok (.iadd, 1) := by decide +kernel
theorem dL_touchy_13 : decode cL_touchy 13 = .ok (.iaload, 1) := by decide +kernel
theorem dL_touchy_14 : decode cL_touchy 14 = .ok (.ifCond .le 7, 3) := by decide +kernel
theorem dL_touchy_17 : decode cL_touchy 17 = .ok (.iconst 2, 1) := by decide +kernel
theorem dL_touchy_18 : decode cL_touchy 18 = .ok (.goto 4, 3) := by decide +kernel
theorem dL_touchy_21 : decode cL_touchy 21 = .ok (.iconst 0, 1) := by decide +kernel
theorem dL_touchy_22 : decode cL_touchy 22 = .ok (.isub, 1) := by decide +kernel
theorem dL_touchy_23 : decode cL_touchy 23 = .ok (.istore_n 2, 1) := by decide +kernel
theorem dL_touchy_24 : decode cL_touchy 24 = .ok (.aload_n 0, 1) := by decide +kernel
theorem dL_touchy_25 : decode cL_touchy 25 = .ok (.iconst 3, 1) := by decide +kernel
theorem dL_touchy_26 : decode cL_touchy 26 = .ok (.iload_n 1, 1) := by decide +kernel
theorem dL_touchy_27 : decode cL_touchy 27 = .ok (.iadd, 1) := by decide +kernel
theorem dL_touchy_28 : decode cL_touchy 28 = .ok (.iaload, 1) := by decide +kernel
theorem dL_touchy_29 : decode cL_touchy 29 = .ok (.ifCond .le 10, 3) := by decide +kernel
theorem dL_touchy_32 : decode cL_touchy 32 = .ok (.iload_n 2, 1) := by decide +kernel
theorem dL_touchy_33 : decode cL_touchy 33 = .ok (.iconst 1, 1) := by decide +kernel
theorem dL_touchy_34 : decode cL_touchy 34 = .ok (.if_icmp .ge 5, 3) := by decide +kernel
theorem dL_touchy_37 : decode cL_touchy 37 = .ok (.iconst 1, 1) := by decide +kernel
theorem dL_touchy_38 : decode cL_touchy 38 = .ok (.istore_n 2, 1) := by decide +kernel
theorem dL_touchy_39 : decode cL_touchy 39 = .ok (.aload_n 0, 1) := by decide +kernel
theorem dL_touchy_40 : decode cL_touchy 40 = .ok (.iconst 3, 1) := by decide +kernel
theorem dL_touchy_41 : decode cL_touchy 41 = .ok (.iload_n 1, 1) := by decide +kernel
theorem dL_touchy_42 : decode cL_touchy 42 = .ok (.iadd, 1) := by decide +kernel
theorem dL_touchy_43 : decode cL_touchy 43 = .ok (.iaload, 1) := by decide +kernel
theorem dL_touchy_44 : decode cL_touchy 44 = .ok (.iconst 2, 1) := by decide +kernel
theorem dL_touchy_45 : decode cL_touchy 45 = .ok (.if_icmp .ne 14, 3) := by decide +kernel
theorem dL_touchy_48 : decode cL_touchy 48 = .ok (.iload_n 2, 1) := by decide +kernel
theorem dL_touchy_49 : decode cL_touchy 49 = .ok (.iconst 1, 1) := by decide +kernel
theorem dL_touchy_50 : decode cL_touchy 50 = .ok (.if_icmp .le 9, 3) := by decide +kernel
theorem dL_touchy_53 : decode cL_touchy 53 = .ok (.iload_n 2, 1) := by decide +kernel
theorem dL_touchy_54 : decode cL_touchy 54 = .ok (.iconst 1, 1) := by decide +kernel
theorem dL_touchy_55 : decode cL_touchy 55 = .ok (.isub, 1) := by decide +kernel
theorem dL_touchy_56 : decode cL_touchy 56 = .ok (.goto 4, 3) := by decide +kernel
theorem dL_touchy_59 : decode cL_touchy 59 = .ok (.iload_n 2, 1) := by decide +kernel
theorem dL_touchy_60 : decode cL_touchy 60 = .ok (.ireturn, 1) := by decide +kernel
theorem dL_second_0 : decode cL_second 0 = .ok (.iconst 0, 1) := by decide +kernel
theorem dL_second_1 : decode cL_second 1 = .ok (.istore 6, 2) := by decide +kernel
theorem dL_second_3 : decode cL_second 3 = .ok (.iload 6, 2) := by decide +kernel
theorem dL_second_5 : decode cL_second 5 = .ok (.bipush 6, 2) := by decide +kernel
theorem dL_second_7 : decode cL_second 7 = .ok (.if_icmp .ge 106, 3) := by decide +kernel
theorem dL_second_10 : decode cL_second 10 = .ok (.iload 6, 2) := by decide +kernel
theorem dL_second_12 : decode cL_second 12 = .ok (.iconst 2, 1) := by decide +kernel
theorem dL_second_13 : decode cL_second 13 = .ok (.if_icmp .ge 17, 3) := by decide +kernel
theorem dL_second_16 : decode cL_second 16 = .ok (.aload_n 0, 1) := by decide +kernel
theorem dL_second_17 : decode cL_second 17 = .ok (.bipush 15, 2) := by decide +kernel
theorem dL_second_19 : decode cL_second 19 = .ok (.iconst 2, 1) := by decide +kernel
theorem dL_second_20 : decode cL_second 20 = .ok (.iload_n 1, 1) := by decide +kernel
theorem dL_second_21 : decode cL_second 21 = .ok (.imul, 1) := by decide +kernel
theorem dL_second_22 : decode cL_second 22 = .ok (.iadd, 1) := by decide +kernel
theorem dL_second_23 : decode cL_second 23 = .ok (.iload 6, 2) := by decide +kernel
theorem dL_second_25 : decode cL_second 25 = .ok (.iadd, 1) := by decide +kernel
theorem dL_second_26 : decode cL_second 26 = .ok (.iaload, 1) := by decide +kernel
theorem dL_second_27 : decode cL_second 27 = .ok (.goto 30, 3) := by decide +kernel
theorem dL_second_30 : decode cL_second 30 = .ok (.aload_n 0, 1) := by decide +kernel
theorem dL_second_31 : decode cL_second 31 = .ok (.bipush 15, 2) := by decide +kernel
theorem dL_second_33 : decode cL_second 33 = .ok (.iconst 2, 1) := by decide +kernel
theorem dL_second_34 : decode cL_second 34 = .ok (.aload_n 0, 1) := by decide +kernel
theorem dL_second_35 : decode cL_second 35 = .ok (.bipush 15, 2) := by decide +kernel
theorem dL_second_37 : decode cL_second 37 = .ok (.iconst 2, 1) := by decide +kernel
theorem dL_second_38 : decode cL_second 38 = .ok (.iload_n 1, 1) := by decide +kernel
theorem dL_second_39 : decode cL_second 39 = .ok (.imul, 1) := by decide +kernel
theorem dL_second_40 : decode cL_second 40 = .ok (.iadd, 1) := by decide +kernel
theorem dL_second_41 : decode cL_second 41 = .ok (.iload 6, 2) := by decide +kernel
theorem dL_second_43 : decode cL_second 43 = .ok (.iconst 2, 1) := by decide +kernel
theorem dL_second_44 : decode cL_second 44 = .ok (.isub, 1) := by decide +kernel
theorem dL_second_45 : decode cL_second 45 = .ok (.iconst 2, 1) := by decide +kernel
theorem dL_second_46 : decode cL_second 46 = .ok (.idiv, 1) := by decide +kernel
theorem dL_second_47 : decode cL_second 47 = .ok (.iadd, 1) := by decide +kernel
theorem dL_second_48 : decode cL_second 48 = .ok (.iaload, 1) := by decide +kernel
theorem dL_second_49 : decode cL_second 49 = .ok (.imul, 1) := by decide +kernel
theorem dL_second_50 : decode cL_second 50 = .ok (.iadd, 1) := by decide +kernel
theorem dL_second_51 : decode cL_second 51 = .ok (.iload 6, 2) := by decide +kernel
theorem dL_second_53 : decode cL_second 53 = .ok (.iconst 2, 1) := by decide +kernel
theorem dL_second_54 : decode cL_second 54 = .ok (.irem, 1) := by decide +kernel
theorem dL_second_55 : decode cL_second 55 = .ok (.iadd, 1) := by decide +kernel
theorem dL_second_56 : decode cL_second 56 = .ok (.iaload, 1) := by decide +kernel
theorem dL_second_57 : decode cL_second 57 = .ok (.istore 7, 2) := by decide +kernel
theorem dL_second_59 : decode cL_second 59 = .ok (.iload 7, 2) := by decide +kernel
theorem dL_second_61 : decode cL_second 61 = .ok (.iload_n 1, 1) := by decide +kernel
theorem dL_second_62 : decode cL_second 62 = .ok (.if_icmp .eq 45, 3) := by decide +kernel
theorem dL_second_65 : decode cL_second 65 = .ok (.iload 7, 2) := by decide +kernel
theorem dL_second_67 : decode cL_second 67 = .ok (.iload_n 2, 1) := by decide +kernel
theorem dL_second_68 : decode cL_second 68 = .ok (.if_icmp .eq 39, 3) := by decide +kernel
theorem dL_second_71 : decode cL_second 71 = .ok (.iload_n 3, 1) := by decide +kernel
theorem dL_second_72 : decode cL_second 72 = .ok (.iload 7, 2) := by decide +kernel
theorem dL_second_74 : decode cL_second 74 = .ok (.ishr, 1) := by decide +kernel
theorem dL_second_75 : decode cL_second 75 = .ok (.iconst 1, 1) := by decide +kernel
theorem dL_second_76 : decode cL_second 76 = .ok (.iand, 1) := by decide +kernel
theorem dL_second_77 : decode cL_second 77 = .ok (.ifCond .ne 30, 3) := by decide +kernel
theorem dL_second_80 : decode cL_second 80 = .ok (.aload_n 0, 1) := by decide +kernel
theorem dL_second_81 : decode cL_second 81 = .ok (.iconst 2, 1) := by decide +kernel
theorem dL_second_82 : decode cL_second 82 = .ok (.iaload, 1) := by decide +kernel
theorem dL_second_83 : decode cL_second 83 = .ok (.iload 7, 2) := by decide +kernel
theorem dL_second_85 : decode cL_second 85 = .ok (.ishr, 1) := by decide +kernel
theorem dL_second_86 : decode cL_second 86 = .ok (.iconst 1, 1) := by decide +kernel
theorem dL_second_87 : decode cL_second 87 = .ok (.iand, 1) := by decide +kernel
theorem dL_second_88 : decode cL_second 88 = .ok (.ifCond .ne 19, 3) := by decide +kernel
theorem dL_second_91 : decode cL_second 91 = .ok (.aload 5, 2) := by decide +kernel
theorem dL_second_93 : decode cL_second 93 = .ok (.bipush 8, 2) := by decide +kernel
theorem dL_second_95 : decode cL_second 95 = .ok (.iload 7, 2) := by decide +kernel
theorem dL_second_97 : decode cL_second 97 = .ok (.iadd, 1) := by decide +kernel
theorem dL_second_98 : decode cL_second 98 = .ok (.iaload, 1) := by decide +kernel
theorem dL_second_99 : decode cL_second 99 = .ok (.iload 4, 2) := by decide +kernel
theorem dL_second_101 : decode cL_second 101 = .ok (.if_icmp .gt 6, 3) := by decide +kernel
theorem dL_second_104 : decode cL_second 104 = .ok (.iload 7, 2) := by decide +kernel
theorem dL_second_106 : decode cL_second 106 = .ok (.ireturn, 1) := by decide +kernel
theorem dL_second_107 : decode cL_second 107 = .ok (.iinc 6 1, 3) := by decide +kernel
theorem dL_second_110 : decode cL_second 110 = .ok (.goto (-107), 3) := by decide +kernel
theorem dL_second_113 : decode cL_second 113 = .ok (.bipush (-9), 2) := by decide +kernel
theorem dL_second_115 : decode cL_second 115 = .ok (.ireturn, 1) := by decide +kernel
theorem dL_go_0 : decode cL_go 0 = .ok (.aload 6, 2) := by decide +kernel
theorem dL_go_2 : decode cL_go 2 = .ok (.iconst 0, 1) := by decide +kernel
theorem dL_go_3 : decode cL_go 3 = .ok (.iconst 0, 1) := by decide +kernel
theorem dL_go_4 : decode cL_go 4 = .ok (.iastore, 1) := by decide +kernel
theorem dL_go_5 : decode cL_go 5 = .ok (.aload 6, 2) := by decide +kernel
theorem dL_go_7 : decode cL_go 7 = .ok (.bipush 7, 2) := by decide +kernel
theorem dL_go_9 : decode cL_go 9 = .ok (.iconst 0, 1) := by decide +kernel
theorem dL_go_10 : decode cL_go 10 = .ok (.iastore, 1) := by decide +kernel
theorem dL_go_11 : decode cL_go 11 = .ok (.iconst 0, 1) := by decide +kernel
theorem dL_go_12 : decode cL_go 12 = .ok (.istore 8, 2) := by decide +kernel
theorem dL_go_14 : decode cL_go 14 = .ok (.iload 8, 2) := by decide +kernel
theorem dL_go_16 : decode cL_go 16 = .ok (.bipush 6, 2) := by decide +kernel
theorem dL_go_18 : decode cL_go 18 = .ok (.if_icmp .ge 18, 3) := by decide +kernel
theorem dL_go_21 : decode cL_go 21 = .ok (.aload 6, 2) := by decide +kernel
theorem dL_go_23 : decode cL_go 23 = .ok (.bipush 8, 2) := by decide +kernel
theorem dL_go_25 : decode cL_go 25 = .ok (.iload 8, 2) := by decide +kernel
theorem dL_go_27 : decode cL_go 27 = .ok (.iadd, 1) := by decide +kernel
theorem dL_go_28 : decode cL_go 28 = .ok (.iconst 0, 1) := by decide +kernel
theorem dL_go_29 : decode cL_go 29 = .ok (.iastore, 1) := by decide +kernel
theorem dL_go_30 : decode cL_go 30 = .ok (.iinc 8 1, 3) := by decide +kernel
theorem dL_go_33 : decode cL_go 33 = .ok (.goto (-19), 3) := by decide +kernel
theorem dL_go_36 : decode cL_go 36 = .ok (.aload 6, 2) := by decide +kernel
theorem dL_go_38 : decode cL_go 38 = .ok (.bipush 14, 2) := by decide +kernel
theorem dL_go_40 : decode cL_go 40 = .ok (.iconst 0, 1) := by decide +kernel
theorem dL_go_41 : decode cL_go 41 = .ok (.iastore, 1) := by decide +kernel
theorem dL_go_42 : decode cL_go 42 = .ok (.aload 6, 2) := by decide +kernel
theorem dL_go_44 : decode cL_go 44 = .ok (.bipush 15, 2) := by decide +kernel
theorem dL_go_46 : decode cL_go 46 = .ok (.iconst 0, 1) := by decide +kernel
theorem dL_go_47 : decode cL_go 47 = .ok (.iastore, 1) := by decide +kernel
theorem dL_go_48 : decode cL_go 48 = .ok (.iconst 0, 1) := by decide +kernel
theorem dL_go_49 : decode cL_go 49 = .ok (.istore 8, 2) := by decide +kernel
theorem dL_go_51 : decode cL_go 51 = .ok (.iconst 0, 1) := by decide +kernel
theorem dL_go_52 : decode cL_go 52 = .ok (.istore 9, 2) := by decide +kernel
theorem dL_go_54 : decode cL_go 54 = .ok (.iload 9, 2) := by decide +kernel
theorem dL_go_56 : decode cL_go 56 = .ok (.iload 4, 2) := by decide +kernel
theorem dL_go_58 : decode cL_go 58 = .ok (.if_icmp .gt 558, 3) := by decide +kernel
theorem dL_go_61 : decode cL_go 61 = .ok (.aload 6, 2) := by decide +kernel
theorem dL_go_63 : decode cL_go 63 = .ok (.bipush 7, 2) := by decide +kernel
theorem dL_go_65 : decode cL_go 65 = .ok (.iconst 0, 1) := by decide +kernel
theorem dL_go_66 : decode cL_go 66 = .ok (.iastore, 1) := by decide +kernel
theorem dL_go_67 : decode cL_go 67 = .ok (.iconst 0, 1) := by decide +kernel
theorem dL_go_68 : decode cL_go 68 = .ok (.istore 10, 2) := by decide +kernel
theorem dL_go_70 : decode cL_go 70 = .ok (.iconst 0, 1) := by decide +kernel
theorem dL_go_71 : decode cL_go 71 = .ok (.istore 11, 2) := by decide +kernel
theorem dL_go_73 : decode cL_go 73 = .ok (.iload 11, 2) := by decide +kernel
theorem dL_go_75 : decode cL_go 75 = .ok (.iload_n 2, 1) := by decide +kernel
theorem dL_go_76 : decode cL_go 76 = .ok (.iload 8, 2) := by decide +kernel
theorem dL_go_78 : decode cL_go 78 = .ok (.iadd, 1) := by decide +kernel
theorem dL_go_79 : decode cL_go 79 = .ok (.if_icmp .ge 496, 3) := by decide +kernel
theorem dL_go_82 : decode cL_go 82 = .ok (.iload 11, 2) := by decide +kernel
theorem dL_go_84 : decode cL_go 84 = .ok (.iload_n 2, 1) := by decide +kernel
theorem dL_go_85 : decode cL_go 85 = .ok (.if_icmp .ge 12, 3) := by decide +kernel
theorem dL_go_88 : decode cL_go 88 = .ok (.aload_n 1, 1) := by decide +kernel
theorem dL_go_89 : decode cL_go 89 = .ok (.iconst 4, 1) := by decide +kernel
theorem dL_go_90 : decode cL_go 90 = .ok (.iload 11, 2) := by decide +kernel
theorem dL_go_92 : decode cL_go 92 = .ok (.imul, 1) := by decide +kernel
theorem dL_go_93 : decode cL_go 93 = .ok (.iaload, 1) := by decide +kernel
theorem dL_go_94 : decode cL_go 94 = .ok (.goto 12, 3) := by decide +kernel
theorem dL_go_97 : decode cL_go 97 = .ok (.aload 7, 2) := by decide +kernel
theorem dL_go_99 : decode cL_go 99 = .ok (.iconst 3, 1) := by decide +kernel
theorem dL_go_100 : decode cL_go 100 = .ok (.iload 11, 2) := by decide +kernel
theorem dL_go_102 : decode cL_go 102 = .ok (.iload_n 2, 1) := by decide +kernel
theorem dL_go_103 : decode cL_go 103 = .ok (.isub, 1) := by decide +kernel
theorem dL_go_104 : decode cL_go 104 = .ok (.imul, 1) := by decide +kernel
theorem dL_go_105 : decode cL_go 105 = .ok (.iaload, 1) := by decide +kernel
theorem dL_go_106 : decode cL_go 106 = .ok (.istore 12, 2) := by decide +kernel
theorem dL_go_108 : decode cL_go 108 = .ok (.iload 11, 2) := by decide +kernel
theorem dL_go_110 : decode cL_go 110 = .ok (.iload_n 2, 1) := by decide +kernel
theorem dL_go_111 : decode cL_go 111 = .ok (.if_icmp .ge 14, 3) := by decide +kernel
theorem dL_go_114 : decode cL_go 114 = .ok (.aload_n 1, 1) := by decide +kernel
theorem dL_go_115 : decode cL_go 115 = .ok (.iconst 4, 1) := by decide +kernel
theorem dL_go_116 : decode cL_go 116 = .ok (.iload 11, 2) := by decide +kernel
theorem dL_go_118 : decode cL_go 118 = .ok (.imul, 1) := by decide +kernel
theorem dL_go_119 : decode cL_go 119 = .ok (.iconst 1, 1) := by decide +kernel
theorem dL_go_120 : decode cL_go 120 = .ok (.iadd, 1) := by decide +kernel
theorem dL_go_121 : decode cL_go 121 = .ok (.iaload, 1) := by decide +kernel
theorem dL_go_122 : decode cL_go 122 = .ok (.goto 14, 3) := by decide +kernel
theorem dL_go_125 : decode cL_go 125 = .ok (.aload 7, 2) := by decide +kernel
theorem dL_go_127 : decode cL_go 127 = .ok (.iconst 3, 1) := by decide +kernel
theorem dL_go_128 : decode cL_go 128 = .ok (.iload 11, 2) := by decide +kernel
theorem dL_go_130 : decode cL_go 130 = .ok (.iload_n 2, 1) := by decide +kernel
theorem dL_go_131 : decode cL_go 131 = .ok (.isub, 1) := by decide +kernel
theorem dL_go_132 : decode cL_go 132 = .ok (.imul, 1) := by decide +kernel
theorem dL_go_133 : decode cL_go 133 = .ok (.iconst 1, 1) := by decide +kernel
theorem dL_go_134 : decode cL_go 134 = .ok (.iadd, 1) := by decide +kernel
theorem dL_go_135 : decode cL_go 135 = .ok (.iaload, 1) := by decide +kernel
theorem dL_go_136 : decode cL_go 136 = .ok (.istore 13, 2) := by decide +kernel
theorem dL_go_138 : decode cL_go 138 = .ok (.iload 11, 2) := by decide +kernel
theorem dL_go_140 : decode cL_go 140 = .ok (.iload_n 2, 1) := by decide +kernel
theorem dL_go_141 : decode cL_go 141 = .ok (.if_icmp .ge 14, 3) := by decide +kernel
theorem dL_go_144 : decode cL_go 144 = .ok (.aload_n 1, 1) := by decide +kernel
theorem dL_go_145 : decode cL_go 145 = .ok (.iconst 4, 1) := by decide +kernel
theorem dL_go_146 : decode cL_go 146 = .ok (.iload 11, 2) := by decide +kernel
theorem dL_go_148 : decode cL_go 148 = .ok (.imul, 1) := by decide +kernel
theorem dL_go_149 : decode cL_go 149 = .ok (.iconst 3, 1) := by decide +kernel
theorem dL_go_150 : decode cL_go 150 = .ok (.iadd, 1) := by decide +kernel
theorem dL_go_151 : decode cL_go 151 = .ok (.iaload, 1) := by decide +kernel
theorem dL_go_152 : decode cL_go 152 = .ok (.goto 14, 3) := by decide +kernel
theorem dL_go_155 : decode cL_go 155 = .ok (.aload 7, 2) := by decide +kernel
theorem dL_go_157 : decode cL_go 157 = .ok (.iconst 3, 1) := by decide +kernel
theorem dL_go_158 : decode cL_go 158 = .ok (.iload 11, 2) := by decide +kernel
theorem dL_go_160 : decode cL_go 160 = .ok (.iload_n 2, 1) := by decide +kernel
theorem dL_go_161 : decode cL_go 161 = .ok (.isub, 1) := by decide +kernel
theorem dL_go_162 : decode cL_go 162 = .ok (.imul, 1) := by decide +kernel
theorem dL_go_163 : decode cL_go 163 = .ok (.iconst 2, 1) := by decide +kernel
theorem dL_go_164 : decode cL_go 164 = .ok (.iadd, 1) := by decide +kernel
theorem dL_go_165 : decode cL_go 165 = .ok (.iaload, 1) := by decide +kernel
theorem dL_go_166 : decode cL_go 166 = .ok (.istore 14, 2) := by decide +kernel
theorem dL_go_168 : decode cL_go 168 = .ok (.iload 11, 2) := by decide +kernel
theorem dL_go_170 : decode cL_go 170 = .ok (.iload_n 2, 1) := by decide +kernel
theorem dL_go_171 : decode cL_go 171 = .ok (.if_icmp .ge 28, 3) := by decide +kernel
theorem dL_go_174 : decode cL_go 174 = .ok (.aload_n 1, 1) := by decide +kernel
theorem dL_go_175 : decode cL_go 175 = .ok (.iconst 4, 1) := by decide +kernel
theorem dL_go_176 : decode cL_go 176 = .ok (.iload 11, 2) := by decide +kernel
theorem dL_go_178 : decode cL_go 178 = .ok (.imul, 1) := by decide +kernel
theorem dL_go_179 : decode cL_go 179 = .ok (.iconst 2, 1) := by decide +kernel
theorem dL_go_180 : decode cL_go 180 = .ok (.iadd, 1) := by decide +kernel
theorem dL_go_181 : decode cL_go 181 = .ok (.iaload, 1) := by decide +kernel
theorem dL_go_182 : decode cL_go 182 = .ok (.iconst 1, 1) := by decide +kernel
theorem dL_go_183 : decode cL_go 183 = .ok (.iadd, 1) := by decide +kernel
theorem dL_go_184 : decode cL_go 184 = .ok (.iload 9, 2) := by decide +kernel
theorem dL_go_186 : decode cL_go 186 = .ok (.if_icmp .ne 383, 3) := by decide +kernel
theorem dL_go_189 : decode cL_go 189 = .ok (.iload_n 3, 1) := by decide +kernel
theorem dL_go_190 : decode cL_go 190 = .ok (.iload 11, 2) := by decide +kernel
theorem dL_go_192 : decode cL_go 192 = .ok (.ishr, 1) := by decide +kernel
theorem dL_go_193 : decode cL_go 193 = .ok (.iconst 1, 1) := by decide +kernel
theorem dL_go_194 : decode cL_go 194 = .ok (.iand, 1) := by decide +kernel
theorem dL_go_195 : decode cL_go 195 = .ok (.iconst 1, 1) := by decide +kernel
theorem dL_go_196 : decode cL_go 196 = .ok (.if_icmp .eq 373, 3) := by decide +kernel
theorem dL_go_199 : decode cL_go 199 = .ok (.iload 14, 2) := by decide +kernel
theorem dL_go_201 : decode cL_go 201 = .ok (.aload_n 0, 1) := by decide +kernel
theorem dL_go_202 : decode cL_go 202 = .ok (.iload 13, 2) := by decide +kernel
theorem dL_go_204 : decode cL_go 204 = .ok (.invokestatic 40, 3) := by decide +kernel
theorem dL_go_207 : decode cL_go 207 = .ok (.if_icmp .ge 6, 3) := by decide +kernel
theorem dL_go_210 : decode cL_go 210 = .ok (.goto 359, 3) := by decide +kernel
theorem dL_go_213 : decode cL_go 213 = .ok (.aload_n 0, 1) := by decide +kernel
theorem dL_go_214 : decode cL_go 214 = .ok (.iload 13, 2) := by decide +kernel
theorem dL_go_216 : decode cL_go 216 = .ok (.iload 12, 2) := by decide +kernel
theorem dL_go_218 : decode cL_go 218 = .ok (.aload 6, 2) := by decide +kernel
theorem dL_go_220 : decode cL_go 220 = .ok (.bipush 7, 2) := by decide +kernel
theorem dL_go_222 : decode cL_go 222 = .ok (.iaload, 1) := by decide +kernel
theorem dL_go_223 : decode cL_go 223 = .ok (.iload 9, 2) := by decide +kernel
theorem dL_go_225 : decode cL_go 225 = .ok (.aload 6, 2) := by decide +kernel
theorem dL_go_227 : decode cL_go 227 = .ok (.invokestatic 43, 3) := by decide +kernel
theorem dL_go_230 : decode cL_go 230 = .ok (.istore 15, 2) := by decide +kernel
theorem dL_go_232 : decode cL_go 232 = .ok (.iload 15, 2) := by decide +kernel
theorem dL_go_234 : decode cL_go 234 = .ok (.ifCond .ge 6, 3) := by decide +kernel
theorem dL_go_237 : decode cL_go 237 = .ok (.goto 332, 3) := by decide +kernel
theorem dL_go_240 : decode cL_go 240 = .ok (.aload_n 0, 1) := by decide +kernel
theorem dL_go_241 : decode cL_go 241 = .ok (.iload 12, 2) := by decide +kernel
theorem dL_go_243 : decode cL_go 243 = .ok (.iload 13, 2) := by decide +kernel
theorem dL_go_245 : decode cL_go 245 = .ok (.aload 6, 2) := by decide +kernel
theorem dL_go_247 : decode cL_go 247 = .ok (.bipush 7, 2) := by decide +kernel
theorem dL_go_249 : decode cL_go 249 = .ok (.iaload, 1) := by decide +kernel
theorem dL_go_250 : decode cL_go 250 = .ok (.iconst 1, 1) := by decide +kernel
theorem dL_go_251 : decode cL_go 251 = .ok (.iload 15, 2) := by decide +kernel
theorem dL_go_253 : decode cL_go 253 = .ok (.ishl, 1) := by decide +kernel
theorem dL_go_254 : decode cL_go 254 = .ok (.ior, 1) := by decide +kernel
theorem dL_go_255 : decode cL_go 255 = .ok (.iload 9, 2) := by decide +kernel
theorem dL_go_257 : decode cL_go 257 = .ok (.aload 6, 2) := by decide +kernel
theorem dL_go_259 : decode cL_go 259 = .ok (.invokestatic 43, 3) := by decide +kernel
theorem dL_go_262 : decode cL_go 262 = .ok (.istore 16, 2) := by decide +kernel
theorem dL_go_264 : decode cL_go 264 = .ok (.iload 16, 2) := by decide +kernel
theorem dL_go_266 : decode cL_go 266 = .ok (.ifCond .ge 6, 3) := by decide +kernel
theorem dL_go_269 : decode cL_go 269 = .ok (.goto 300, 3) := by decide +kernel
theorem dL_go_272 : decode cL_go 272 = .ok (.aload 6, 2) := by decide +kernel
theorem dL_go_274 : decode cL_go 274 = .ok (.bipush 7, 2) := by decide +kernel
theorem dL_go_276 : decode cL_go 276 = .ok (.dup2, 1) := by decide +kernel
theorem dL_go_277 : decode cL_go 277 = .ok (.iaload, 1) := by decide +kernel
theorem dL_go_278 : decode cL_go 278 = .ok (.iconst 1, 1) := by decide +kernel
theorem dL_go_279 : decode cL_go 279 = .ok (.iload 15, 2) := by decide +kernel
theorem dL_go_281 : decode cL_go 281 = .ok (.ishl, 1) := by decide +kernel
theorem dL_go_282 : decode cL_go 282 = .ok (.iconst 1, 1) := by decide +kernel
theorem dL_go_283 : decode cL_go 283 = .ok (.iload 16, 2) := by decide +kernel
theorem dL_go_285 : decode cL_go 285 = .ok (.ishl, 1) := by decide +kernel
theorem dL_go_286 : decode cL_go 286 = .ok (.ior, 1) := by decide +kernel
theorem dL_go_287 : decode cL_go 287 = .ok (.ior, 1) := by decide +kernel
theorem dL_go_288 : decode cL_go 288 = .ok (.iastore, 1) := by decide +kernel
theorem dL_go_289 : decode cL_go 289 = .ok (.aload_n 0, 1) := by decide +kernel
theorem dL_go_290 : decode cL_go 290 = .ok (.bipush 9, 2) := by decide +kernel
theorem dL_go_292 : decode cL_go 292 = .ok (.iload 15, 2) := by decide +kernel
theorem dL_go_294 : decode cL_go 294 = .ok (.iadd, 1) := by decide +kernel
theorem dL_go_295 : decode cL_go 295 = .ok (.iaload, 1) := by decide +kernel
theorem dL_go_296 : decode cL_go 296 = .ok (.aload_n 0, 1) := by decide +kernel
theorem dL_go_297 : decode cL_go 297 = .ok (.bipush 9, 2) := by decide +kernel
theorem dL_go_299 : decode cL_go 299 = .ok (.iload 16, 2) := by decide +kernel
theorem dL_go_301 : decode cL_go 301 = .ok (.iadd, 1) := by decide +kernel
theorem dL_go_302 : decode cL_go 302 = .ok (.iaload, 1) := by decide +kernel
theorem dL_go_303 : decode cL_go 303 = .ok (.if_icmp .ge 8, 3) := by decide +kernel
theorem dL_go_306 : decode cL_go 306 = .ok (.iload 15, 2) := by decide +kernel
theorem dL_go_308 : decode cL_go 308 = .ok (.goto 27, 3) := by decide +kernel
theorem dL_go_311 : decode cL_go 311 = .ok (.aload_n 0, 1) := by decide +kernel
theorem dL_go_312 : decode cL_go 312 = .ok (.bipush 9, 2) := by decide +kernel
theorem dL_go_314 : decode cL_go 314 = .ok (.iload 16, 2) := by decide +kernel
theorem dL_go_316 : decode cL_go 316 = .ok (.iadd, 1) := by decide +kernel
theorem dL_go_317 : decode cL_go 317 = .ok (.iaload, 1) := by decide +kernel
theorem dL_go_318 : decode cL_go 318 = .ok (.aload_n 0, 1) := by decide +kernel
theorem dL_go_319 : decode cL_go 319 = .ok (.bipush 9, 2) := by decide +kernel
theorem dL_go_321 : decode cL_go 321 = .ok (.iload 15, 2) := by decide +kernel
theorem dL_go_323 : decode cL_go 323 = .ok (.iadd, 1) := by decide +kernel
theorem dL_go_324 : decode cL_go 324 = .ok (.iaload, 1) := by decide +kernel
theorem dL_go_325 : decode cL_go 325 = .ok (.if_icmp .ge 8, 3) := by decide +kernel
theorem dL_go_328 : decode cL_go 328 = .ok (.iload 16, 2) := by decide +kernel
theorem dL_go_330 : decode cL_go 330 = .ok (.goto 5, 3) := by decide +kernel
theorem dL_go_333 : decode cL_go 333 = .ok (.bipush (-9), 2) := by decide +kernel
theorem dL_go_335 : decode cL_go 335 = .ok (.istore 17, 2) := by decide +kernel
theorem dL_go_337 : decode cL_go 337 = .ok (.aload 6, 2) := by decide +kernel
theorem dL_go_339 : decode cL_go 339 = .ok (.iconst 0, 1) := by decide +kernel
theorem dL_go_340 : decode cL_go 340 = .ok (.iaload, 1) := by decide +kernel
theorem dL_go_341 : decode cL_go 341 = .ok (.iload 5, 2) := by decide +kernel
theorem dL_go_343 : decode cL_go 343 = .ok (.if_icmp .ne 40, 3) := by decide +kernel
theorem dL_go_346 : decode cL_go 346 = .ok (.aload 6, 2) := by decide +kernel
theorem dL_go_348 : decode cL_go 348 = .ok (.iconst 1, 1) := by decide +kernel
theorem dL_go_349 : decode cL_go 349 = .ok (.iload 9, 2) := by decide +kernel
theorem dL_go_351 : decode cL_go 351 = .ok (.iastore, 1) := by decide +kernel
theorem dL_go_352 : decode cL_go 352 = .ok (.aload 6, 2) := by decide +kernel
theorem dL_go_354 : decode cL_go 354 = .ok (.iconst 2, 1) := by decide +kernel
theorem dL_go_355 : decode cL_go 355 = .ok (.iload 15, 2) := by decide +kernel
theorem dL_go_357 : decode cL_go 357 = .ok (.iastore, 1) := by decide +kernel
theorem dL_go_358 : decode cL_go 358 = .ok (.aload 6, 2) := by decide +kernel
theorem dL_go_360 : decode cL_go 360 = .ok (.iconst 3, 1) := by decide +kernel
theorem dL_go_361 : decode cL_go 361 = .ok (.iload 16, 2) := by decide +kernel
theorem dL_go_363 : decode cL_go 363 = .ok (.iastore, 1) := by decide +kernel
theorem dL_go_364 : decode cL_go 364 = .ok (.aload 6, 2) := by decide +kernel
theorem dL_go_366 : decode cL_go 366 = .ok (.iconst 4, 1) := by decide +kernel
theorem dL_go_367 : decode cL_go 367 = .ok (.iload 13, 2) := by decide +kernel
theorem dL_go_369 : decode cL_go 369 = .ok (.iastore, 1) := by decide +kernel
theorem dL_go_370 : decode cL_go 370 = .ok (.aload 6, 2) := by decide +kernel
theorem dL_go_372 : decode cL_go 372 = .ok (.iconst 5, 1) := by decide +kernel
theorem dL_go_373 : decode cL_go 373 = .ok (.iload 12, 2) := by decide +kernel
theorem dL_go_375 : decode cL_go 375 = .ok (.iastore, 1) := by decide +kernel
theorem dL_go_376 : decode cL_go 376 = .ok (.aload 6, 2) := by decide +kernel
theorem dL_go_378 : decode cL_go 378 = .ok (.bipush 6, 2) := by decide +kernel
theorem dL_go_380 : decode cL_go 380 = .ok (.iload 17, 2) := by decide +kernel
theorem dL_go_382 : decode cL_go 382 = .ok (.iastore, 1) := by decide +kernel
theorem dL_go_383 : decode cL_go 383 = .ok (.aload 6, 2) := by decide +kernel
theorem dL_go_385 : decode cL_go 385 = .ok (.iconst 0, 1) := by decide +kernel
theorem dL_go_386 : decode cL_go 386 = .ok (.dup2, 1) := by decide +kernel
theorem dL_go_387 : decode cL_go 387 = .ok (.iaload, 1) := by decide +kernel
theorem dL_go_388 : decode cL_go 388 = .ok (.iconst 1, 1) := by decide +kernel
theorem dL_go_389 : decode cL_go 389 = .ok (.iadd, 1) := by decide +kernel
theorem dL_go_390 : decode cL_go 390 = .ok (.iastore, 1) := by decide +kernel
theorem dL_go_391 : decode cL_go 391 = .ok (.iload 9, 2) := by decide +kernel
theorem dL_go_393 : decode cL_go 393 = .ok (.aload 6, 2) := by decide +kernel
theorem dL_go_395 : decode cL_go 395 = .ok (.bipush 18, 2) := by decide +kernel
theorem dL_go_397 : decode cL_go 397 = .ok (.iaload, 1) := by decide +kernel
theorem dL_go_398 : decode cL_go 398 = .ok (.if_icmp .le 49, 3) := by decide +kernel
theorem dL_go_401 : decode cL_go 401 = .ok (.iload 15, 2) := by decide +kernel
theorem dL_go_403 : decode cL_go 403 = .ok (.aload 6, 2) := by decide +kernel
theorem dL_go_405 : decode cL_go 405 = .ok (.bipush 16, 2) := by decide +kernel
theorem dL_go_407 : decode cL_go 407 = .ok (.iaload, 1) := by decide +kernel
theorem dL_go_408 : decode cL_go 408 = .ok (.if_icmp .ne 13, 3) := by decide +kernel
theorem dL_go_411 : decode cL_go 411 = .ok (.iload 16, 2) := by decide +kernel
theorem dL_go_413 : decode cL_go 413 = .ok (.aload 6, 2) := by decide +kernel
theorem dL_go_415 : decode cL_go 415 = .ok (.bipush 17, 2) := by decide +kernel
theorem dL_go_417 : decode cL_go 417 = .ok (.iaload, 1) := by decide +kernel
theorem dL_go_418 : decode cL_go 418 = .ok (.if_icmp .eq 23, 3) := by decide +kernel
theorem dL_go_421 : decode cL_go 421 = .ok (.iload 15, 2) := by decide +kernel
theorem dL_go_423 : decode cL_go 423 = .ok (.aload 6, 2) := by decide +kernel
theorem dL_go_425 : decode cL_go 425 = .ok (.bipush 17, 2) := by decide +kernel
theorem dL_go_427 : decode cL_go 427 = .ok (.iaload, 1) := by decide +kernel
theorem dL_go_428 : decode cL_go 428 = .ok (.if_icmp .ne 19, 3) := by decide +kernel
theorem dL_go_431 : decode cL_go 431 = .ok (.iload 16, 2) := by decide +kernel
theorem dL_go_433 : decode cL_go 433 = .ok (.aload 6, 2) := by decide +kernel
theorem dL_go_435 : decode cL_go 435 = .ok (.bipush 16, 2) := by decide +kernel
theorem dL_go_437 : decode cL_go 437 = .ok (.iaload, 1) := by decide +kernel
theorem dL_go_438 : decode cL_go 438 = .ok (.if_icmp .ne 9, 3) := by decide +kernel
theorem dL_go_441 : decode cL_go 441 = .ok (.aload 6, 2) := by decide +kernel
theorem dL_go_443 : decode cL_go 443 = .ok (.bipush 15, 2) := by decide +kernel
theorem dL_go_445 : decode cL_go 445 = .ok (.iconst 1, 1) := by decide +kernel
theorem dL_go_446 : decode cL_go 446 = .ok (.iastore, 1) := by decide +kernel
theorem dL_go_447 : decode cL_go 447 = .ok (.iload 17, 2) := by decide +kernel
theorem dL_go_449 : decode cL_go 449 = .ok (.ifCond .ge 6, 3) := by decide +kernel
theorem dL_go_452 : decode cL_go 452 = .ok (.goto 117, 3) := by decide +kernel
theorem dL_go_455 : decode cL_go 455 = .ok (.iload 15, 2) := by decide +kernel
theorem dL_go_457 : decode cL_go 457 = .ok (.iload 16, 2) := by decide +kernel
theorem dL_go_459 : decode cL_go 459 = .ok (.iadd, 1) := by decide +kernel
theorem dL_go_460 : decode cL_go 460 = .ok (.iload 17, 2) := by decide +kernel
theorem dL_go_462 : decode cL_go 462 = .ok (.isub, 1) := by decide +kernel
theorem dL_go_463 : decode cL_go 463 = .ok (.istore 18, 2) := by decide +kernel
theorem dL_go_465 : decode cL_go 465 = .ok (.aload_n 0, 1) := by decide +kernel
theorem dL_go_466 : decode cL_go 466 = .ok (.bipush 9, 2) := by decide +kernel
theorem dL_go_468 : decode cL_go 468 = .ok (.iload 18, 2) := by decide +kernel
theorem dL_go_470 : decode cL_go 470 = .ok (.iadd, 1) := by decide +kernel
theorem dL_go_471 : decode cL_go 471 = .ok (.iaload, 1) := by decide +kernel
theorem dL_go_472 : decode cL_go 472 = .ok (.aload_n 0, 1) := by decide +kernel
theorem dL_go_473 : decode cL_go 473 = .ok (.bipush 9, 2) := by decide +kernel
theorem dL_go_475 : decode cL_go 475 = .ok (.iload 17, 2) := by decide +kernel
theorem dL_go_477 : decode cL_go 477 = .ok (.iadd, 1) := by decide +kernel
theorem dL_go_478 : decode cL_go 478 = .ok (.iaload, 1) := by decide +kernel
theorem dL_go_479 : decode cL_go 479 = .ok (.isub, 1) := by decide +kernel
theorem dL_go_480 : decode cL_go 480 = .ok (.istore 19, 2) := by decide +kernel
theorem dL_go_482 : decode cL_go 482 = .ok (.aload 6, 2) := by decide +kernel
theorem dL_go_484 : decode cL_go 484 = .ok (.bipush 8, 2) := by decide +kernel
theorem dL_go_486 : decode cL_go 486 = .ok (.iload 17, 2) := by decide +kernel
theorem dL_go_488 : decode cL_go 488 = .ok (.iadd, 1) := by decide +kernel
theorem dL_go_489 : decode cL_go 489 = .ok (.iload 9, 2) := by decide +kernel
theorem dL_go_491 : decode cL_go 491 = .ok (.iload 19, 2) := by decide +kernel
theorem dL_go_493 : decode cL_go 493 = .ok (.iadd, 1) := by decide +kernel
theorem dL_go_494 : decode cL_go 494 = .ok (.iconst 2, 1) := by decide +kernel
theorem dL_go_495 : decode cL_go 495 = .ok (.iadd, 1) := by decide +kernel
theorem dL_go_496 : decode cL_go 496 = .ok (.iastore, 1) := by decide +kernel
theorem dL_go_497 : decode cL_go 497 = .ok (.aload 6, 2) := by decide +kernel
theorem dL_go_499 : decode cL_go 499 = .ok (.bipush 14, 2) := by decide +kernel
theorem dL_go_501 : decode cL_go 501 = .ok (.dup2, 1) := by decide +kernel
theorem dL_go_502 : decode cL_go 502 = .ok (.iaload, 1) := by decide +kernel
theorem dL_go_503 : decode cL_go 503 = .ok (.iconst 1, 1) := by decide +kernel
theorem dL_go_504 : decode cL_go 504 = .ok (.iload 17, 2) := by decide +kernel
theorem dL_go_506 : decode cL_go 506 = .ok (.ishl, 1) := by decide +kernel
theorem dL_go_507 : decode cL_go 507 = .ok (.ior, 1) := by decide +kernel
theorem dL_go_508 : decode cL_go 508 = .ok (.iastore, 1) := by decide +kernel
theorem dL_go_509 : decode cL_go 509 = .ok (.aload_n 0, 1) := by decide +kernel
theorem dL_go_510 : decode cL_go 510 = .ok (.bipush 15, 2) := by decide +kernel
theorem dL_go_512 : decode cL_go 512 = .ok (.iconst 2, 1) := by decide +kernel
theorem dL_go_513 : decode cL_go 513 = .ok (.iload 17, 2) := by decide +kernel
theorem dL_go_515 : decode cL_go 515 = .ok (.imul, 1) := by decide +kernel
theorem dL_go_516 : decode cL_go 516 = .ok (.iadd, 1) := by decide +kernel
theorem dL_go_517 : decode cL_go 517 = .ok (.iaload, 1) := by decide +kernel
theorem dL_go_518 : decode cL_go 518 = .ok (.istore 20, 2) := by decide +kernel
theorem dL_go_520 : decode cL_go 520 = .ok (.iload 20, 2) := by decide +kernel
theorem dL_go_522 : decode cL_go 522 = .ok (.iload 18, 2) := by decide +kernel
theorem dL_go_524 : decode cL_go 524 = .ok (.if_icmp .ne 6, 3) := by decide +kernel
theorem dL_go_527 : decode cL_go 527 = .ok (.goto 42, 3) := by decide +kernel
theorem dL_go_530 : decode cL_go 530 = .ok (.aload 7, 2) := by decide +kernel
theorem dL_go_532 : decode cL_go 532 = .ok (.bipush 12, 2) := by decide +kernel
theorem dL_go_534 : decode cL_go 534 = .ok (.iconst 3, 1) := by decide +kernel
theorem dL_go_535 : decode cL_go 535 = .ok (.iload 10, 2) := by decide +kernel
theorem dL_go_537 : decode cL_go 537 = .ok (.imul, 1) := by decide +kernel
theorem dL_go_538 : decode cL_go 538 = .ok (.iadd, 1) := by decide +kernel
theorem dL_go_539 : decode cL_go 539 = .ok (.iload 18, 2) := by decide +kernel
theorem dL_go_541 : decode cL_go 541 = .ok (.iastore, 1) := by decide +kernel
theorem dL_go_542 : decode cL_go 542 = .ok (.aload 7, 2) := by decide +kernel
theorem dL_go_544 : decode cL_go 544 = .ok (.bipush 13, 2) := by decide +kernel
theorem dL_go_546 : decode cL_go 546 = .ok (.iconst 3, 1) := by decide +kernel
theorem dL_go_547 : decode cL_go 547 = .ok (.iload 10, 2) := by decide +kernel
theorem dL_go_549 : decode cL_go 549 = .ok (.imul, 1) := by decide +kernel
theorem dL_go_550 : decode cL_go 550 = .ok (.iadd, 1) := by decide +kernel
theorem dL_go_551 : decode cL_go 551 = .ok (.iload 20, 2) := by decide +kernel
theorem dL_go_553 : decode cL_go 553 = .ok (.iastore, 1) := by decide +kernel
theorem dL_go_554 : decode cL_go 554 = .ok (.aload 7, 2) := by decide +kernel
theorem dL_go_556 : decode cL_go 556 = .ok (.bipush 14, 2) := by decide +kernel
theorem dL_go_558 : decode cL_go 558 = .ok (.iconst 3, 1) := by decide +kernel
theorem dL_go_559 : decode cL_go 559 = .ok (.iload 10, 2) := by decide +kernel
theorem dL_go_561 : decode cL_go 561 = .ok (.imul, 1) := by decide +kernel
theorem dL_go_562 : decode cL_go 562 = .ok (.iadd, 1) := by decide +kernel
theorem dL_go_563 : decode cL_go 563 = .ok (.iload 19, 2) := by decide +kernel
theorem dL_go_565 : decode cL_go 565 = .ok (.iastore, 1) := by decide +kernel
theorem dL_go_566 : decode cL_go 566 = .ok (.iinc 10 1, 3) := by decide +kernel
theorem dL_go_569 : decode cL_go 569 = .ok (.iinc 11 1, 3) := by decide +kernel
theorem dL_go_572 : decode cL_go 572 = .ok (.goto (-499), 3) := by decide +kernel
theorem dL_go_575 : decode cL_go 575 = .ok (.iconst 0, 1) := by decide +kernel
theorem dL_go_576 : decode cL_go 576 = .ok (.istore 11, 2) := by decide +kernel
theorem dL_go_578 : decode cL_go 578 = .ok (.iload 11, 2) := by decide +kernel
theorem dL_go_580 : decode cL_go 580 = .ok (.iconst 3, 1) := by decide +kernel
theorem dL_go_581 : decode cL_go 581 = .ok (.iload 10, 2) := by decide +kernel
theorem dL_go_583 : decode cL_go 583 = .ok (.imul, 1) := by decide +kernel
theorem dL_go_584 : decode cL_go 584 = .ok (.if_icmp .ge 22, 3) := by decide +kernel
theorem dL_go_587 : decode cL_go 587 = .ok (.aload 7, 2) := by decide +kernel
theorem dL_go_589 : decode cL_go 589 = .ok (.iload 11, 2) := by decide +kernel
theorem dL_go_591 : decode cL_go 591 = .ok (.aload 7, 2) := by decide +kernel
theorem dL_go_593 : decode cL_go 593 = .ok (.bipush 12, 2) := by decide +kernel
theorem dL_go_595 : decode cL_go 595 = .ok (.iload 11, 2) := by decide +kernel
theorem dL_go_597 : decode cL_go 597 = .ok (.iadd, 1) := by decide +kernel
theorem dL_go_598 : decode cL_go 598 = .ok (.iaload, 1) := by decide +kernel
theorem dL_go_599 : decode cL_go 599 = .ok (.iastore, 1) := by decide +kernel
theorem dL_go_600 : decode cL_go 600 = .ok (.iinc 11 1, 3) := by decide +kernel
theorem dL_go_603 : decode cL_go 603 = .ok (.goto (-25), 3) := by decide +kernel
theorem dL_go_606 : decode cL_go 606 = .ok (.iload 10, 2) := by decide +kernel
theorem dL_go_608 : decode cL_go 608 = .ok (.istore 8, 2) := by decide +kernel
theorem dL_go_610 : decode cL_go 610 = .ok (.iinc 9 1, 3) := by decide +kernel
theorem dL_go_613 : decode cL_go 613 = .ok (.goto (-559), 3) := by decide +kernel
theorem dL_go_616 : decode cL_go 616 = .ok (.return_, 1) := by decide +kernel
theorem dL_law_0 : decode cL_law 0 = .ok (.new 20, 3) := by decide +kernel
theorem dL_law_3 : decode cL_law 3 = .ok (.dup, 1) := by decide +kernel
theorem dL_law_4 : decode cL_law 4 = .ok (.invokespecial 47, 3) := by decide +kernel
theorem dL_law_7 : decode cL_law 7 = .ok (.astore_n 1, 1) := by decide +kernel
theorem dL_law_8 : decode cL_law 8 = .ok (.bipush 27, 2) := by decide +kernel
theorem dL_law_10 : decode cL_law 10 = .ok (.newarray .int, 2) := by decide +kernel
theorem dL_law_12 : decode cL_law 12 = .ok (.astore_n 2, 1) := by decide +kernel
theorem dL_law_13 : decode cL_law 13 = .ok (.aload_n 1, 1) := by decide +kernel
theorem dL_law_14 : decode cL_law 14 = .ok (.aload_n 0, 1) := by decide +kernel
theorem dL_law_15 : decode cL_law 15 = .ok (.iconst 0, 1) := by decide +kernel
theorem dL_law_16 : decode cL_law 16 = .ok (.bipush 6, 2) := by decide +kernel
theorem dL_law_18 : decode cL_law 18 = .ok (.aload_n 2, 1) := by decide +kernel
theorem dL_law_19 : decode cL_law 19 = .ok (.invokestatic 48, 3) := by decide +kernel
theorem dL_law_22 : decode cL_law 22 = .ok (.istore_n 3, 1) := by decide +kernel
theorem dL_law_23 : decode cL_law 23 = .ok (.aload_n 2, 1) := by decide +kernel
theorem dL_law_24 : decode cL_law 24 = .ok (.iconst 0, 1) := by decide +kernel
theorem dL_law_25 : decode cL_law 25 = .ok (.iaload, 1) := by decide +kernel
theorem dL_law_26 : decode cL_law 26 = .ok (.istore 4, 2) := by decide +kernel
theorem dL_law_28 : decode cL_law 28 = .ok (.iload_n 3, 1) := by decide +kernel
theorem dL_law_29 : decode cL_law 29 = .ok (.bipush 12, 2) := by decide +kernel
theorem dL_law_31 : decode cL_law 31 = .ok (.if_icmp .lt 16, 3) := by decide +kernel
theorem dL_law_34 : decode cL_law 34 = .ok (.aload_n 1, 1) := by decide +kernel
theorem dL_law_35 : decode cL_law 35 = .ok (.iconst 0, 1) := by decide +kernel
theorem dL_law_36 : decode cL_law 36 = .ok (.iconst 0, 1) := by decide +kernel
theorem dL_law_37 : decode cL_law 37 = .ok (.iconst 0, 1) := by decide +kernel
theorem dL_law_38 : decode cL_law 38 = .ok (.iload_n 3, 1) := by decide +kernel
theorem dL_law_39 : decode cL_law 39 = .ok (.invokevirtual 51, 3) := by decide +kernel
theorem dL_law_42 : decode cL_law 42 = .ok (.iload 4, 2) := by decide +kernel
theorem dL_law_44 : decode cL_law 44 = .ok (.if_icmp .eq 5, 3) := by decide +kernel
theorem dL_law_47 : decode cL_law 47 = .ok (.iconst 0, 1) := by decide +kernel
theorem dL_law_48 : decode cL_law 48 = .ok (.ireturn, 1) := by decide +kernel
theorem dL_law_49 : decode cL_law 49 = .ok (.bipush 36, 2) := by decide +kernel
theorem dL_law_51 : decode cL_law 51 = .ok (.newarray .int, 2) := by decide +kernel
theorem dL_law_53 : decode cL_law 53 = .ok (.astore 5, 2) := by decide +kernel
theorem dL_law_55 : decode cL_law 55 = .ok (.bipush 19, 2) := by decide +kernel
theorem dL_law_57 : decode cL_law 57 = .ok (.newarray .int, 2) := by decide +kernel
theorem dL_law_59 : decode cL_law 59 = .ok (.astore 6, 2) := by decide +kernel
theorem dL_law_61 : decode cL_law 61 = .ok (.bipush 24, 2) := by decide +kernel
theorem dL_law_63 : decode cL_law 63 = .ok (.newarray .int, 2) := by decide +kernel
theorem dL_law_65 : decode cL_law 65 = .ok (.astore 7, 2) := by decide +kernel
theorem dL_law_67 : decode cL_law 67 = .ok (.iconst 0, 1) := by decide +kernel
theorem dL_law_68 : decode cL_law 68 = .ok (.istore 8, 2) := by decide +kernel
theorem dL_law_70 : decode cL_law 70 = .ok (.iload 8, 2) := by decide +kernel
theorem dL_law_72 : decode cL_law 72 = .ok (.iconst 4, 1) := by decide +kernel
theorem dL_law_73 : decode cL_law 73 = .ok (.if_icmp .ge 726, 3) := by decide +kernel
theorem dL_law_76 : decode cL_law 76 = .ok (.aload_n 1, 1) := by decide +kernel
theorem dL_law_77 : decode cL_law 77 = .ok (.aload_n 0, 1) := by decide +kernel
theorem dL_law_78 : decode cL_law 78 = .ok (.iconst 4, 1) := by decide +kernel
theorem dL_law_79 : decode cL_law 79 = .ok (.iload 8, 2) := by decide +kernel
theorem dL_law_81 : decode cL_law 81 = .ok (.iadd, 1) := by decide +kernel
theorem dL_law_82 : decode cL_law 82 = .ok (.invokestatic 9, 3) := by decide +kernel
theorem dL_law_85 : decode cL_law 85 = .ok (.aload_n 0, 1) := by decide +kernel
theorem dL_law_86 : decode cL_law 86 = .ok (.bipush 8, 2) := by decide +kernel
theorem dL_law_88 : decode cL_law 88 = .ok (.iload 8, 2) := by decide +kernel
theorem dL_law_90 : decode cL_law 90 = .ok (.iadd, 1) := by decide +kernel
theorem dL_law_91 : decode cL_law 91 = .ok (.invokestatic 9, 3) := by decide +kernel
theorem dL_law_94 : decode cL_law 94 = .ok (.aload_n 2, 1) := by decide +kernel
theorem dL_law_95 : decode cL_law 95 = .ok (.aload 5, 2) := by decide +kernel
theorem dL_law_97 : decode cL_law 97 = .ok (.invokestatic 54, 3) := by decide +kernel
theorem dL_law_100 : decode cL_law 100 = .ok (.ifCond .ne 5, 3) := by decide +kernel
theorem dL_law_103 : decode cL_law 103 = .ok (.iconst 0, 1) := by decide +kernel
theorem dL_law_104 : decode cL_law 104 = .ok (.ireturn, 1) := by decide +kernel
theorem dL_law_105 : decode cL_law 105 = .ok (.iconst 0, 1) := by decide +kernel
theorem dL_law_106 : decode cL_law 106 = .ok (.istore 9, 2) := by decide +kernel
theorem dL_law_108 : decode cL_law 108 = .ok (.iload 9, 2) := by decide +kernel
theorem dL_law_110 : decode cL_law 110 = .ok (.iload 4, 2) := by decide +kernel
theorem dL_law_112 : decode cL_law 112 = .ok (.if_icmp .ge 116, 3) := by decide +kernel
theorem dL_law_115 : decode cL_law 115 = .ok (.aload_n 1, 1) := by decide +kernel
theorem dL_law_116 : decode cL_law 116 = .ok (.iload 9, 2) := by decide +kernel
theorem dL_law_118 : decode cL_law 118 = .ok (.iconst 0, 1) := by decide +kernel
theorem dL_law_119 : decode cL_law 119 = .ok (.invokevirtual 58, 3) := by decide +kernel
theorem dL_law_122 : decode cL_law 122 = .ok (.aload_n 2, 1) := by decide +kernel
theorem dL_law_123 : decode cL_law 123 = .ok (.iconst 3, 1) := by decide +kernel
theorem dL_law_124 : decode cL_law 124 = .ok (.iload 9, 2) := by decide +kernel
theorem dL_law_126 : decode cL_law 126 = .ok (.iadd, 1) := by decide +kernel
theorem dL_law_127 : decode cL_law 127 = .ok (.iaload, 1) := by decide +kernel
theorem dL_law_128 : decode cL_law 128 = .ok (.if_icmp .ne 92, 3) := by decide +kernel
theorem dL_law_131 : decode cL_law 131 = .ok (.aload_n 1, 1) := by decide +kernel
theorem dL_law_132 : decode cL_law 132 = .ok (.iload 9, 2) := by decide +kernel
theorem dL_law_134 : decode cL_law 134 = .ok (.iconst 1, 1) := by decide +kernel
theorem dL_law_135 : decode cL_law 135 = .ok (.invokevirtual 58, 3) := by decide +kernel
theorem dL_law_138 : decode cL_law 138 = .ok (.aload_n 2, 1) := by decide +kernel
theorem dL_law_139 : decode cL_law 139 = .ok (.bipush 9, 2) := by decide +kernel
theorem dL_law_141 : decode cL_law 141 = .ok (.iload 9, 2) := by decide +kernel
theorem dL_law_143 : decode cL_law 143 = .ok (.iadd, 1) := by decide +kernel
theorem dL_law_144 : decode cL_law 144 = .ok (.iaload, 1) := by decide +kernel
theorem dL_law_145 : decode cL_law 145 = .ok (.if_icmp .ne 75, 3) := by decide +kernel
theorem dL_law_148 : decode cL_law 148 = .ok (.aload_n 1, 1) := by decide +kernel
theorem dL_law_149 : decode cL_law 149 = .ok (.iload 9, 2) := by decide +kernel
theorem dL_law_151 : decode cL_law 151 = .ok (.iconst 2, 1) := by decide +kernel
theorem dL_law_152 : decode cL_law 152 = .ok (.invokevirtual 58, 3) := by decide +kernel
theorem dL_law_155 : decode cL_law 155 = .ok (.aload_n 2, 1) := by decide +kernel
theorem dL_law_156 : decode cL_law 156 = .ok (.bipush 15, 2) := by decide +kernel
theorem dL_law_158 : decode cL_law 158 = .ok (.iconst 2, 1) := by decide +kernel
theorem dL_law_159 : decode cL_law 159 = .ok (.iload 9, 2) := by decide +kernel
theorem dL_law_161 : decode cL_law 161 = .ok (.imul, 1) := by decide +kernel
theorem dL_law_162 : decode cL_law 162 = .ok (.iadd, 1) := by decide +kernel
theorem dL_law_163 : decode cL_law 163 = .ok (.iaload, 1) := by decide +kernel
theorem dL_law_164 : decode cL_law 164 = .ok (.if_icmp .ne 56, 3) := by decide +kernel
theorem dL_law_167 : decode cL_law 167 = .ok (.aload_n 1, 1) := by decide +kernel
theorem dL_law_168 : decode cL_law 168 = .ok (.iload 9, 2) := by decide +kernel
theorem dL_law_170 : decode cL_law 170 = .ok (.iconst 3, 1) := by decide +kernel
theorem dL_law_171 : decode cL_law 171 = .ok (.invokevirtual 58, 3) := by decide +kernel
theorem dL_law_174 : decode cL_law 174 = .ok (.aload_n 2, 1) := by decide +kernel
theorem dL_law_175 : decode cL_law 175 = .ok (.bipush 16, 2) := by decide +kernel
theorem dL_law_177 : decode cL_law 177 = .ok (.iconst 2, 1) := by decide +kernel
theorem dL_law_178 : decode cL_law 178 = .ok (.iload 9, 2) := by decide +kernel
theorem dL_law_180 : decode cL_law 180 = .ok (.imul, 1) := by decide +kernel
theorem dL_law_181 : decode cL_law 181 = .ok (.iadd, 1) := by decide +kernel
theorem dL_law_182 : decode cL_law 182 = .ok (.iaload, 1) := by decide +kernel
theorem dL_law_183 : decode cL_law 183 = .ok (.if_icmp .ne 37, 3) := by decide +kernel
theorem dL_law_186 : decode cL_law 186 = .ok (.aload_n 1, 1) := by decide +kernel
theorem dL_law_187 : decode cL_law 187 = .ok (.iload 9, 2) := by decide +kernel
theorem dL_law_189 : decode cL_law 189 = .ok (.iconst 4, 1) := by decide +kernel
theorem dL_law_190 : decode cL_law 190 = .ok (.invokevirtual 58, 3) := by decide +kernel
theorem dL_law_193 : decode cL_law 193 = .ok (.aload_n 2, 1) := by decide +kernel
theorem dL_law_194 : decode cL_law 194 = .ok (.iload 9, 2) := by decide +kernel
theorem dL_law_196 : decode cL_law 196 = .ok (.invokestatic 40, 3) := by decide +kernel
theorem dL_law_199 : decode cL_law 199 = .ok (.if_icmp .ne 21, 3) := by decide +kernel
theorem dL_law_202 : decode cL_law 202 = .ok (.aload_n 1, 1) := by decide +kernel
theorem dL_law_203 : decode cL_law 203 = .ok (.iload 9, 2) := by decide +kernel
theorem dL_law_205 : decode cL_law 205 = .ok (.iconst 5, 1) := by decide +kernel
theorem dL_law_206 : decode cL_law 206 = .ok (.invokevirtual 58, 3) := by decide +kernel
theorem dL_law_209 : decode cL_law 209 = .ok (.aload_n 2, 1) := by decide +kernel
theorem dL_law_210 : decode cL_law 210 = .ok (.iconst 2, 1) := by decide +kernel
theorem dL_law_211 : decode cL_law 211 = .ok (.iaload, 1) := by decide +kernel
theorem dL_law_212 : decode cL_law 212 = .ok (.iload 9, 2) := by decide +kernel
theorem dL_law_214 : decode cL_law 214 = .ok (.ishr, 1) := by decide +kernel
theorem dL_law_215 : decode cL_law 215 = .ok (.iconst 1, 1) := by decide +kernel
theorem dL_law_216 : decode cL_law 216 = .ok (.iand, 1) := by decide +kernel
theorem dL_law_217 : decode cL_law 217 = .ok (.if_icmp .eq 5, 3) := by decide +kernel
theorem dL_law_220 : decode cL_law 220 = .ok (.iconst 0, 1) := by decide +kernel
theorem dL_law_221 : decode cL_law 221 = .ok (.ireturn, 1) := by decide +kernel
theorem dL_law_222 : decode cL_law 222 = .ok (.iinc 9 1, 3) := by decide +kernel
theorem dL_law_225 : decode cL_law 225 = .ok (.goto (-117), 3) := by decide +kernel
theorem dL_law_228 : decode cL_law 228 = .ok (.aload_n 2, 1) := by decide +kernel
theorem dL_law_229 : decode cL_law 229 = .ok (.aload 5, 2) := by decide +kernel
theorem dL_law_231 : decode cL_law 231 = .ok (.aload_n 2, 1) := by decide +kernel
theorem dL_law_232 : decode cL_law 232 = .ok (.iconst 1, 1) := by decide +kernel
theorem dL_law_233 : decode cL_law 233 = .ok (.iaload, 1) := by decide +kernel
theorem dL_law_234 : decode cL_law 234 = .ok (.iconst 0, 1) := by decide +kernel
theorem dL_law_235 : decode cL_law 235 = .ok (.bipush 59, 2) := by decide +kernel
theorem dL_law_237 : decode cL_law 237 = .ok (.iconst (-1), 1) := by decide +kernel
theorem dL_law_238 : decode cL_law 238 = .ok (.aload 6, 2) := by decide +kernel
theorem dL_law_240 : decode cL_law 240 = .ok (.aload 7, 2) := by decide +kernel
theorem dL_law_242 : decode cL_law 242 = .ok (.invokestatic 61, 3) := by decide +kernel
theorem dL_law_245 : decode cL_law 245 = .ok (.aload 6, 2) := by decide +kernel
theorem dL_law_247 : decode cL_law 247 = .ok (.iconst 0, 1) := by decide +kernel
theorem dL_law_248 : decode cL_law 248 = .ok (.iaload, 1) := by decide +kernel
theorem dL_law_249 : decode cL_law 249 = .ok (.istore 9, 2) := by decide +kernel
theorem dL_law_251 : decode cL_law 251 = .ok (.aload_n 1, 1) := by decide +kernel
theorem dL_law_252 : decode cL_law 252 = .ok (.iconst 3, 1) := by decide +kernel
theorem dL_law_253 : decode cL_law 253 = .ok (.invokevirtual 65, 3) := by decide +kernel
theorem dL_law_256 : decode cL_law 256 = .ok (.iload 9, 2) := by decide +kernel
theorem dL_law_258 : decode cL_law 258 = .ok (.if_icmp .ne 24, 3) := by decide +kernel
theorem dL_law_261 : decode cL_law 261 = .ok (.aload_n 1, 1) := by decide +kernel
theorem dL_law_262 : decode cL_law 262 = .ok (.iload 9, 2) := by decide +kernel
theorem dL_law_264 : decode cL_law 264 = .ok (.iconst 0, 1) := by decide +kernel
theorem dL_law_265 : decode cL_law 265 = .ok (.invokevirtual 68, 3) := by decide +kernel
theorem dL_law_268 : decode cL_law 268 = .ok (.iconst (-1), 1) := by decide +kernel
theorem dL_law_269 : decode cL_law 269 = .ok (.if_icmp .ne 13, 3) := by decide +kernel
theorem dL_law_272 : decode cL_law 272 = .ok (.aload_n 1, 1) := by decide +kernel
theorem dL_law_273 : decode cL_law 273 = .ok (.iconst (-1), 1) := by decide +kernel
theorem dL_law_274 : decode cL_law 274 = .ok (.iconst 0, 1) := by decide +kernel
theorem dL_law_275 : decode cL_law 275 = .ok (.invokevirtual 68, 3) := by decide +kernel
theorem dL_law_278 : decode cL_law 278 = .ok (.iconst (-1), 1) := by decide +kernel
theorem dL_law_279 : decode cL_law 279 = .ok (.if_icmp .eq 5, 3) := by decide +kernel
theorem dL_law_282 : decode cL_law 282 = .ok (.iconst 0, 1) := by decide +kernel
theorem dL_law_283 : decode cL_law 283 = .ok (.ireturn, 1) := by decide +kernel
theorem dL_law_284 : decode cL_law 284 = .ok (.iconst 0, 1) := by decide +kernel
theorem dL_law_285 : decode cL_law 285 = .ok (.istore 10, 2) := by decide +kernel
theorem dL_law_287 : decode cL_law 287 = .ok (.iload 10, 2) := by decide +kernel
theorem dL_law_289 : decode cL_law 289 = .ok (.iload 9, 2) := by decide +kernel
theorem dL_law_291 : decode cL_law 291 = .ok (.if_icmp .ge 70, 3) := by decide +kernel
theorem dL_law_294 : decode cL_law 294 = .ok (.iload 10, 2) := by decide +kernel
theorem dL_law_296 : decode cL_law 296 = .ok (.bipush 9, 2) := by decide +kernel
theorem dL_law_298 : decode cL_law 298 = .ok (.if_icmp .ge 63, 3) := by decide +kernel
theorem dL_law_301 : decode cL_law 301 = .ok (.aload_n 2, 1) := by decide +kernel
theorem dL_law_302 : decode cL_law 302 = .ok (.aload 5, 2) := by decide +kernel
theorem dL_law_304 : decode cL_law 304 = .ok (.aload_n 2, 1) := by decide +kernel
theorem dL_law_305 : decode cL_law 305 = .ok (.iconst 1, 1) := by decide +kernel
theorem dL_law_306 : decode cL_law 306 = .ok (.iaload, 1) := by decide +kernel
theorem dL_law_307 : decode cL_law 307 = .ok (.iconst 0, 1) := by decide +kernel
theorem dL_law_308 : decode cL_law 308 = .ok (.bipush 59, 2) := by decide +kernel
theorem dL_law_310 : decode cL_law 310 = .ok (.iload 10, 2) := by decide +kernel
theorem dL_law_312 : decode cL_law 312 = .ok (.aload 6, 2) := by decide +kernel
theorem dL_law_314 : decode cL_law 314 = .ok (.aload 7, 2) := by decide +kernel
theorem dL_law_316 : decode cL_law 316 = .ok (.invokestatic 61, 3) := by decide +kernel
theorem dL_law_319 : decode cL_law 319 = .ok (.iconst 0, 1) := by decide +kernel
theorem dL_law_320 : decode cL_law 320 = .ok (.istore 11, 2) := by decide +kernel
theorem dL_law_322 : decode cL_law 322 = .ok (.iload 11, 2) := by decide +kernel
theorem dL_law_324 : decode cL_law 324 = .ok (.bipush 6, 2) := by decide +kernel
theorem dL_law_326 : decode cL_law 326 = .ok (.if_icmp .ge 29, 3) := by decide +kernel
theorem dL_law_329 : decode cL_law 329 = .ok (.aload_n 1, 1) := by decide +kernel
theorem dL_law_330 : decode cL_law 330 = .ok (.iload 10, 2) := by decide +kernel
theorem dL_law_332 : decode cL_law 332 = .ok (.iload 11, 2) := by decide +kernel
theorem dL_law_334 : decode cL_law 334 = .ok (.invokevirtual 68, 3) := by decide +kernel
theorem dL_law_337 : decode cL_law 337 = .ok (.aload 6, 2) := by decide +kernel
theorem dL_law_339 : decode cL_law 339 = .ok (.iconst 1, 1) := by decide +kernel
theorem dL_law_340 : decode cL_law 340 = .ok (.iload 11, 2) := by decide +kernel
theorem dL_law_342 : decode cL_law 342 = .ok (.iadd, 1) := by decide +kernel
theorem dL_law_343 : decode cL_law 343 = .ok (.iaload, 1) := by decide +kernel
theorem dL_law_344 : decode cL_law 344 = .ok (.if_icmp .eq 5, 3) := by decide +kernel
theorem dL_law_347 : decode cL_law 347 = .ok (.iconst 0, 1) := by decide +kernel
theorem dL_law_348 : decode cL_law 348 = .ok (.ireturn, 1) := by decide +kernel
theorem dL_law_349 : decode cL_law 349 = .ok (.iinc 11 1, 3) := by decide +kernel
theorem dL_law_352 : decode cL_law 352 = .ok (.goto (-30), 3) := by decide +kernel
theorem dL_law_355 : decode cL_law 355 = .ok (.iinc 10 1, 3) := by decide +kernel
theorem dL_law_358 : decode cL_law 358 = .ok (.goto (-71), 3) := by decide +kernel
theorem dL_law_361 : decode cL_law 361 = .ok (.iload 8, 2) := by decide +kernel
theorem dL_law_363 : decode cL_law 363 = .ok (.istore 10, 2) := by decide +kernel
theorem dL_law_365 : decode cL_law 365 = .ok (.iload 10, 2) := by decide +kernel
theorem dL_law_367 : decode cL_law 367 = .ok (.bipush 60, 2) := by decide +kernel
theorem dL_law_369 : decode cL_law 369 = .ok (.if_icmp .ge 189, 3) := by decide +kernel
theorem dL_law_372 : decode cL_law 372 = .ok (.aload_n 2, 1) := by decide +kernel
theorem dL_law_373 : decode cL_law 373 = .ok (.aload 5, 2) := by decide +kernel
theorem dL_law_375 : decode cL_law 375 = .ok (.aload_n 2, 1) := by decide +kernel
theorem dL_law_376 : decode cL_law 376 = .ok (.iconst 1, 1) := by decide +kernel
theorem dL_law_377 : decode cL_law 377 = .ok (.iaload, 1) := by decide +kernel
theorem dL_law_378 : decode cL_law 378 = .ok (.iconst 0, 1) := by decide +kernel
theorem dL_law_379 : decode cL_law 379 = .ok (.iload 10, 2) := by decide +kernel
theorem dL_law_381 : decode cL_law 381 = .ok (.iconst (-1), 1) := by decide +kernel
theorem dL_law_382 : decode cL_law 382 = .ok (.aload 6, 2) := by decide +kernel
theorem dL_law_384 : decode cL_law 384 = .ok (.aload 7, 2) := by decide +kernel
theorem dL_law_386 : decode cL_law 386 = .ok (.invokestatic 61, 3) := by decide +kernel
theorem dL_law_389 : decode cL_law 389 = .ok (.aload_n 1, 1) := by decide +kernel
theorem dL_law_390 : decode cL_law 390 = .ok (.iload 10, 2) := by decide +kernel
theorem dL_law_392 : decode cL_law 392 = .ok (.invokevirtual 71, 3) := by decide +kernel
theorem dL_law_395 : decode cL_law 395 = .ok (.aload 6, 2) := by decide +kernel
theorem dL_law_397 : decode cL_law 397 = .ok (.iconst 0, 1) := by decide +kernel
theorem dL_law_398 : decode cL_law 398 = .ok (.iaload, 1) := by decide +kernel
theorem dL_law_399 : decode cL_law 399 = .ok (.if_icmp .eq 5, 3) := by decide +kernel
theorem dL_law_402 : decode cL_law 402 = .ok (.iconst 0, 1) := by decide +kernel
theorem dL_law_403 : decode cL_law 403 = .ok (.ireturn, 1) := by decide +kernel
theorem dL_law_404 : decode cL_law 404 = .ok (.aload_n 2, 1) := by decide +kernel
theorem dL_law_405 : decode cL_law 405 = .ok (.aload 5, 2) := by decide +kernel
theorem dL_law_407 : decode cL_law 407 = .ok (.aload_n 2, 1) := by decide +kernel
theorem dL_law_408 : decode cL_law 408 = .ok (.iconst 1, 1) := by decide +kernel
theorem dL_law_409 : decode cL_law 409 = .ok (.iaload, 1) := by decide +kernel
theorem dL_law_410 : decode cL_law 410 = .ok (.iconst 0, 1) := by decide +kernel
theorem dL_law_411 : decode cL_law 411 = .ok (.iload 10, 2) := by decide +kernel
theorem dL_law_413 : decode cL_law 413 = .ok (.iconst 1, 1) := by decide +kernel
theorem dL_law_414 : decode cL_law 414 = .ok (.isub, 1) := by decide +kernel
theorem dL_law_415 : decode cL_law 415 = .ok (.iconst (-1), 1) := by decide +kernel
theorem dL_law_416 : decode cL_law 416 = .ok (.aload 6, 2) := by decide +kernel
theorem dL_law_418 : decode cL_law 418 = .ok (.aload 7, 2) := by decide +kernel
theorem dL_law_420 : decode cL_law 420 = .ok (.invokestatic 61, 3) := by decide +kernel
theorem dL_law_423 : decode cL_law 423 = .ok (.iconst 0, 1) := by decide +kernel
theorem dL_law_424 : decode cL_law 424 = .ok (.istore 11, 2) := by decide +kernel
theorem dL_law_426 : decode cL_law 426 = .ok (.iload 11, 2) := by decide +kernel
theorem dL_law_428 : decode cL_law 428 = .ok (.iload 4, 2) := by decide +kernel
theorem dL_law_430 : decode cL_law 430 = .ok (.if_icmp .ge 114, 3) := by decide +kernel
theorem dL_law_433 : decode cL_law 433 = .ok (.aload_n 2, 1) := by decide +kernel
theorem dL_law_434 : decode cL_law 434 = .ok (.iconst 2, 1) := by decide +kernel
theorem dL_law_435 : decode cL_law 435 = .ok (.iaload, 1) := by decide +kernel
theorem dL_law_436 : decode cL_law 436 = .ok (.iload 11, 2) := by decide +kernel
theorem dL_law_438 : decode cL_law 438 = .ok (.ishr, 1) := by decide +kernel
theorem dL_law_439 : decode cL_law 439 = .ok (.iconst 1, 1) := by decide +kernel
theorem dL_law_440 : decode cL_law 440 = .ok (.iand, 1) := by decide +kernel
theorem dL_law_441 : decode cL_law 441 = .ok (.ifCond .ne 20, 3) := by decide +kernel
theorem dL_law_444 : decode cL_law 444 = .ok (.aload 6, 2) := by decide +kernel
theorem dL_law_446 : decode cL_law 446 = .ok (.bipush 8, 2) := by decide +kernel
theorem dL_law_448 : decode cL_law 448 = .ok (.iload 11, 2) := by decide +kernel
theorem dL_law_450 : decode cL_law 450 = .ok (.iadd, 1) := by decide +kernel
theorem dL_law_451 : decode cL_law 451 = .ok (.iaload, 1) := by decide +kernel
theorem dL_law_452 : decode cL_law 452 = .ok (.iload 10, 2) := by decide +kernel
theorem dL_law_454 : decode cL_law 454 = .ok (.if_icmp .gt 7, 3) := by decide +kernel
theorem dL_law_457 : decode cL_law 457 = .ok (.iconst 1, 1) := by decide +kernel
theorem dL_law_458 : decode cL_law 458 = .ok (.goto 4, 3) := by decide +kernel
theorem dL_law_461 : decode cL_law 461 = .ok (.iconst 0, 1) := by decide +kernel
theorem dL_law_462 : decode cL_law 462 = .ok (.istore 12, 2) := by decide +kernel
theorem dL_law_464 : decode cL_law 464 = .ok (.aload_n 1, 1) := by decide +kernel
theorem dL_law_465 : decode cL_law 465 = .ok (.iload 11, 2) := by decide +kernel
theorem dL_law_467 : decode cL_law 467 = .ok (.iload 10, 2) := by decide +kernel
theorem dL_law_469 : decode cL_law 469 = .ok (.invokevirtual 74, 3) := by decide +kernel
theorem dL_law_472 : decode cL_law 472 = .ok (.iload 12, 2) := by decide +kernel
theorem dL_law_474 : decode cL_law 474 = .ok (.ifCond .eq 7, 3) := by decide +kernel
theorem dL_law_477 : decode cL_law 477 = .ok (.iconst 1, 1) := by decide +kernel
theorem dL_law_478 : decode cL_law 478 = .ok (.goto 4, 3) := by decide +kernel
theorem dL_law_481 : decode cL_law 481 = .ok (.iconst 0, 1) := by decide +kernel
theorem dL_law_482 : decode cL_law 482 = .ok (.if_icmp .eq 5, 3) := by decide +kernel
theorem dL_law_485 : decode cL_law 485 = .ok (.iconst 0, 1) := by decide +kernel
theorem dL_law_486 : decode cL_law 486 = .ok (.ireturn, 1) := by decide +kernel
theorem dL_law_487 : decode cL_law 487 = .ok (.iload 11, 2) := by decide +kernel
theorem dL_law_489 : decode cL_law 489 = .ok (.iconst 1, 1) := by decide +kernel
theorem dL_law_490 : decode cL_law 490 = .ok (.iadd, 1) := by decide +kernel
theorem dL_law_491 : decode cL_law 491 = .ok (.iload 8, 2) := by decide +kernel
theorem dL_law_493 : decode cL_law 493 = .ok (.iadd, 1) := by decide +kernel
theorem dL_law_494 : decode cL_law 494 = .ok (.iload 4, 2) := by decide +kernel
theorem dL_law_496 : decode cL_law 496 = .ok (.irem, 1) := by decide +kernel
theorem dL_law_497 : decode cL_law 497 = .ok (.istore 13, 2) := by decide +kernel
theorem dL_law_499 : decode cL_law 499 = .ok (.aload_n 1, 1) := by decide +kernel
theorem dL_law_500 : decode cL_law 500 = .ok (.iload 11, 2) := by decide +kernel
theorem dL_law_502 : decode cL_law 502 = .ok (.iload 13, 2) := by decide +kernel
theorem dL_law_504 : decode cL_law 504 = .ok (.iload 10, 2) := by decide +kernel
theorem dL_law_506 : decode cL_law 506 = .ok (.invokevirtual 77, 3) := by decide +kernel
theorem dL_law_509 : decode cL_law 509 = .ok (.iload 13, 2) := by decide +kernel
theorem dL_law_511 : decode cL_law 511 = .ok (.iload 11, 2) := by decide +kernel
theorem dL_law_513 : decode cL_law 513 = .ok (.if_icmp .ne 7, 3) := by decide +kernel
theorem dL_law_516 : decode cL_law 516 = .ok (.iconst (-1), 1) := by decide +kernel
theorem dL_law_517 : decode cL_law 517 = .ok (.goto 16, 3) := by decide +kernel
theorem dL_law_520 : decode cL_law 520 = .ok (.aload_n 2, 1) := by decide +kernel
theorem dL_law_521 : decode cL_law 521 = .ok (.iload 11, 2) := by decide +kernel
theorem dL_law_523 : decode cL_law 523 = .ok (.iload 13, 2) := by decide +kernel
theorem dL_law_525 : decode cL_law 525 = .ok (.iconst 0, 1) := by decide +kernel
theorem dL_law_526 : decode cL_law 526 = .ok (.iload 10, 2) := by decide +kernel
theorem dL_law_528 : decode cL_law 528 = .ok (.aload 6, 2) := by decide +kernel
theorem dL_law_530 : decode cL_law 530 = .ok (.invokestatic 43, 3) := by decide +kernel
theorem dL_law_533 : decode cL_law 533 = .ok (.if_icmp .eq 5, 3) := by decide +kernel
theorem dL_law_536 : decode cL_law 536 = .ok (.iconst 0, 1) := by decide +kernel
theorem dL_law_537 : decode cL_law 537 = .ok (.ireturn, 1) := by decide +kernel
theorem dL_law_538 : decode cL_law 538 = .ok (.iinc 11 1, 3) := by decide +kernel
theorem dL_law_541 : decode cL_law 541 = .ok (.goto (-115), 3) := by decide +kernel
theorem dL_law_544 : decode cL_law 544 = .ok (.iload 10, 2) := by decide +kernel
theorem dL_law_546 : decode cL_law 546 = .ok (.iconst 1, 1) := by decide +kernel
theorem dL_law_547 : decode cL_law 547 = .ok (.iload 10, 2) := by decide +kernel
theorem dL_law_549 : decode cL_law 549 = .ok (.iconst 4, 1) := by decide +kernel
theorem dL_law_550 : decode cL_law 550 = .ok (.idiv, 1) := by decide +kernel
theorem dL_law_551 : decode cL_law 551 = .ok (.iadd, 1) := by decide +kernel
theorem dL_law_552 : decode cL_law 552 = .ok (.iadd, 1) := by decide +kernel
theorem dL_law_553 : decode cL_law 553 = .ok (.istore 10, 2) := by decide +kernel
theorem dL_law_555 : decode cL_law 555 = .ok (.goto (-190), 3) := by decide +kernel
theorem dL_law_558 : decode cL_law 558 = .ok (.iconst 0, 1) := by decide +kernel
theorem dL_law_559 : decode cL_law 559 = .ok (.istore 10, 2) := by decide +kernel
theorem dL_law_561 : decode cL_law 561 = .ok (.iload 10, 2) := by decide +kernel
theorem dL_law_563 : decode cL_law 563 = .ok (.aload_n 2, 1) := by decide +kernel
theorem dL_law_564 : decode cL_law 564 = .ok (.iconst 1, 1) := by decide +kernel
theorem dL_law_565 : decode cL_law 565 = .ok (.iaload, 1) := by decide +kernel
theorem dL_law_566 : decode cL_law 566 = .ok (.if_icmp .ge 51, 3) := by decide +kernel
theorem dL_law_569 : decode cL_law 569 = .ok (.aload_n 2, 1) := by decide +kernel
theorem dL_law_570 : decode cL_law 570 = .ok (.aload 5, 2) := by decide +kernel
theorem dL_law_572 : decode cL_law 572 = .ok (.aload_n 2, 1) := by decide +kernel
theorem dL_law_573 : decode cL_law 573 = .ok (.iconst 1, 1) := by decide +kernel
theorem dL_law_574 : decode cL_law 574 = .ok (.iaload, 1) := by decide +kernel
theorem dL_law_575 : decode cL_law 575 = .ok (.iconst 1, 1) := by decide +kernel
theorem dL_law_576 : decode cL_law 576 = .ok (.iload 10, 2) := by decide +kernel
theorem dL_law_578 : decode cL_law 578 = .ok (.ishl, 1) := by decide +kernel
theorem dL_law_579 : decode cL_law 579 = .ok (.bipush 59, 2) := by decide +kernel
theorem dL_law_581 : decode cL_law 581 = .ok (.iconst (-1), 1) := by decide +kernel
theorem dL_law_582 : decode cL_law 582 = .ok (.aload 6, 2) := by decide +kernel
theorem dL_law_584 : decode cL_law 584 = .ok (.aload 7, 2) := by decide +kernel
theorem dL_law_586 : decode cL_law 586 = .ok (.invokestatic 61, 3) := by decide +kernel
theorem dL_law_589 : decode cL_law 589 = .ok (.aload_n 1, 1) := by decide +kernel
theorem dL_law_590 : decode cL_law 590 = .ok (.iload 10, 2) := by decide +kernel
theorem dL_law_592 : decode cL_law 592 = .ok (.invokevirtual 79, 3) := by decide +kernel
theorem dL_law_595 : decode cL_law 595 = .ok (.sipush 1000, 3) := by decide +kernel
theorem dL_law_598 : decode cL_law 598 = .ok (.iload 9, 2) := by decide +kernel
theorem dL_law_600 : decode cL_law 600 = .ok (.iadd, 1) := by decide +kernel
theorem dL_law_601 : decode cL_law 601 = .ok (.aload 6, 2) := by decide +kernel
theorem dL_law_603 : decode cL_law 603 = .ok (.iconst 0, 1) := by decide +kernel
theorem dL_law_604 : decode cL_law 604 = .ok (.iaload, 1) := by decide +kernel
theorem dL_law_605 : decode cL_law 605 = .ok (.isub, 1) := by decide +kernel
theorem dL_law_606 : decode cL_law 606 = .ok (.if_icmp .eq 5, 3) := by decide +kernel
theorem dL_law_609 : decode cL_law 609 = .ok (.iconst 0, 1) := by decide +kernel
theorem dL_law_610 : decode cL_law 610 = .ok (.ireturn, 1) := by decide +kernel
theorem dL_law_611 : decode cL_law 611 = .ok (.iinc 10 1, 3) := by decide +kernel
theorem dL_law_614 : decode cL_law 614 = .ok (.goto (-53), 3) := by decide +kernel
theorem dL_law_617 : decode cL_law 617 = .ok (.aload_n 0, 1) := by decide +kernel
theorem dL_law_618 : decode cL_law 618 = .ok (.bipush 12, 2) := by decide +kernel
theorem dL_law_620 : decode cL_law 620 = .ok (.iload 8, 2) := by decide +kernel
theorem dL_law_622 : decode cL_law 622 = .ok (.iadd, 1) := by decide +kernel
theorem dL_law_623 : decode cL_law 623 = .ok (.invokestatic 9, 3) := by decide +kernel
theorem dL_law_626 : decode cL_law 626 = .ok (.bipush 9, 2) := by decide +kernel
theorem dL_law_628 : decode cL_law 628 = .ok (.invokestatic 15, 3) := by decide +kernel
theorem dL_law_631 : decode cL_law 631 = .ok (.istore 10, 2) := by decide +kernel
theorem dL_law_633 : decode cL_law 633 = .ok (.iconst 0, 1) := by decide +kernel
theorem dL_law_634 : decode cL_law 634 = .ok (.istore 11, 2) := by decide +kernel
theorem dL_law_636 : decode cL_law 636 = .ok (.iconst 1, 1) := by decide +kernel
theorem dL_law_637 : decode cL_law 637 = .ok (.istore 12, 2) := by decide +kernel
theorem dL_law_639 : decode cL_law 639 = .ok (.aload_n 1, 1) := by decide +kernel
theorem dL_law_640 : decode cL_law 640 = .ok (.iconst 1, 1) := by decide +kernel
theorem dL_law_641 : decode cL_law 641 = .ok (.iconst 1, 1) := by decide +kernel
theorem dL_law_642 : decode cL_law 642 = .ok (.bipush 12, 2) := by decide +kernel
theorem dL_law_644 : decode cL_law 644 = .ok (.invokevirtual 19, 3) := by decide +kernel
theorem dL_law_647 : decode cL_law 647 = .ok (.iconst 1, 1) := by decide +kernel
theorem dL_law_648 : decode cL_law 648 = .ok (.if_icmp .eq 5, 3) := by decide +kernel
theorem dL_law_651 : decode cL_law 651 = .ok (.iconst 0, 1) := by decide +kernel
theorem dL_law_652 : decode cL_law 652 = .ok (.ireturn, 1) := by decide +kernel
theorem dL_law_653 : decode cL_law 653 = .ok (.iconst 0, 1) := by decide +kernel
theorem dL_law_654 : decode cL_law 654 = .ok (.istore 13, 2) := by decide +kernel
theorem dL_law_656 : decode cL_law 656 = .ok (.iload 13, 2) := by decide +kernel
theorem dL_law_658 : decode cL_law 658 = .ok (.iload 10, 2) := by decide +kernel
theorem dL_law_660 : decode cL_law 660 = .ok (.if_icmp .ge 117, 3) := by decide +kernel
theorem dL_law_663 : decode cL_law 663 = .ok (.aload_n 0, 1) := by decide +kernel
theorem dL_law_664 : decode cL_law 664 = .ok (.bipush 12, 2) := by decide +kernel
theorem dL_law_666 : decode cL_law 666 = .ok (.iload 8, 2) := by decide +kernel
theorem dL_law_668 : decode cL_law 668 = .ok (.iadd, 1) := by decide +kernel
theorem dL_law_669 : decode cL_law 669 = .ok (.invokestatic 9, 3) := by decide +kernel
theorem dL_law_672 : decode cL_law 672 = .ok (.iconst 3, 1) := by decide +kernel
theorem dL_law_673 : decode cL_law 673 = .ok (.iload 13, 2) := by decide +kernel
theorem dL_law_675 : decode cL_law 675 = .ok (.iadd, 1) := by decide +kernel
theorem dL_law_676 : decode cL_law 676 = .ok (.ishr, 1) := by decide +kernel
theorem dL_law_677 : decode cL_law 677 = .ok (.iload 4, 2) := by decide +kernel
theorem dL_law_679 : decode cL_law 679 = .ok (.invokestatic 15, 3) := by decide +kernel
theorem dL_law_682 : decode cL_law 682 = .ok (.istore 14, 2) := by decide +kernel
theorem dL_law_684 : decode cL_law 684 = .ok (.aload_n 1, 1) := by decide +kernel
theorem dL_law_685 : decode cL_law 685 = .ok (.iconst 1, 1) := by decide +kernel
theorem dL_law_686 : decode cL_law 686 = .ok (.iconst 2, 1) := by decide +kernel
theorem dL_law_687 : decode cL_law 687 = .ok (.iload 13, 2) := by decide +kernel
theorem dL_law_689 : decode cL_law 689 = .ok (.iadd, 1) := by decide +kernel
theorem dL_law_690 : decode cL_law 690 = .ok (.iload 14, 2) := by decide +kernel
theorem dL_law_692 : decode cL_law 692 = .ok (.invokevirtual 25, 3) := by decide +kernel
theorem dL_law_695 : decode cL_law 695 = .ok (.iconst 1, 1) := by decide +kernel
theorem dL_law_696 : decode cL_law 696 = .ok (.if_icmp .eq 5, 3) := by decide +kernel
theorem dL_law_699 : decode cL_law 699 = .ok (.iconst 0, 1) := by decide +kernel
theorem dL_law_700 : decode cL_law 700 = .ok (.ireturn, 1) := by decide +kernel
theorem dL_law_701 : decode cL_law 701 = .ok (.aload_n 2, 1) := by decide +kernel
theorem dL_law_702 : decode cL_law 702 = .ok (.aload 5, 2) := by decide +kernel
theorem dL_law_704 : decode cL_law 704 = .ok (.aload_n 2, 1) := by decide +kernel
theorem dL_law_705 : decode cL_law 705 = .ok (.iconst 1, 1) := by decide +kernel
theorem dL_law_706 : decode cL_law 706 = .ok (.iaload, 1) := by decide +kernel
theorem dL_law_707 : decode cL_law 707 = .ok (.iconst 0, 1) := by decide +kernel
theorem dL_law_708 : decode cL_law 708 = .ok (.iload 13, 2) := by decide +kernel
theorem dL_law_710 : decode cL_law 710 = .ok (.iconst 1, 1) := by decide +kernel
theorem dL_law_711 : decode cL_law 711 = .ok (.isub, 1) := by decide +kernel
theorem dL_law_712 : decode cL_law 712 = .ok (.iconst (-1), 1) := by decide +kernel
theorem dL_law_713 : decode cL_law 713 = .ok (.aload 6, 2) := by decide +kernel
theorem dL_law_715 : decode cL_law 715 = .ok (.aload 7, 2) := by decide +kernel
theorem dL_law_717 : decode cL_law 717 = .ok (.invokestatic 61, 3) := by decide +kernel
theorem dL_law_720 : decode cL_law 720 = .ok (.iload 12, 2) := by decide +kernel
theorem dL_law_722 : decode cL_law 722 = .ok (.ifCond .eq 31, 3) := by decide +kernel
theorem dL_law_725 : decode cL_law 725 = .ok (.aload_n 2, 1) := by decide +kernel
theorem dL_law_726 : decode cL_law 726 = .ok (.iconst 2, 1) := by decide +kernel
theorem dL_law_727 : decode cL_law 727 = .ok (.iaload, 1) := by decide +kernel
theorem dL_law_728 : decode cL_law 728 = .ok (.iload 14, 2) := by decide +kernel
theorem dL_law_730 : decode cL_law 730 = .ok (.ishr, 1) := by decide +kernel
theorem dL_law_731 : decode cL_law 731 = .ok (.iconst 1, 1) := by decide +kernel
theorem dL_law_732 : decode cL_law 732 = .ok (.iand, 1) := by decide +kernel
theorem dL_law_733 : decode cL_law 733 = .ok (.ifCond .ne 20, 3) := by decide +kernel
theorem dL_law_736 : decode cL_law 736 = .ok (.aload 6, 2) := by decide +kernel
theorem dL_law_738 : decode cL_law 738 = .ok (.bipush 8, 2) := by decide +kernel
theorem dL_law_740 : decode cL_law 740 = .ok (.iload 14, 2) := by decide +kernel
theorem dL_law_742 : decode cL_law 742 = .ok (.iadd, 1) := by decide +kernel
theorem dL_law_743 : decode cL_law 743 = .ok (.iaload, 1) := by decide +kernel
theorem dL_law_744 : decode cL_law 744 = .ok (.iload 13, 2) := by decide +kernel
theorem dL_law_746 : decode cL_law 746 = .ok (.if_icmp .gt 7, 3) := by decide +kernel
theorem dL_law_749 : decode cL_law 749 = .ok (.iconst 1, 1) := by decide +kernel
theorem dL_law_750 : decode cL_law 750 = .ok (.goto 4, 3) := by decide +kernel
theorem dL_law_753 : decode cL_law 753 = .ok (.iconst 0, 1) := by decide +kernel
theorem dL_law_754 : decode cL_law 754 = .ok (.istore 12, 2) := by decide +kernel
theorem dL_law_756 : decode cL_law 756 = .ok (.iload 11, 2) := by decide +kernel
theorem dL_law_758 : decode cL_law 758 = .ok (.iload 12, 2) := by decide +kernel
theorem dL_law_760 : decode cL_law 760 = .ok (.ifCond .eq 7, 3) := by decide +kernel
theorem dL_law_763 : decode cL_law 763 = .ok (.iconst 1, 1) := by decide +kernel
theorem dL_law_764 : decode cL_law 764 = .ok (.goto 4, 3) := by decide +kernel
theorem dL_law_767 : decode cL_law 767 = .ok (.iconst 0, 1) := by decide +kernel
theorem dL_law_768 : decode cL_law 768 = .ok (.iadd, 1) := by decide +kernel
theorem dL_law_769 : decode cL_law 769 = .ok (.istore 11, 2) := by decide +kernel
theorem dL_law_771 : decode cL_law 771 = .ok (.iinc 13 1, 3) := by decide +kernel
theorem dL_law_774 : decode cL_law 774 = .ok (.goto (-118), 3) := by decide +kernel
theorem dL_law_777 : decode cL_law 777 = .ok (.aload_n 1, 1) := by decide +kernel
theorem dL_law_778 : decode cL_law 778 = .ok (.iconst 1, 1) := by decide +kernel
theorem dL_law_779 : decode cL_law 779 = .ok (.iconst 1, 1) := by decide +kernel
theorem dL_law_780 : decode cL_law 780 = .ok (.iconst 2, 1) := by decide +kernel
theorem dL_law_781 : decode cL_law 781 = .ok (.iload 10, 2) := by decide +kernel
theorem dL_law_783 : decode cL_law 783 = .ok (.invokevirtual 82, 3) := by decide +kernel
theorem dL_law_786 : decode cL_law 786 = .ok (.iload 11, 2) := by decide +kernel
theorem dL_law_788 : decode cL_law 788 = .ok (.if_icmp .eq 5, 3) := by decide +kernel
theorem dL_law_791 : decode cL_law 791 = .ok (.iconst 0, 1) := by decide +kernel
theorem dL_law_792 : decode cL_law 792 = .ok (.ireturn, 1) := by decide +kernel
theorem dL_law_793 : decode cL_law 793 = .ok (.iinc 8 1, 3) := by decide +kernel
theorem dL_law_796 : decode cL_law 796 = .ok (.goto (-726), 3) := by decide +kernel
theorem dL_law_799 : decode cL_law 799 = .ok (.aload_n 1, 1) := by decide +kernel
theorem dL_law_800 : decode cL_law 800 = .ok (.iload 4, 2) := by decide +kernel
theorem dL_law_802 : decode cL_law 802 = .ok (.iconst 0, 1) := by decide +kernel
theorem dL_law_803 : decode cL_law 803 = .ok (.invokevirtual 58, 3) := by decide +kernel
theorem dL_law_806 : decode cL_law 806 = .ok (.iconst (-1), 1) := by decide +kernel
theorem dL_law_807 : decode cL_law 807 = .ok (.if_icmp .ne 324, 3) := by decide +kernel
theorem dL_law_810 : decode cL_law 810 = .ok (.aload_n 1, 1) := by decide +kernel
theorem dL_law_811 : decode cL_law 811 = .ok (.iconst 0, 1) := by decide +kernel
theorem dL_law_812 : decode cL_law 812 = .ok (.bipush 6, 2) := by decide +kernel
theorem dL_law_814 : decode cL_law 814 = .ok (.invokevirtual 58, 3) := by decide +kernel
theorem dL_law_817 : decode cL_law 817 = .ok (.bipush (-2), 2) := by decide +kernel
theorem dL_law_819 : decode cL_law 819 = .ok (.if_icmp .ne 312, 3) := by decide +kernel
theorem dL_law_822 : decode cL_law 822 = .ok (.aload_n 1, 1) := by decide +kernel
theorem dL_law_823 : decode cL_law 823 = .ok (.iload 4, 2) := by decide +kernel
theorem dL_law_825 : decode cL_law 825 = .ok (.iconst 0, 1) := by decide +kernel
theorem dL_law_826 : decode cL_law 826 = .ok (.iconst 0, 1) := by decide +kernel
theorem dL_law_827 : decode cL_law 827 = .ok (.iconst 1, 1) := by decide +kernel
theorem dL_law_828 : decode cL_law 828 = .ok (.invokevirtual 32, 3) := by decide +kernel
theorem dL_law_831 : decode cL_law 831 = .ok (.iconst (-1), 1) := by decide +kernel
theorem dL_law_832 : decode cL_law 832 = .ok (.if_icmp .ne 299, 3) := by decide +kernel
theorem dL_law_835 : decode cL_law 835 = .ok (.aload_n 1, 1) := by decide +kernel
theorem dL_law_836 : decode cL_law 836 = .ok (.iconst 0, 1) := by decide +kernel
theorem dL_law_837 : decode cL_law 837 = .ok (.iconst 0, 1) := by decide +kernel
theorem dL_law_838 : decode cL_law 838 = .ok (.iconst 0, 1) := by decide +kernel
theorem dL_law_839 : decode cL_law 839 = .ok (.iconst 1, 1) := by decide +kernel
theorem dL_law_840 : decode cL_law 840 = .ok (.invokevirtual 32, 3) := by decide +kernel
theorem dL_law_843 : decode cL_law 843 = .ok (.iconst (-1), 1) := by decide +kernel
theorem dL_law_844 : decode cL_law 844 = .ok (.if_icmp .ne 287, 3) := by decide +kernel
theorem dL_law_847 : decode cL_law 847 = .ok (.aload_n 1, 1) := by decide +kernel
theorem dL_law_848 : decode cL_law 848 = .ok (.iconst 0, 1) := by decide +kernel
theorem dL_law_849 : decode cL_law 849 = .ok (.iconst 1, 1) := by decide +kernel
theorem dL_law_850 : decode cL_law 850 = .ok (.bipush 30, 2) := by decide +kernel
theorem dL_law_852 : decode cL_law 852 = .ok (.iconst 1, 1) := by decide +kernel
theorem dL_law_853 : decode cL_law 853 = .ok (.invokevirtual 32, 3) := by decide +kernel
theorem dL_law_856 : decode cL_law 856 = .ok (.bipush (-2), 2) := by decide +kernel
theorem dL_law_858 : decode cL_law 858 = .ok (.if_icmp .ne 273, 3) := by decide +kernel
theorem dL_law_861 : decode cL_law 861 = .ok (.aload_n 1, 1) := by decide +kernel
theorem dL_law_862 : decode cL_law 862 = .ok (.iconst 0, 1) := by decide +kernel
theorem dL_law_863 : decode cL_law 863 = .ok (.iconst 1, 1) := by decide +kernel
theorem dL_law_864 : decode cL_law 864 = .ok (.iconst 0, 1) := by decide +kernel
theorem dL_law_865 : decode cL_law 865 = .ok (.iconst 0, 1) := by decide +kernel
theorem dL_law_866 : decode cL_law 866 = .ok (.invokevirtual 32, 3) := by decide +kernel
theorem dL_law_869 : decode cL_law 869 = .ok (.bipush (-2), 2) := by decide +kernel
theorem dL_law_871 : decode cL_law 871 = .ok (.if_icmp .ne 260, 3) := by decide +kernel
theorem dL_law_874 : decode cL_law 874 = .ok (.aload_n 1, 1) := by decide +kernel
theorem dL_law_875 : decode cL_law 875 = .ok (.iconst 0, 1) := by decide +kernel
theorem dL_law_876 : decode cL_law 876 = .ok (.iconst 1, 1) := by decide +kernel
theorem dL_law_877 : decode cL_law 877 = .ok (.iconst 0, 1) := by decide +kernel
theorem dL_law_878 : decode cL_law 878 = .ok (.bipush 10, 2) := by decide +kernel
theorem dL_law_880 : decode cL_law 880 = .ok (.invokevirtual 32, 3) := by decide +kernel
theorem dL_law_883 : decode cL_law 883 = .ok (.bipush (-2), 2) := by decide +kernel
theorem dL_law_885 : decode cL_law 885 = .ok (.if_icmp .ne 246, 3) := by decide +kernel
theorem dL_law_888 : decode cL_law 888 = .ok (.aload_n 1, 1) := by decide +kernel
theorem dL_law_889 : decode cL_law 889 = .ok (.aload_n 2, 1) := by decide +kernel
theorem dL_law_890 : decode cL_law 890 = .ok (.iconst 1, 1) := by decide +kernel
theorem dL_law_891 : decode cL_law 891 = .ok (.iaload, 1) := by decide +kernel
theorem dL_law_892 : decode cL_law 892 = .ok (.iconst 1, 1) := by decide +kernel
theorem dL_law_893 : decode cL_law 893 = .ok (.iadd, 1) := by decide +kernel
theorem dL_law_894 : decode cL_law 894 = .ok (.invokevirtual 28, 3) := by decide +kernel
theorem dL_law_897 : decode cL_law 897 = .ok (.bipush (-2), 2) := by decide +kernel
theorem dL_law_899 : decode cL_law 899 = .ok (.if_icmp .ne 232, 3) := by decide +kernel
theorem dL_law_902 : decode cL_law 902 = .ok (.aload_n 1, 1) := by decide +kernel
theorem dL_law_903 : decode cL_law 903 = .ok (.iconst (-1), 1) := by decide +kernel
theorem dL_law_904 : decode cL_law 904 = .ok (.invokevirtual 28, 3) := by decide +kernel
theorem dL_law_907 : decode cL_law 907 = .ok (.bipush (-2), 2) := by decide +kernel
theorem dL_law_909 : decode cL_law 909 = .ok (.if_icmp .ne 222, 3) := by decide +kernel
theorem dL_law_912 : decode cL_law 912 = .ok (.aload_n 1, 1) := by decide +kernel
theorem dL_law_913 : decode cL_law 913 = .ok (.iload 4, 2) := by decide +kernel
theorem dL_law_915 : decode cL_law 915 = .ok (.iconst 1, 1) := by decide +kernel
theorem dL_law_916 : decode cL_law 916 = .ok (.invokevirtual 36, 3) := by decide +kernel
theorem dL_law_919 : decode cL_law 919 = .ok (.iconst (-1), 1) := by decide +kernel
theorem dL_law_920 : decode cL_law 920 = .ok (.if_icmp .ne 211, 3) := by decide +kernel
theorem dL_law_923 : decode cL_law 923 = .ok (.aload_n 1, 1) := by decide +kernel
theorem dL_law_924 : decode cL_law 924 = .ok (.bipush 60, 2) := by decide +kernel
theorem dL_law_926 : decode cL_law 926 = .ok (.invokevirtual 71, 3) := by decide +kernel
theorem dL_law_929 : decode cL_law 929 = .ok (.bipush (-2), 2) := by decide +kernel
theorem dL_law_931 : decode cL_law 931 = .ok (.if_icmp .ne 200, 3) := by decide +kernel
theorem dL_law_934 : decode cL_law 934 = .ok (.aload_n 1, 1) := by decide +kernel
theorem dL_law_935 : decode cL_law 935 = .ok (.iconst (-1), 1) := by decide +kernel
theorem dL_law_936 : decode cL_law 936 = .ok (.invokevirtual 71, 3) := by decide +kernel
theorem dL_law_939 : decode cL_law 939 = .ok (.bipush (-2), 2) := by decide +kernel
theorem dL_law_941 : decode cL_law 941 = .ok (.if_icmp .ne 190, 3) := by decide +kernel
theorem dL_law_944 : decode cL_law 944 = .ok (.aload_n 1, 1) := by decide +kernel
theorem dL_law_945 : decode cL_law 945 = .ok (.iload 4, 2) := by decide +kernel
theorem dL_law_947 : decode cL_law 947 = .ok (.iconst 0, 1) := by decide +kernel
theorem dL_law_948 : decode cL_law 948 = .ok (.invokevirtual 74, 3) := by decide +kernel
theorem dL_law_951 : decode cL_law 951 = .ok (.iconst (-1), 1) := by decide +kernel
theorem dL_law_952 : decode cL_law 952 = .ok (.if_icmp .ne 179, 3) := by decide +kernel
theorem dL_law_955 : decode cL_law 955 = .ok (.aload_n 1, 1) := by decide +kernel
theorem dL_law_956 : decode cL_law 956 = .ok (.iconst 0, 1) := by decide +kernel
theorem dL_law_957 : decode cL_law 957 = .ok (.bipush 60, 2) := by decide +kernel
theorem dL_law_959 : decode cL_law 959 = .ok (.invokevirtual 74, 3) := by decide +kernel
theorem dL_law_962 : decode cL_law 962 = .ok (.bipush (-2), 2) := by decide +kernel
theorem dL_law_964 : decode cL_law 964 = .ok (.if_icmp .ne 167, 3) := by decide +kernel
theorem dL_law_967 : decode cL_law 967 = .ok (.aload_n 1, 1) := by decide +kernel
theorem dL_law_968 : decode cL_law 968 = .ok (.iconst 0, 1) := by decide +kernel
theorem dL_law_969 : decode cL_law 969 = .ok (.iconst 0, 1) := by decide +kernel
theorem dL_law_970 : decode cL_law 970 = .ok (.iconst 0, 1) := by decide +kernel
theorem dL_law_971 : decode cL_law 971 = .ok (.invokevirtual 77, 3) := by decide +kernel
theorem dL_law_974 : decode cL_law 974 = .ok (.iconst (-1), 1) := by decide +kernel
theorem dL_law_975 : decode cL_law 975 = .ok (.if_icmp .ne 156, 3) := by decide +kernel
theorem dL_law_978 : decode cL_law 978 = .ok (.aload_n 1, 1) := by decide +kernel
theorem dL_law_979 : decode cL_law 979 = .ok (.iconst 0, 1) := by decide +kernel
theorem dL_law_980 : decode cL_law 980 = .ok (.iload 4, 2) := by decide +kernel
theorem dL_law_982 : decode cL_law 982 = .ok (.iconst 0, 1) := by decide +kernel
theorem dL_law_983 : decode cL_law 983 = .ok (.invokevirtual 77, 3) := by decide +kernel
theorem dL_law_986 : decode cL_law 986 = .ok (.iconst (-1), 1) := by decide +kernel
theorem dL_law_987 : decode cL_law 987 = .ok (.if_icmp .ne 144, 3) := by decide +kernel
theorem dL_law_990 : decode cL_law 990 = .ok (.aload_n 1, 1) := by decide +kernel
theorem dL_law_991 : decode cL_law 991 = .ok (.iconst 0, 1) := by decide +kernel
theorem dL_law_992 : decode cL_law 992 = .ok (.iconst 1, 1) := by decide +kernel
theorem dL_law_993 : decode cL_law 993 = .ok (.bipush 60, 2) := by decide +kernel
theorem dL_law_995 : decode cL_law 995 = .ok (.invokevirtual 77, 3) := by decide +kernel
theorem dL_law_998 : decode cL_law 998 = .ok (.bipush (-2), 2) := by decide +kernel
theorem dL_law_1000 : decode cL_law 1000 = .ok (.if_icmp .ne 131, 3) := by decide +kernel
theorem dL_law_1003 : decode cL_law 1003 = .ok (.aload_n 1, 1) := by decide +kernel
theorem dL_law_1004 : decode cL_law 1004 = .ok (.aload_n 2, 1) := by decide +kernel
theorem dL_law_1005 : decode cL_law 1005 = .ok (.iconst 1, 1) := by decide +kernel
theorem dL_law_1006 : decode cL_law 1006 = .ok (.iaload, 1) := by decide +kernel
theorem dL_law_1007 : decode cL_law 1007 = .ok (.invokevirtual 79, 3) := by decide +kernel
theorem dL_law_1010 : decode cL_law 1010 = .ok (.iconst (-1), 1) := by decide +kernel
theorem dL_law_1011 : decode cL_law 1011 = .ok (.if_icmp .ne 120, 3) := by decide +kernel
theorem dL_law_1014 : decode cL_law 1014 = .ok (.aload_n 1, 1) := by decide +kernel
theorem dL_law_1015 : decode cL_law 1015 = .ok (.iconst 4, 1) := by decide +kernel
theorem dL_law_1016 : decode cL_law 1016 = .ok (.iconst 1, 1) := by decide +kernel
theorem dL_law_1017 : decode cL_law 1017 = .ok (.iconst 2, 1) := by decide +kernel
theorem dL_law_1018 : decode cL_law 1018 = .ok (.iconst 0, 1) := by decide +kernel
theorem dL_law_1019 : decode cL_law 1019 = .ok (.invokevirtual 82, 3) := by decide +kernel
theorem dL_law_1022 : decode cL_law 1022 = .ok (.iconst (-1), 1) := by decide +kernel
theorem dL_law_1023 : decode cL_law 1023 = .ok (.if_icmp .ne 108, 3) := by decide +kernel
theorem dL_law_1026 : decode cL_law 1026 = .ok (.aload_n 1, 1) := by decide +kernel
theorem dL_law_1027 : decode cL_law 1027 = .ok (.iconst 1, 1) := by decide +kernel
theorem dL_law_1028 : decode cL_law 1028 = .ok (.iconst 3, 1) := by decide +kernel
theorem dL_law_1029 : decode cL_law 1029 = .ok (.iconst 2, 1) := by decide +kernel
theorem dL_law_1030 : decode cL_law 1030 = .ok (.iconst 0, 1) := by decide +kernel
theorem dL_law_1031 : decode cL_law 1031 = .ok (.invokevirtual 82, 3) := by decide +kernel
theorem dL_law_1034 : decode cL_law 1034 = .ok (.bipush (-2), 2) := by decide +kernel
theorem dL_law_1036 : decode cL_law 1036 = .ok (.if_icmp .ne 95, 3) := by decide +kernel
theorem dL_law_1039 : decode cL_law 1039 = .ok (.aload_n 1, 1) := by decide +kernel
theorem dL_law_1040 : decode cL_law 1040 = .ok (.iconst 1, 1) := by decide +kernel
theorem dL_law_1041 : decode cL_law 1041 = .ok (.iconst 2, 1) := by decide +kernel
theorem dL_law_1042 : decode cL_law 1042 = .ok (.iconst 2, 1) := by decide +kernel
theorem dL_law_1043 : decode cL_law 1043 = .ok (.iconst 0, 1) := by decide +kernel
theorem dL_law_1044 : decode cL_law 1044 = .ok (.invokevirtual 82, 3) := by decide +kernel
theorem dL_law_1047 : decode cL_law 1047 = .ok (.bipush (-12), 2) := by decide +kernel
theorem dL_law_1049 : decode cL_law 1049 = .ok (.if_icmp .ne 82, 3) := by decide +kernel
theorem dL_law_1052 : decode cL_law 1052 = .ok (.aload_n 1, 1) := by decide +kernel
theorem dL_law_1053 : decode cL_law 1053 = .ok (.iconst 2, 1) := by decide +kernel
theorem dL_law_1054 : decode cL_law 1054 = .ok (.iconst 2, 1) := by decide +kernel
theorem dL_law_1055 : decode cL_law 1055 = .ok (.iconst 2, 1) := by decide +kernel
theorem dL_law_1056 : decode cL_law 1056 = .ok (.iconst 0, 1) := by decide +kernel
theorem dL_law_1057 : decode cL_law 1057 = .ok (.invokevirtual 82, 3) := by decide +kernel
theorem dL_law_1060 : decode cL_law 1060 = .ok (.bipush (-11), 2) := by decide +kernel
theorem dL_law_1062 : decode cL_law 1062 = .ok (.if_icmp .ne 69, 3) := by decide +kernel
theorem dL_law_1065 : decode cL_law 1065 = .ok (.aload_n 1, 1) := by decide +kernel
theorem dL_law_1066 : decode cL_law 1066 = .ok (.iconst 1, 1) := by decide +kernel
theorem dL_law_1067 : decode cL_law 1067 = .ok (.iconst 1, 1) := by decide +kernel
theorem dL_law_1068 : decode cL_law 1068 = .ok (.iconst 2, 1) := by decide +kernel
theorem dL_law_1069 : decode cL_law 1069 = .ok (.iconst (-1), 1) := by decide +kernel
theorem dL_law_1070 : decode cL_law 1070 = .ok (.invokevirtual 82, 3) := by decide +kernel
theorem dL_law_1073 : decode cL_law 1073 = .ok (.bipush (-14), 2) := by decide +kernel
theorem dL_law_1075 : decode cL_law 1075 = .ok (.if_icmp .ne 56, 3) := by decide +kernel
theorem dL_law_1078 : decode cL_law 1078 = .ok (.aload_n 1, 1) := by decide +kernel
theorem dL_law_1079 : decode cL_law 1079 = .ok (.iconst 1, 1) := by decide +kernel
theorem dL_law_1080 : decode cL_law 1080 = .ok (.iconst 1, 1) := by decide +kernel
theorem dL_law_1081 : decode cL_law 1081 = .ok (.iconst 2, 1) := by decide +kernel
theorem dL_law_1082 : decode cL_law 1082 = .ok (.bipush 11, 2) := by decide +kernel
theorem dL_law_1084 : decode cL_law 1084 = .ok (.invokevirtual 82, 3) := by decide +kernel
theorem dL_law_1087 : decode cL_law 1087 = .ok (.bipush (-13), 2) := by decide +kernel
theorem dL_law_1089 : decode cL_law 1089 = .ok (.if_icmp .ne 42, 3) := by decide +kernel
theorem dL_law_1092 : decode cL_law 1092 = .ok (.aload_n 1, 1) := by decide +kernel
theorem dL_law_1093 : decode cL_law 1093 = .ok (.iconst 1, 1) := by decide +kernel
theorem dL_law_1094 : decode cL_law 1094 = .ok (.iconst 1, 1) := by decide +kernel
theorem dL_law_1095 : decode cL_law 1095 = .ok (.iconst 2, 1) := by decide +kernel
theorem dL_law_1096 : decode cL_law 1096 = .ok (.iconst 0, 1) := by decide +kernel
theorem dL_law_1097 : decode cL_law 1097 = .ok (.invokevirtual 82, 3) := by decide +kernel
theorem dL_law_1100 : decode cL_law 1100 = .ok (.ifCond .ne 31, 3) := by decide +kernel
theorem dL_law_1103 : decode cL_law 1103 = .ok (.aload_n 1, 1) := by decide +kernel
theorem dL_law_1104 : decode cL_law 1104 = .ok (.iconst 1, 1) := by decide +kernel
theorem dL_law_1105 : decode cL_law 1105 = .ok (.iconst 2, 1) := by decide +kernel
theorem dL_law_1106 : decode cL_law 1106 = .ok (.iload 4, 2) := by decide +kernel
theorem dL_law_1108 : decode cL_law 1108 = .ok (.invokevirtual 25, 3) := by decide +kernel
theorem dL_law_1111 : decode cL_law 1111 = .ok (.iconst 1, 1) := by decide +kernel
theorem dL_law_1112 : decode cL_law 1112 = .ok (.if_icmp .ne 19, 3) := by decide +kernel
theorem dL_law_1115 : decode cL_law 1115 = .ok (.aload_n 1, 1) := by decide +kernel
theorem dL_law_1116 : decode cL_law 1116 = .ok (.iconst 1, 1) := by decide +kernel
theorem dL_law_1117 : decode cL_law 1117 = .ok (.iconst 1, 1) := by decide +kernel
theorem dL_law_1118 : decode cL_law 1118 = .ok (.iconst 2, 1) := by decide +kernel
theorem dL_law_1119 : decode cL_law 1119 = .ok (.iconst 1, 1) := by decide +kernel
theorem dL_law_1120 : decode cL_law 1120 = .ok (.invokevirtual 82, 3) := by decide +kernel
theorem dL_law_1123 : decode cL_law 1123 = .ok (.iconst (-1), 1) := by decide +kernel
theorem dL_law_1124 : decode cL_law 1124 = .ok (.if_icmp .ne 7, 3) := by decide +kernel
theorem dL_law_1127 : decode cL_law 1127 = .ok (.iconst 1, 1) := by decide +kernel
theorem dL_law_1128 : decode cL_law 1128 = .ok (.goto 4, 3) := by decide +kernel
theorem dL_law_1131 : decode cL_law 1131 = .ok (.iconst 0, 1) := by decide +kernel
theorem dL_law_1132 : decode cL_law 1132 = .ok (.ireturn, 1) := by decide +kernel
