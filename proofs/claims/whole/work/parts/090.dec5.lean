theorem dX9_title_338 : decode cX9_title 338 = .ok (.getfield 55, 3) := by decide +kernel
theorem dX9_title_341 : decode cX9_title 341 = .ok (.iload 9, 2) := by decide +kernel
theorem dX9_title_343 : decode cX9_title 343 = .ok (.iaload, 1) := by decide +kernel
theorem dX9_title_344 : decode cX9_title 344 = .ok (.invokevirtual 139, 3) := by decide +kernel
theorem dX9_title_347 : decode cX9_title 347 = .ok (.ifCond .eq 7, 3) := by decide +kernel
theorem dX9_title_350 : decode cX9_title 350 = .ok (.iconst 1, 1) := by decide +kernel
theorem dX9_title_351 : decode cX9_title 351 = .ok (.goto 4, 3) := by decide +kernel
theorem dX9_title_354 : decode cX9_title 354 = .ok (.iconst 0, 1) := by decide +kernel
theorem dX9_title_355 : decode cX9_title 355 = .ok (.istore 8, 2) := by decide +kernel
theorem dX9_title_357 : decode cX9_title 357 = .ok (.iinc 9 1, 3) := by decide +kernel
theorem dX9_title_360 : decode cX9_title 360 = .ok (.goto (-58), 3) := by decide +kernel
theorem dX9_title_363 : decode cX9_title 363 = .ok (.iload 5, 2) := by decide +kernel
theorem dX9_title_365 : decode cX9_title 365 = .ok (.iload 8, 2) := by decide +kernel
theorem dX9_title_367 : decode cX9_title 367 = .ok (.ifCond .eq 7, 3) := by decide +kernel
theorem dX9_title_370 : decode cX9_title 370 = .ok (.iconst 0, 1) := by decide +kernel
theorem dX9_title_371 : decode cX9_title 371 = .ok (.goto 4, 3) := by decide +kernel
theorem dX9_title_374 : decode cX9_title 374 = .ok (.iconst 1, 1) := by decide +kernel
theorem dX9_title_375 : decode cX9_title 375 = .ok (.iadd, 1) := by decide +kernel
theorem dX9_title_376 : decode cX9_title 376 = .ok (.istore 5, 2) := by decide +kernel
theorem dX9_title_378 : decode cX9_title 378 = .ok (.iinc 7 1, 3) := by decide +kernel
theorem dX9_title_381 : decode cX9_title 381 = .ok (.goto (-157), 3) := by decide +kernel
theorem dX9_title_384 : decode cX9_title 384 = .ok (.aload_n 0, 1) := by decide +kernel
theorem dX9_title_385 : decode cX9_title 385 = .ok (.iload 6, 2) := by decide +kernel
theorem dX9_title_387 : decode cX9_title 387 = .ok (.i2l, 1) := by decide +kernel
theorem dX9_title_388 : decode cX9_title 388 = .ok (.putfield 143, 3) := by decide +kernel
theorem dX9_title_391 : decode cX9_title 391 = .ok (.aload_n 0, 1) := by decide +kernel
theorem dX9_title_392 : decode cX9_title 392 = .ok (.iload 5, 2) := by decide +kernel
theorem dX9_title_394 : decode cX9_title 394 = .ok (.ifCond .ne 7, 3) := by decide +kernel
theorem dX9_title_397 : decode cX9_title 397 = .ok (.lconst 1, 1) := by decide +kernel
theorem dX9_title_398 : decode cX9_title 398 = .ok (.goto 6, 3) := by decide +kernel
theorem dX9_title_401 : decode cX9_title 401 = .ok (.iload 5, 2) := by decide +kernel
theorem dX9_title_403 : decode cX9_title 403 = .ok (.i2l, 1) := by decide +kernel
theorem dX9_title_404 : decode cX9_title 404 = .ok (.putfield 147, 3) := by decide +kernel
theorem dX9_title_407 : decode cX9_title 407 = .ok (.return_, 1) := by decide +kernel
theorem dX9_sameWords_0 : decode cX9_sameWords 0 = .ok (.aload_n 0, 1) := by decide +kernel
theorem dX9_sameWords_1 : decode cX9_sameWords 1 = .ok (.iload_n 1, 1) := by decide +kernel
theorem dX9_sameWords_2 : decode cX9_sameWords 2 = .ok (.aload_n 0, 1) := by decide +kernel
theorem dX9_sameWords_3 : decode cX9_sameWords 3 = .ok (.getfield 52, 3) := by decide +kernel
theorem dX9_sameWords_6 : decode cX9_sameWords 6 = .ok (.aload_n 0, 1) := by decide +kernel
theorem dX9_sameWords_7 : decode cX9_sameWords 7 = .ok (.getfield 55, 3) := by decide +kernel
theorem dX9_sameWords_10 : decode cX9_sameWords 10 = .ok (.invokevirtual 114, 3) := by decide +kernel
theorem dX9_sameWords_13 : decode cX9_sameWords 13 = .ok (.istore_n 3, 1) := by decide +kernel
theorem dX9_sameWords_14 : decode cX9_sameWords 14 = .ok (.aload_n 0, 1) := by decide +kernel
theorem dX9_sameWords_15 : decode cX9_sameWords 15 = .ok (.iload_n 2, 1) := by decide +kernel
theorem dX9_sameWords_16 : decode cX9_sameWords 16 = .ok (.aload_n 0, 1) := by decide +kernel
theorem dX9_sameWords_17 : decode cX9_sameWords 17 = .ok (.getfield 58, 3) := by decide +kernel
theorem dX9_sameWords_20 : decode cX9_sameWords 20 = .ok (.aload_n 0, 1) := by decide +kernel
theorem dX9_sameWords_21 : decode cX9_sameWords 21 = .ok (.getfield 61, 3) := by decide +kernel
theorem dX9_sameWords_24 : decode cX9_sameWords 24 = .ok (.invokevirtual 114, 3) := by decide +kernel
theorem dX9_sameWords_27 : decode cX9_sameWords 27 = .ok (.istore 4, 2) := by decide +kernel
theorem dX9_sameWords_29 : decode cX9_sameWords 29 = .ok (.iload_n 3, 1) := by decide +kernel
theorem dX9_sameWords_30 : decode cX9_sameWords 30 = .ok (.iload 4, 2) := by decide +kernel
theorem dX9_sameWords_32 : decode cX9_sameWords 32 = .ok (.if_icmp .ne 7, 3) := by decide +kernel
theorem dX9_sameWords_35 : decode cX9_sameWords 35 = .ok (.iconst 1, 1) := by decide +kernel
theorem dX9_sameWords_36 : decode cX9_sameWords 36 = .ok (.goto 4, 3) := by decide +kernel
theorem dX9_sameWords_39 : decode cX9_sameWords 39 = .ok (.iconst 0, 1) := by decide +kernel
theorem dX9_sameWords_40 : decode cX9_sameWords 40 = .ok (.istore 5, 2) := by decide +kernel
theorem dX9_sameWords_42 : decode cX9_sameWords 42 = .ok (.iconst 0, 1) := by decide +kernel
theorem dX9_sameWords_43 : decode cX9_sameWords 43 = .ok (.istore 6, 2) := by decide +kernel
theorem dX9_sameWords_45 : decode cX9_sameWords 45 = .ok (.iload 6, 2) := by decide +kernel
theorem dX9_sameWords_47 : decode cX9_sameWords 47 = .ok (.iload_n 3, 1) := by decide +kernel
theorem dX9_sameWords_48 : decode cX9_sameWords 48 = .ok (.if_icmp .ge 50, 3) := by decide +kernel
theorem dX9_sameWords_51 : decode cX9_sameWords 51 = .ok (.iload 5, 2) := by decide +kernel
theorem dX9_sameWords_53 : decode cX9_sameWords 53 = .ok (.ifCond .eq 45, 3) := by decide +kernel
theorem dX9_sameWords_56 : decode cX9_sameWords 56 = .ok (.aload_n 0, 1) := by decide +kernel
theorem dX9_sameWords_57 : decode cX9_sameWords 57 = .ok (.iload_n 1, 1) := by decide +kernel
theorem dX9_sameWords_58 : decode cX9_sameWords 58 = .ok (.aload_n 0, 1) := by decide +kernel
theorem dX9_sameWords_59 : decode cX9_sameWords 59 = .ok (.getfield 52, 3) := by decide +kernel
theorem dX9_sameWords_62 : decode cX9_sameWords 62 = .ok (.iload 6, 2) := by decide +kernel
theorem dX9_sameWords_64 : decode cX9_sameWords 64 = .ok (.iaload, 1) := by decide +kernel
theorem dX9_sameWords_65 : decode cX9_sameWords 65 = .ok (.aload_n 0, 1) := by decide +kernel
theorem dX9_sameWords_66 : decode cX9_sameWords 66 = .ok (.getfield 55, 3) := by decide +kernel
theorem dX9_sameWords_69 : decode cX9_sameWords 69 = .ok (.iload 6, 2) := by decide +kernel
theorem dX9_sameWords_71 : decode cX9_sameWords 71 = .ok (.iaload, 1) := by decide +kernel
theorem dX9_sameWords_72 : decode cX9_sameWords 72 = .ok (.iload_n 2, 1) := by decide +kernel
theorem dX9_sameWords_73 : decode cX9_sameWords 73 = .ok (.aload_n 0, 1) := by decide +kernel
theorem dX9_sameWords_74 : decode cX9_sameWords 74 = .ok (.getfield 58, 3) := by decide +kernel
theorem dX9_sameWords_77 : decode cX9_sameWords 77 = .ok (.iload 6, 2) := by decide +kernel
theorem dX9_sameWords_79 : decode cX9_sameWords 79 = .ok (.iaload, 1) := by decide +kernel
theorem dX9_sameWords_80 : decode cX9_sameWords 80 = .ok (.aload_n 0, 1) := by decide +kernel
theorem dX9_sameWords_81 : decode cX9_sameWords 81 = .ok (.getfield 61, 3) := by decide +kernel
theorem dX9_sameWords_84 : decode cX9_sameWords 84 = .ok (.iload 6, 2) := by decide +kernel
theorem dX9_sameWords_86 : decode cX9_sameWords 86 = .ok (.iaload, 1) := by decide +kernel
theorem dX9_sameWords_87 : decode cX9_sameWords 87 = .ok (.invokevirtual 139, 3) := by decide +kernel
theorem dX9_sameWords_90 : decode cX9_sameWords 90 = .ok (.istore 5, 2) := by decide +kernel
theorem dX9_sameWords_92 : decode cX9_sameWords 92 = .ok (.iinc 6 1, 3) := by decide +kernel
theorem dX9_sameWords_95 : decode cX9_sameWords 95 = .ok (.goto (-50), 3) := by decide +kernel
theorem dX9_sameWords_98 : decode cX9_sameWords 98 = .ok (.iload 5, 2) := by decide +kernel
theorem dX9_sameWords_100 : decode cX9_sameWords 100 = .ok (.ireturn, 1) := by decide +kernel
theorem dX9_likeness_0 : decode cX9_likeness 0 = .ok (.aload_n 0, 1) := by decide +kernel
theorem dX9_likeness_1 : decode cX9_likeness 1 = .ok (.iload_n 2, 1) := by decide +kernel
theorem dX9_likeness_2 : decode cX9_likeness 2 = .ok (.invokevirtual 150, 3) := by decide +kernel
theorem dX9_likeness_5 : decode cX9_likeness 5 = .ok (.istore 4, 2) := by decide +kernel
theorem dX9_likeness_7 : decode cX9_likeness 7 = .ok (.aload_n 0, 1) := by decide +kernel
theorem dX9_likeness_8 : decode cX9_likeness 8 = .ok (.iload_n 3, 1) := by decide +kernel
theorem dX9_likeness_9 : decode cX9_likeness 9 = .ok (.invokevirtual 150, 3) := by decide +kernel
theorem dX9_likeness_12 : decode cX9_likeness 12 = .ok (.istore 5, 2) := by decide +kernel
theorem dX9_likeness_14 : decode cX9_likeness 14 = .ok (.aload_n 0, 1) := by decide +kernel
theorem dX9_likeness_15 : decode cX9_likeness 15 = .ok (.lconst 0, 1) := by decide +kernel
theorem dX9_likeness_16 : decode cX9_likeness 16 = .ok (.putfield 143, 3) := by decide +kernel
theorem dX9_likeness_19 : decode cX9_likeness 19 = .ok (.aload_n 0, 1) := by decide +kernel
theorem dX9_likeness_20 : decode cX9_likeness 20 = .ok (.lconst 1, 1) := by decide +kernel
theorem dX9_likeness_21 : decode cX9_likeness 21 = .ok (.putfield 147, 3) := by decide +kernel
theorem dX9_likeness_24 : decode cX9_likeness 24 = .ok (.iload_n 1, 1) := by decide +kernel
theorem dX9_likeness_25 : decode cX9_likeness 25 = .ok (.tableswitch 149 0 3 #[31, 40, 90, 128], 31) := by decide +kernel
theorem dX9_likeness_56 : decode cX9_likeness 56 = .ok (.aload_n 0, 1) := by decide +kernel
theorem dX9_likeness_57 : decode cX9_likeness 57 = .ok (.iload_n 2, 1) := by decide +kernel
theorem dX9_likeness_58 : decode cX9_likeness 58 = .ok (.iload_n 3, 1) := by decide +kernel
theorem dX9_likeness_59 : decode cX9_likeness 59 = .ok (.invokevirtual 153, 3) := by decide +kernel
theorem dX9_likeness_62 : decode cX9_likeness 62 = .ok (.goto 180, 3) := by decide +kernel
theorem dX9_likeness_65 : decode cX9_likeness 65 = .ok (.aload_n 0, 1) := by decide +kernel
theorem dX9_likeness_66 : decode cX9_likeness 66 = .ok (.iload 4, 2) := by decide +kernel
theorem dX9_likeness_68 : decode cX9_likeness 68 = .ok (.iload 5, 2) := by decide +kernel
theorem dX9_likeness_70 : decode cX9_likeness 70 = .ok (.if_icmp .ne 9, 3) := by decide +kernel
theorem dX9_likeness_73 : decode cX9_likeness 73 = .ok (.ldc2_w 157, 3) := by decide +kernel
theorem dX9_likeness_76 : decode cX9_likeness 76 = .ok (.goto 26, 3) := by decide +kernel
theorem dX9_likeness_79 : decode cX9_likeness 79 = .ok (.iload 4, 2) := by decide +kernel
theorem dX9_likeness_81 : decode cX9_likeness 81 = .ok (.iload 5, 2) := by decide +kernel
theorem dX9_likeness_83 : decode cX9_likeness 83 = .ok (.isub, 1) := by decide +kernel
theorem dX9_likeness_84 : decode cX9_likeness 84 = .ok (.iconst 1, 1) := by decide +kernel
theorem dX9_likeness_85 : decode cX9_likeness 85 = .ok (.if_icmp .eq 12, 3) := by decide +kernel
theorem dX9_likeness_88 : decode cX9_likeness 88 = .ok (.iload 5, 2) := by decide +kernel
theorem dX9_likeness_90 : decode cX9_likeness 90 = .ok (.iload 4, 2) := by decide +kernel
theorem dX9_likeness_92 : decode cX9_likeness 92 = .ok (.isub, 1) := by decide +kernel
theorem dX9_likeness_93 : decode cX9_likeness 93 = .ok (.iconst 1, 1) := by decide +kernel
theorem dX9_likeness_94 : decode cX9_likeness 94 = .ok (.if_icmp .ne 7, 3) := by decide +kernel
theorem dX9_likeness_97 : decode cX9_likeness 97 = .ok (.lconst 1, 1) := by decide +kernel
theorem dX9_likeness_98 : decode cX9_likeness 98 = .ok (.goto 4, 3) := by decide +kernel
theorem dX9_likeness_101 : decode cX9_likeness 101 = .ok (.lconst 0, 1) := by decide +kernel
theorem dX9_likeness_102 : decode cX9_likeness 102 = .ok (.putfield 143, 3) := by decide +kernel
theorem dX9_likeness_105 : decode cX9_likeness 105 = .ok (.aload_n 0, 1) := by decide +kernel
theorem dX9_likeness_106 : decode cX9_likeness 106 = .ok (.ldc2_w 157, 3) := by decide +kernel
theorem dX9_likeness_109 : decode cX9_likeness 109 = .ok (.putfield 147, 3) := by decide +kernel
theorem dX9_likeness_112 : decode cX9_likeness 112 = .ok (.goto 130, 3) := by decide +kernel
theorem dX9_likeness_115 : decode cX9_likeness 115 = .ok (.aload_n 0, 1) := by decide +kernel
theorem dX9_likeness_116 : decode cX9_likeness 116 = .ok (.aload_n 0, 1) := by decide +kernel
theorem dX9_likeness_117 : decode cX9_likeness 117 = .ok (.iload_n 2, 1) := by decide +kernel
theorem dX9_likeness_118 : decode cX9_likeness 118 = .ok (.invokevirtual 108, 3) := by decide +kernel
theorem dX9_likeness_121 : decode cX9_likeness 121 = .ok (.ldc2_w 99, 3) := by decide +kernel
theorem dX9_likeness_124 : decode cX9_likeness 124 = .ok (.lcmp, 1) := by decide +kernel
theorem dX9_likeness_125 : decode cX9_likeness 125 = .ok (.ifCond .eq 21, 3) := by decide +kernel
theorem dX9_likeness_128 : decode cX9_likeness 128 = .ok (.aload_n 0, 1) := by decide +kernel
theorem dX9_likeness_129 : decode cX9_likeness 129 = .ok (.iload_n 2, 1) := by decide +kernel
theorem dX9_likeness_130 : decode cX9_likeness 130 = .ok (.invokevirtual 108, 3) := by decide +kernel
theorem dX9_likeness_133 : decode cX9_likeness 133 = .ok (.aload_n 0, 1) := by decide +kernel
theorem dX9_likeness_134 : decode cX9_likeness 134 = .ok (.iload_n 3, 1) := by decide +kernel
theorem dX9_likeness_135 : decode cX9_likeness 135 = .ok (.invokevirtual 108, 3) := by decide +kernel
theorem dX9_likeness_138 : decode cX9_likeness 138 = .ok (.lcmp, 1) := by decide +kernel
theorem dX9_likeness_139 : decode cX9_likeness 139 = .ok (.ifCond .ne 7, 3) := by decide +kernel
theorem dX9_likeness_142 : decode cX9_likeness 142 = .ok (.lconst 1, 1) := by decide +kernel
theorem dX9_likeness_143 : decode cX9_likeness 143 = .ok (.goto 4, 3) := by decide +kernel
theorem dX9_likeness_146 : decode cX9_likeness 146 = .ok (.lconst 0, 1) := by decide +kernel
theorem dX9_likeness_147 : decode cX9_likeness 147 = .ok (.putfield 143, 3) := by decide +kernel
theorem dX9_likeness_150 : decode cX9_likeness 150 = .ok (.goto 92, 3) := by decide +kernel
theorem dX9_likeness_153 : decode cX9_likeness 153 = .ok (.aload_n 0, 1) := by decide +kernel
theorem dX9_likeness_154 : decode cX9_likeness 154 = .ok (.aload_n 0, 1) := by decide +kernel
theorem dX9_likeness_155 : decode cX9_likeness 155 = .ok (.iload_n 2, 1) := by decide +kernel
theorem dX9_likeness_156 : decode cX9_likeness 156 = .ok (.iload_n 3, 1) := by decide +kernel
theorem dX9_likeness_157 : decode cX9_likeness 157 = .ok (.invokevirtual 159, 3) := by decide +kernel
theorem dX9_likeness_160 : decode cX9_likeness 160 = .ok (.ifCond .eq 7, 3) := by decide +kernel
theorem dX9_likeness_163 : decode cX9_likeness 163 = .ok (.lconst 1, 1) := by decide +kernel
theorem dX9_likeness_164 : decode cX9_likeness 164 = .ok (.goto 4, 3) := by decide +kernel
theorem dX9_likeness_167 : decode cX9_likeness 167 = .ok (.lconst 0, 1) := by decide +kernel
theorem dX9_likeness_168 : decode cX9_likeness 168 = .ok (.putfield 143, 3) := by decide +kernel
theorem dX9_likeness_171 : decode cX9_likeness 171 = .ok (.goto 71, 3) := by decide +kernel
theorem dX9_likeness_174 : decode cX9_likeness 174 = .ok (.aload_n 0, 1) := by decide +kernel
theorem dX9_likeness_175 : decode cX9_likeness 175 = .ok (.iload 4, 2) := by decide +kernel
theorem dX9_likeness_177 : decode cX9_likeness 177 = .ok (.ifCond .ne 12, 3) := by decide +kernel
theorem dX9_likeness_180 : decode cX9_likeness 180 = .ok (.iload 5, 2) := by decide +kernel
theorem dX9_likeness_182 : decode cX9_likeness 182 = .ok (.ifCond .ne 7, 3) := by decide +kernel
theorem dX9_likeness_185 : decode cX9_likeness 185 = .ok (.lconst 1, 1) := by decide +kernel
theorem dX9_likeness_186 : decode cX9_likeness 186 = .ok (.goto 19, 3) := by decide +kernel
theorem dX9_likeness_189 : decode cX9_likeness 189 = .ok (.iload 4, 2) := by decide +kernel
theorem dX9_likeness_191 : decode cX9_likeness 191 = .ok (.iload 5, 2) := by decide +kernel
theorem dX9_likeness_193 : decode cX9_likeness 193 = .ok (.if_icmp .ge 9, 3) := by decide +kernel
theorem dX9_likeness_196 : decode cX9_likeness 196 = .ok (.iload 4, 2) := by decide +kernel
theorem dX9_likeness_198 : decode cX9_likeness 198 = .ok (.i2l, 1) := by decide +kernel
theorem dX9_likeness_199 : decode cX9_likeness 199 = .ok (.goto 6, 3) := by decide +kernel
theorem dX9_likeness_202 : decode cX9_likeness 202 = .ok (.iload 5, 2) := by decide +kernel
theorem dX9_likeness_204 : decode cX9_likeness 204 = .ok (.i2l, 1) := by decide +kernel
theorem dX9_likeness_205 : decode cX9_likeness 205 = .ok (.putfield 143, 3) := by decide +kernel
theorem dX9_likeness_208 : decode cX9_likeness 208 = .ok (.aload_n 0, 1) := by decide +kernel
theorem dX9_likeness_209 : decode cX9_likeness 209 = .ok (.iload 4, 2) := by decide +kernel
theorem dX9_likeness_211 : decode cX9_likeness 211 = .ok (.ifCond .ne 12, 3) := by decide +kernel
theorem dX9_likeness_214 : decode cX9_likeness 214 = .ok (.iload 5, 2) := by decide +kernel
theorem dX9_likeness_216 : decode cX9_likeness 216 = .ok (.ifCond .ne 7, 3) := by decide +kernel
theorem dX9_likeness_219 : decode cX9_likeness 219 = .ok (.lconst 1, 1) := by decide +kernel
theorem dX9_likeness_220 : decode cX9_likeness 220 = .ok (.goto 19, 3) := by decide +kernel
theorem dX9_likeness_223 : decode cX9_likeness 223 = .ok (.iload 4, 2) := by decide +kernel
theorem dX9_likeness_225 : decode cX9_likeness 225 = .ok (.iload 5, 2) := by decide +kernel
theorem dX9_likeness_227 : decode cX9_likeness 227 = .ok (.if_icmp .ge 9, 3) := by decide +kernel
theorem dX9_likeness_230 : decode cX9_likeness 230 = .ok (.iload 5, 2) := by decide +kernel
theorem dX9_likeness_232 : decode cX9_likeness 232 = .ok (.i2l, 1) := by decide +kernel
theorem dX9_likeness_233 : decode cX9_likeness 233 = .ok (.goto 6, 3) := by decide +kernel
theorem dX9_likeness_236 : decode cX9_likeness 236 = .ok (.iload 4, 2) := by decide +kernel
theorem dX9_likeness_238 : decode cX9_likeness 238 = .ok (.i2l, 1) := by decide +kernel
theorem dX9_likeness_239 : decode cX9_likeness 239 = .ok (.putfield 147, 3) := by decide +kernel
theorem dX9_likeness_242 : decode cX9_likeness 242 = .ok (.return_, 1) := by decide +kernel
theorem dX9_divisor_0 : decode cX9_divisor 0 = .ok (.lload_n 0, 1) := by decide +kernel
theorem dX9_divisor_1 : decode cX9_divisor 1 = .ok (.lstore 4, 2) := by decide +kernel
theorem dX9_divisor_3 : decode cX9_divisor 3 = .ok (.lload_n 2, 1) := by decide +kernel
theorem dX9_divisor_4 : decode cX9_divisor 4 = .ok (.lstore 6, 2) := by decide +kernel
theorem dX9_divisor_6 : decode cX9_divisor 6 = .ok (.lload 6, 2) := by decide +kernel
theorem dX9_divisor_8 : decode cX9_divisor 8 = .ok (.lconst 0, 1) := by decide +kernel
theorem dX9_divisor_9 : decode cX9_divisor 9 = .ok (.lcmp, 1) := by decide +kernel
theorem dX9_divisor_10 : decode cX9_divisor 10 = .ok (.ifCond .le 21, 3) := by decide +kernel
theorem dX9_divisor_13 : decode cX9_divisor 13 = .ok (.lload 4, 2) := by decide +kernel
theorem dX9_divisor_15 : decode cX9_divisor 15 = .ok (.lload 6, 2) := by decide +kernel
theorem dX9_divisor_17 : decode cX9_divisor 17 = .ok (.lrem, 1) := by decide +kernel
theorem dX9_divisor_18 : decode cX9_divisor 18 = .ok (.lstore 8, 2) := by decide +kernel
theorem dX9_divisor_20 : decode cX9_divisor 20 = .ok (.lload 6, 2) := by decide +kernel
theorem dX9_divisor_22 : decode cX9_divisor 22 = .ok (.lstore 4, 2) := by decide +kernel
theorem dX9_divisor_24 : decode cX9_divisor 24 = .ok (.lload 8, 2) := by decide +kernel
theorem dX9_divisor_26 : decode cX9_divisor 26 = .ok (.lstore 6, 2) := by decide +kernel
theorem dX9_divisor_28 : decode cX9_divisor 28 = .ok (.goto (-22), 3) := by decide +kernel
theorem dX9_divisor_31 : decode cX9_divisor 31 = .ok (.lload 4, 2) := by decide +kernel
theorem dX9_divisor_33 : decode cX9_divisor 33 = .ok (.lreturn, 1) := by decide +kernel
theorem dX9_score_0 : decode cX9_score 0 = .ok (.aload_n 0, 1) := by decide +kernel
theorem dX9_score_1 : decode cX9_score 1 = .ok (.iconst 0, 1) := by decide +kernel
theorem dX9_score_2 : decode cX9_score 2 = .ok (.putfield 64, 3) := by decide +kernel
theorem dX9_score_5 : decode cX9_score 5 = .ok (.aload_n 0, 1) := by decide +kernel
theorem dX9_score_6 : decode cX9_score 6 = .ok (.iload_n 1, 1) := by decide +kernel
theorem dX9_score_7 : decode cX9_score 7 = .ok (.invokevirtual 75, 3) := by decide +kernel
theorem dX9_score_10 : decode cX9_score 10 = .ok (.ifCond .eq 11, 3) := by decide +kernel
theorem dX9_score_13 : decode cX9_score 13 = .ok (.aload_n 0, 1) := by decide +kernel
theorem dX9_score_14 : decode cX9_score 14 = .ok (.iload_n 2, 1) := by decide +kernel
theorem dX9_score_15 : decode cX9_score 15 = .ok (.invokevirtual 75, 3) := by decide +kernel
theorem dX9_score_18 : decode cX9_score 18 = .ok (.ifCond .ne 7, 3) := by decide +kernel
theorem dX9_score_21 : decode cX9_score 21 = .ok (.ldc2_w 99, 3) := by decide +kernel
theorem dX9_score_24 : decode cX9_score 24 = .ok (.lreturn, 1) := by decide +kernel
theorem dX9_score_25 : decode cX9_score 25 = .ok (.lconst 0, 1) := by decide +kernel
theorem dX9_score_26 : decode cX9_score 26 = .ok (.lstore 4, 2) := by decide +kernel
theorem dX9_score_28 : decode cX9_score 28 = .ok (.lconst 1, 1) := by decide +kernel
theorem dX9_score_29 : decode cX9_score 29 = .ok (.lstore 6, 2) := by decide +kernel
theorem dX9_score_31 : decode cX9_score 31 = .ok (.lconst 0, 1) := by decide +kernel
theorem dX9_score_32 : decode cX9_score 32 = .ok (.lstore 8, 2) := by decide +kernel
theorem dX9_score_34 : decode cX9_score 34 = .ok (.iconst 0, 1) := by decide +kernel
theorem dX9_score_35 : decode cX9_score 35 = .ok (.istore 10, 2) := by decide +kernel
theorem dX9_score_37 : decode cX9_score 37 = .ok (.iload 10, 2) := by decide +kernel
theorem dX9_score_39 : decode cX9_score 39 = .ok (.iconst 5, 1) := by decide +kernel
theorem dX9_score_40 : decode cX9_score 40 = .ok (.if_icmp .ge 106, 3) := by decide +kernel
theorem dX9_score_43 : decode cX9_score 43 = .ok (.aload_n 0, 1) := by decide +kernel
theorem dX9_score_44 : decode cX9_score 44 = .ok (.iload_n 1, 1) := by decide +kernel
theorem dX9_score_45 : decode cX9_score 45 = .ok (.iload 10, 2) := by decide +kernel
theorem dX9_score_47 : decode cX9_score 47 = .ok (.invokevirtual 162, 3) := by decide +kernel
theorem dX9_score_50 : decode cX9_score 50 = .ok (.istore 11, 2) := by decide +kernel
theorem dX9_score_52 : decode cX9_score 52 = .ok (.aload_n 0, 1) := by decide +kernel
theorem dX9_score_53 : decode cX9_score 53 = .ok (.iload_n 2, 1) := by decide +kernel
theorem dX9_score_54 : decode cX9_score 54 = .ok (.iload 10, 2) := by decide +kernel
theorem dX9_score_56 : decode cX9_score 56 = .ok (.invokevirtual 162, 3) := by decide +kernel
theorem dX9_score_59 : decode cX9_score 59 = .ok (.istore 12, 2) := by decide +kernel
theorem dX9_score_61 : decode cX9_score 61 = .ok (.iload 11, 2) := by decide +kernel
theorem dX9_score_63 : decode cX9_score 63 = .ok (.ifCond .le 77, 3) := by decide +kernel
theorem dX9_score_66 : decode cX9_score 66 = .ok (.iload 12, 2) := by decide +kernel
theorem dX9_score_68 : decode cX9_score 68 = .ok (.ifCond .le 72, 3) := by decide +kernel
theorem dX9_score_71 : decode cX9_score 71 = .ok (.aload_n 0, 1) := by decide +kernel
theorem dX9_score_72 : decode cX9_score 72 = .ok (.iload 10, 2) := by decide +kernel
theorem dX9_score_74 : decode cX9_score 74 = .ok (.iload 11, 2) := by decide +kernel
theorem dX9_score_76 : decode cX9_score 76 = .ok (.iload 12, 2) := by decide +kernel
theorem dX9_score_78 : decode cX9_score 78 = .ok (.invokevirtual 165, 3) := by decide +kernel
theorem dX9_score_81 : decode cX9_score 81 = .ok (.ldc2_w 169, 3) := by decide +kernel
theorem dX9_score_84 : decode cX9_score 84 = .ok (.aload_n 0, 1) := by decide +kernel
theorem dX9_score_85 : decode cX9_score 85 = .ok (.getfield 39, 3) := by decide +kernel
theorem dX9_score_88 : decode cX9_score 88 = .ok (.iload 10, 2) := by decide +kernel
theorem dX9_score_90 : decode cX9_score 90 = .ok (.iaload, 1) := by decide +kernel
theorem dX9_score_91 : decode cX9_score 91 = .ok (.i2l, 1) := by decide +kernel
theorem dX9_score_92 : decode cX9_score 92 = .ok (.ldiv, 1) := by decide +kernel
theorem dX9_score_93 : decode cX9_score 93 = .ok (.aload_n 0, 1) := by decide +kernel
theorem dX9_score_94 : decode cX9_score 94 = .ok (.getfield 36, 3) := by decide +kernel
theorem dX9_score_97 : decode cX9_score 97 = .ok (.iload 10, 2) := by decide +kernel
theorem dX9_score_99 : decode cX9_score 99 = .ok (.iaload, 1) := by decide +kernel
theorem dX9_score_100 : decode cX9_score 100 = .ok (.i2l, 1) := by decide +kernel
theorem dX9_score_101 : decode cX9_score 101 = .ok (.lmul, 1) := by decide +kernel
theorem dX9_score_102 : decode cX9_score 102 = .ok (.lstore 13, 2) := by decide +kernel
theorem dX9_score_104 : decode cX9_score 104 = .ok (.lload 4, 2) := by decide +kernel
theorem dX9_score_106 : decode cX9_score 106 = .ok (.aload_n 0, 1) := by decide +kernel
theorem dX9_score_107 : decode cX9_score 107 = .ok (.getfield 147, 3) := by decide +kernel
theorem dX9_score_110 : decode cX9_score 110 = .ok (.lmul, 1) := by decide +kernel
theorem dX9_score_111 : decode cX9_score 111 = .ok (.lload 13, 2) := by decide +kernel
theorem dX9_score_113 : decode cX9_score 113 = .ok (.aload_n 0, 1) := by decide +kernel
theorem dX9_score_114 : decode cX9_score 114 = .ok (.getfield 143, 3) := by decide +kernel
theorem dX9_score_117 : decode cX9_score 117 = .ok (.lmul, 1) := by decide +kernel
theorem dX9_score_118 : decode cX9_score 118 = .ok (.lload 6, 2) := by decide +kernel
theorem dX9_score_120 : decode cX9_score 120 = .ok (.lmul, 1) := by decide +kernel
theorem dX9_score_121 : decode cX9_score 121 = .ok (.ladd, 1) := by decide +kernel
theorem dX9_score_122 : decode cX9_score 122 = .ok (.lstore 4, 2) := by decide +kernel
theorem dX9_score_124 : decode cX9_score 124 = .ok (.lload 6, 2) := by decide +kernel
theorem dX9_score_126 : decode cX9_score 126 = .ok (.aload_n 0, 1) := by decide +kernel
theorem dX9_score_127 : decode cX9_score 127 = .ok (.getfield 147, 3) := by decide +kernel
theorem dX9_score_130 : decode cX9_score 130 = .ok (.lmul, 1) := by decide +kernel
theorem dX9_score_131 : decode cX9_score 131 = .ok (.lstore 6, 2) := by decide +kernel
theorem dX9_score_133 : decode cX9_score 133 = .ok (.lload 8, 2) := by decide +kernel
theorem dX9_score_135 : decode cX9_score 135 = .ok (.lload 13, 2) := by decide +kernel
theorem dX9_score_137 : decode cX9_score 137 = .ok (.ladd, 1) := by decide +kernel
theorem dX9_score_138 : decode cX9_score 138 = .ok (.lstore 8, 2) := by decide +kernel
theorem dX9_score_140 : decode cX9_score 140 = .ok (.iinc 10 1, 3) := by decide +kernel
theorem dX9_score_143 : decode cX9_score 143 = .ok (.goto (-106), 3) := by decide +kernel
theorem dX9_score_146 : decode cX9_score 146 = .ok (.lload 8, 2) := by decide +kernel
theorem dX9_score_148 : decode cX9_score 148 = .ok (.lconst 0, 1) := by decide +kernel
theorem dX9_score_149 : decode cX9_score 149 = .ok (.lcmp, 1) := by decide +kernel
theorem dX9_score_150 : decode cX9_score 150 = .ok (.ifCond .ne 10, 3) := by decide +kernel
theorem dX9_score_153 : decode cX9_score 153 = .ok (.aload_n 0, 1) := by decide +kernel
theorem dX9_score_154 : decode cX9_score 154 = .ok (.iconst 1, 1) := by decide +kernel
theorem dX9_score_155 : decode cX9_score 155 = .ok (.putfield 64, 3) := by decide +kernel
theorem dX9_score_158 : decode cX9_score 158 = .ok (.lconst 0, 1) := by decide +kernel
theorem dX9_score_159 : decode cX9_score 159 = .ok (.lreturn, 1) := by decide +kernel
theorem dX9_score_160 : decode cX9_score 160 = .ok (.lload 6, 2) := by decide +kernel
theorem dX9_score_162 : decode cX9_score 162 = .ok (.lload 8, 2) := by decide +kernel
theorem dX9_score_164 : decode cX9_score 164 = .ok (.lmul, 1) := by decide +kernel
theorem dX9_score_165 : decode cX9_score 165 = .ok (.lstore 10, 2) := by decide +kernel
theorem dX9_score_167 : decode cX9_score 167 = .ok (.lload 4, 2) := by decide +kernel
theorem dX9_score_169 : decode cX9_score 169 = .ok (.lconst 0, 1) := by decide +kernel
theorem dX9_score_170 : decode cX9_score 170 = .ok (.lcmp, 1) := by decide +kernel
theorem dX9_score_171 : decode cX9_score 171 = .ok (.ifCond .ne 13, 3) := by decide +kernel
theorem dX9_score_174 : decode cX9_score 174 = .ok (.iload_n 3, 1) := by decide +kernel
theorem dX9_score_175 : decode cX9_score 175 = .ok (.ifCond .ne 7, 3) := by decide +kernel
theorem dX9_score_178 : decode cX9_score 178 = .ok (.lconst 0, 1) := by decide +kernel
theorem dX9_score_179 : decode cX9_score 179 = .ok (.goto 4, 3) := by decide +kernel
theorem dX9_score_182 : decode cX9_score 182 = .ok (.lconst 1, 1) := by decide +kernel
theorem dX9_score_183 : decode cX9_score 183 = .ok (.lreturn, 1) := by decide +kernel
theorem dX9_score_184 : decode cX9_score 184 = .ok (.lload 4, 2) := by decide +kernel
theorem dX9_score_186 : decode cX9_score 186 = .ok (.lload 10, 2) := by decide +kernel
theorem dX9_score_188 : decode cX9_score 188 = .ok (.invokestatic 171, 3) := by decide +kernel
theorem dX9_score_191 : decode cX9_score 191 = .ok (.lstore 12, 2) := by decide +kernel
theorem dX9_score_193 : decode cX9_score 193 = .ok (.iload_n 3, 1) := by decide +kernel
theorem dX9_score_194 : decode cX9_score 194 = .ok (.ifCond .ne 11, 3) := by decide +kernel
theorem dX9_score_197 : decode cX9_score 197 = .ok (.lload 4, 2) := by decide +kernel
theorem dX9_score_199 : decode cX9_score 199 = .ok (.lload 12, 2) := by decide +kernel
theorem dX9_score_201 : decode cX9_score 201 = .ok (.ldiv, 1) := by decide +kernel
theorem dX9_score_202 : decode cX9_score 202 = .ok (.goto 8, 3) := by decide +kernel
theorem dX9_score_205 : decode cX9_score 205 = .ok (.lload 10, 2) := by decide +kernel
theorem dX9_score_207 : decode cX9_score 207 = .ok (.lload 12, 2) := by decide +kernel
theorem dX9_score_209 : decode cX9_score 209 = .ok (.ldiv, 1) := by decide +kernel
theorem dX9_score_210 : decode cX9_score 210 = .ok (.lreturn, 1) := by decide +kernel
theorem dX9_merge_0 : decode cX9_merge 0 = .ok (.aload_n 0, 1) := by decide +kernel
theorem dX9_merge_1 : decode cX9_merge 1 = .ok (.iconst 0, 1) := by decide +kernel
theorem dX9_merge_2 : decode cX9_merge 2 = .ok (.putfield 64, 3) := by decide +kernel
theorem dX9_merge_5 : decode cX9_merge 5 = .ok (.aload_n 0, 1) := by decide +kernel
theorem dX9_merge_6 : decode cX9_merge 6 = .ok (.iload_n 1, 1) := by decide +kernel
theorem dX9_merge_7 : decode cX9_merge 7 = .ok (.invokevirtual 75, 3) := by decide +kernel
theorem dX9_merge_10 : decode cX9_merge 10 = .ok (.ifCond .eq 34, 3) := by decide +kernel
theorem dX9_merge_13 : decode cX9_merge 13 = .ok (.aload_n 0, 1) := by decide +kernel
theorem dX9_merge_14 : decode cX9_merge 14 = .ok (.iload_n 2, 1) := by decide +kernel
theorem dX9_merge_15 : decode cX9_merge 15 = .ok (.invokevirtual 75, 3) := by decide +kernel
theorem dX9_merge_18 : decode cX9_merge 18 = .ok (.ifCond .eq 26, 3) := by decide +kernel
theorem dX9_merge_21 : decode cX9_merge 21 = .ok (.iload_n 1, 1) := by decide +kernel
theorem dX9_merge_22 : decode cX9_merge 22 = .ok (.iload_n 2, 1) := by decide +kernel
theorem dX9_merge_23 : decode cX9_merge 23 = .ok (.if_icmp .eq 21, 3) := by decide +kernel
theorem dX9_merge_26 : decode cX9_merge 26 = .ok (.aload_n 0, 1) := by decide +kernel
theorem dX9_merge_27 : decode cX9_merge 27 = .ok (.getfield 13, 3) := by decide +kernel
theorem dX9_merge_30 : decode cX9_merge 30 = .ok (.iload_n 1, 1) := by decide +kernel
theorem dX9_merge_31 : decode cX9_merge 31 = .ok (.baload, 1) := by decide +kernel
theorem dX9_merge_32 : decode cX9_merge 32 = .ok (.ifCond .eq 14, 3) := by decide +kernel
theorem dX9_merge_35 : decode cX9_merge 35 = .ok (.aload_n 0, 1) := by decide +kernel
theorem dX9_merge_36 : decode cX9_merge 36 = .ok (.getfield 13, 3) := by decide +kernel
theorem dX9_merge_39 : decode cX9_merge 39 = .ok (.iload_n 2, 1) := by decide +kernel
theorem dX9_merge_40 : decode cX9_merge 40 = .ok (.baload, 1) := by decide +kernel
theorem dX9_merge_41 : decode cX9_merge 41 = .ok (.ifCond .eq 5, 3) := by decide +kernel
theorem dX9_merge_44 : decode cX9_merge 44 = .ok (.iconst 0, 1) := by decide +kernel
theorem dX9_merge_45 : decode cX9_merge 45 = .ok (.ireturn, 1) := by decide +kernel
theorem dX9_merge_46 : decode cX9_merge 46 = .ok (.aload_n 0, 1) := by decide +kernel
theorem dX9_merge_47 : decode cX9_merge 47 = .ok (.getfield 7, 3) := by decide +kernel
theorem dX9_merge_50 : decode cX9_merge 50 = .ok (.iload_n 1, 1) := by decide +kernel
theorem dX9_merge_51 : decode cX9_merge 51 = .ok (.iaload, 1) := by decide +kernel
theorem dX9_merge_52 : decode cX9_merge 52 = .ok (.aload_n 0, 1) := by decide +kernel
theorem dX9_merge_53 : decode cX9_merge 53 = .ok (.getfield 7, 3) := by decide +kernel
theorem dX9_merge_56 : decode cX9_merge 56 = .ok (.iload_n 2, 1) := by decide +kernel
theorem dX9_merge_57 : decode cX9_merge 57 = .ok (.iaload, 1) := by decide +kernel
theorem dX9_merge_58 : decode cX9_merge 58 = .ok (.if_icmp .gt 23, 3) := by decide +kernel
theorem dX9_merge_61 : decode cX9_merge 61 = .ok (.aload_n 0, 1) := by decide +kernel
theorem dX9_merge_62 : decode cX9_merge 62 = .ok (.getfield 7, 3) := by decide +kernel
theorem dX9_merge_65 : decode cX9_merge 65 = .ok (.iload_n 1, 1) := by decide +kernel
theorem dX9_merge_66 : decode cX9_merge 66 = .ok (.iaload, 1) := by decide +kernel
theorem dX9_merge_67 : decode cX9_merge 67 = .ok (.aload_n 0, 1) := by decide +kernel
theorem dX9_merge_68 : decode cX9_merge 68 = .ok (.getfield 7, 3) := by decide +kernel
theorem dX9_merge_71 : decode cX9_merge 71 = .ok (.iload_n 2, 1) := by decide +kernel
theorem dX9_merge_72 : decode cX9_merge 72 = .ok (.iaload, 1) := by decide +kernel
theorem dX9_merge_73 : decode cX9_merge 73 = .ok (.if_icmp .ne 12, 3) := by decide +kernel
theorem dX9_merge_76 : decode cX9_merge 76 = .ok (.iload_n 1, 1) := by decide +kernel
theorem dX9_merge_77 : decode cX9_merge 77 = .ok (.iload_n 2, 1) := by decide +kernel
theorem dX9_merge_78 : decode cX9_merge 78 = .ok (.if_icmp .ge 7, 3) := by decide +kernel
theorem dX9_merge_81 : decode cX9_merge 81 = .ok (.iconst 1, 1) := by decide +kernel
theorem dX9_merge_82 : decode cX9_merge 82 = .ok (.goto 4, 3) := by decide +kernel
theorem dX9_merge_85 : decode cX9_merge 85 = .ok (.iconst 0, 1) := by decide +kernel
theorem dX9_merge_86 : decode cX9_merge 86 = .ok (.istore_n 3, 1) := by decide +kernel
theorem dX9_merge_87 : decode cX9_merge 87 = .ok (.iload_n 3, 1) := by decide +kernel
theorem dX9_merge_88 : decode cX9_merge 88 = .ok (.ifCond .eq 7, 3) := by decide +kernel
theorem dX9_merge_91 : decode cX9_merge 91 = .ok (.iload_n 1, 1) := by decide +kernel
theorem dX9_merge_92 : decode cX9_merge 92 = .ok (.goto 4, 3) := by decide +kernel
theorem dX9_merge_95 : decode cX9_merge 95 = .ok (.iload_n 2, 1) := by decide +kernel
theorem dX9_merge_96 : decode cX9_merge 96 = .ok (.istore 4, 2) := by decide +kernel
theorem dX9_merge_98 : decode cX9_merge 98 = .ok (.iload_n 3, 1) := by decide +kernel
theorem dX9_merge_99 : decode cX9_merge 99 = .ok (.ifCond .eq 7, 3) := by decide +kernel
theorem dX9_merge_102 : decode cX9_merge 102 = .ok (.iload_n 2, 1) := by decide +kernel
theorem dX9_merge_103 : decode cX9_merge 103 = .ok (.goto 4, 3) := by decide +kernel
theorem dX9_merge_106 : decode cX9_merge 106 = .ok (.iload_n 1, 1) := by decide +kernel
theorem dX9_merge_107 : decode cX9_merge 107 = .ok (.istore 5, 2) := by decide +kernel
theorem dX9_merge_109 : decode cX9_merge 109 = .ok (.aload_n 0, 1) := by decide +kernel
theorem dX9_merge_110 : decode cX9_merge 110 = .ok (.dup, 1) := by decide +kernel
theorem dX9_merge_111 : decode cX9_merge 111 = .ok (.getfield 175, 3) := by decide +kernel
theorem dX9_merge_114 : decode cX9_merge 114 = .ok (.iconst 1, 1) := by decide +kernel
theorem dX9_merge_115 : decode cX9_merge 115 = .ok (.iadd, 1) := by decide +kernel
theorem dX9_merge_116 : decode cX9_merge 116 = .ok (.putfield 175, 3) := by decide +kernel
theorem dX9_merge_119 : decode cX9_merge 119 = .ok (.aload_n 0, 1) := by decide +kernel
theorem dX9_merge_120 : decode cX9_merge 120 = .ok (.getfield 17, 3) := by decide +kernel
theorem dX9_merge_123 : decode cX9_merge 123 = .ok (.iload 5, 2) := by decide +kernel
theorem dX9_merge_125 : decode cX9_merge 125 = .ok (.iload 4, 2) := by decide +kernel
theorem dX9_merge_127 : decode cX9_merge 127 = .ok (.iastore, 1) := by decide +kernel
theorem dX9_merge_128 : decode cX9_merge 128 = .ok (.aload_n 0, 1) := by decide +kernel
theorem dX9_merge_129 : decode cX9_merge 129 = .ok (.getfield 20, 3) := by decide +kernel
theorem dX9_merge_132 : decode cX9_merge 132 = .ok (.iload 5, 2) := by decide +kernel
theorem dX9_merge_134 : decode cX9_merge 134 = .ok (.aload_n 0, 1) := by decide +kernel
theorem dX9_merge_135 : decode cX9_merge 135 = .ok (.getfield 175, 3) := by decide +kernel
theorem dX9_merge_138 : decode cX9_merge 138 = .ok (.iastore, 1) := by decide +kernel
theorem dX9_merge_139 : decode cX9_merge 139 = .ok (.iload 4, 2) := by decide +kernel
theorem dX9_merge_141 : decode cX9_merge 141 = .ok (.ireturn, 1) := by decide +kernel
theorem dX9_undo_0 : decode cX9_undo 0 = .ok (.aload_n 0, 1) := by decide +kernel
theorem dX9_undo_1 : decode cX9_undo 1 = .ok (.iconst 0, 1) := by decide +kernel
theorem dX9_undo_2 : decode cX9_undo 2 = .ok (.putfield 64, 3) := by decide +kernel
theorem dX9_undo_5 : decode cX9_undo 5 = .ok (.aload_n 0, 1) := by decide +kernel
theorem dX9_undo_6 : decode cX9_undo 6 = .ok (.iload_n 1, 1) := by decide +kernel
theorem dX9_undo_7 : decode cX9_undo 7 = .ok (.invokevirtual 75, 3) := by decide +kernel
theorem dX9_undo_10 : decode cX9_undo 10 = .ok (.ifCond .ne 5, 3) := by decide +kernel
theorem dX9_undo_13 : decode cX9_undo 13 = .ok (.iconst 0, 1) := by decide +kernel
theorem dX9_undo_14 : decode cX9_undo 14 = .ok (.ireturn, 1) := by decide +kernel
theorem dX9_undo_15 : decode cX9_undo 15 = .ok (.iconst 0, 1) := by decide +kernel
theorem dX9_undo_16 : decode cX9_undo 16 = .ok (.istore_n 2, 1) := by decide +kernel
theorem dX9_undo_17 : decode cX9_undo 17 = .ok (.iconst 1, 1) := by decide +kernel
theorem dX9_undo_18 : decode cX9_undo 18 = .ok (.istore_n 3, 1) := by decide +kernel
theorem dX9_undo_19 : decode cX9_undo 19 = .ok (.iload_n 3, 1) := by decide +kernel
theorem dX9_undo_20 : decode cX9_undo 20 = .ok (.aload_n 0, 1) := by decide +kernel
theorem dX9_undo_21 : decode cX9_undo 21 = .ok (.getfield 68, 3) := by decide +kernel
theorem dX9_undo_24 : decode cX9_undo 24 = .ok (.if_icmp .gt 44, 3) := by decide +kernel
theorem dX9_undo_27 : decode cX9_undo 27 = .ok (.aload_n 0, 1) := by decide +kernel
theorem dX9_undo_28 : decode cX9_undo 28 = .ok (.getfield 17, 3) := by decide +kernel
theorem dX9_undo_31 : decode cX9_undo 31 = .ok (.iload_n 3, 1) := by decide +kernel
theorem dX9_undo_32 : decode cX9_undo 32 = .ok (.iaload, 1) := by decide +kernel
theorem dX9_undo_33 : decode cX9_undo 33 = .ok (.iload_n 1, 1) := by decide +kernel
theorem dX9_undo_34 : decode cX9_undo 34 = .ok (.if_icmp .ne 26, 3) := by decide +kernel
theorem dX9_undo_37 : decode cX9_undo 37 = .ok (.iload_n 2, 1) := by decide +kernel
theorem dX9_undo_38 : decode cX9_undo 38 = .ok (.ifCond .eq 18, 3) := by decide +kernel
theorem dX9_undo_41 : decode cX9_undo 41 = .ok (.aload_n 0, 1) := by decide +kernel
theorem dX9_undo_42 : decode cX9_undo 42 = .ok (.getfield 20, 3) := by decide +kernel
theorem dX9_undo_45 : decode cX9_undo 45 = .ok (.iload_n 3, 1) := by decide +kernel
theorem dX9_undo_46 : decode cX9_undo 46 = .ok (.iaload, 1) := by decide +kernel
theorem dX9_undo_47 : decode cX9_undo 47 = .ok (.aload_n 0, 1) := by decide +kernel
theorem dX9_undo_48 : decode cX9_undo 48 = .ok (.getfield 20, 3) := by decide +kernel
theorem dX9_undo_51 : decode cX9_undo 51 = .ok (.iload_n 2, 1) := by decide +kernel
theorem dX9_undo_52 : decode cX9_undo 52 = .ok (.iaload, 1) := by decide +kernel
theorem dX9_undo_53 : decode cX9_undo 53 = .ok (.if_icmp .le 7, 3) := by decide +kernel
theorem dX9_undo_56 : decode cX9_undo 56 = .ok (.iload_n 3, 1) := by decide +kernel
theorem dX9_undo_57 : decode cX9_undo 57 = .ok (.goto 4, 3) := by decide +kernel
theorem dX9_undo_60 : decode cX9_undo 60 = .ok (.iload_n 2, 1) := by decide +kernel
theorem dX9_undo_61 : decode cX9_undo 61 = .ok (.istore_n 2, 1) := by decide +kernel
theorem dX9_undo_62 : decode cX9_undo 62 = .ok (.iinc 3 1, 3) := by decide +kernel
theorem dX9_undo_65 : decode cX9_undo 65 = .ok (.goto (-46), 3) := by decide +kernel
theorem dX9_undo_68 : decode cX9_undo 68 = .ok (.iload_n 2, 1) := by decide +kernel
theorem dX9_undo_69 : decode cX9_undo 69 = .ok (.ifCond .ne 5, 3) := by decide +kernel
theorem dX9_undo_72 : decode cX9_undo 72 = .ok (.iconst 0, 1) := by decide +kernel
theorem dX9_undo_73 : decode cX9_undo 73 = .ok (.ireturn, 1) := by decide +kernel
theorem dX9_undo_74 : decode cX9_undo 74 = .ok (.aload_n 0, 1) := by decide +kernel
theorem dX9_undo_75 : decode cX9_undo 75 = .ok (.getfield 17, 3) := by decide +kernel
theorem dX9_undo_78 : decode cX9_undo 78 = .ok (.iload_n 2, 1) := by decide +kernel
theorem dX9_undo_79 : decode cX9_undo 79 = .ok (.iconst 0, 1) := by decide +kernel
theorem dX9_undo_80 : decode cX9_undo 80 = .ok (.iastore, 1) := by decide +kernel
theorem dX9_undo_81 : decode cX9_undo 81 = .ok (.iconst 1, 1) := by decide +kernel
theorem dX9_undo_82 : decode cX9_undo 82 = .ok (.ireturn, 1) := by decide +kernel
theorem dX9_locked_0 : decode cX9_locked 0 = .ok (.aload_n 0, 1) := by decide +kernel
theorem dX9_locked_1 : decode cX9_locked 1 = .ok (.iconst 0, 1) := by decide +kernel
theorem dX9_locked_2 : decode cX9_locked 2 = .ok (.putfield 64, 3) := by decide +kernel
theorem dX9_locked_5 : decode cX9_locked 5 = .ok (.aload_n 0, 1) := by decide +kernel
theorem dX9_locked_6 : decode cX9_locked 6 = .ok (.iload_n 1, 1) := by decide +kernel
theorem dX9_locked_7 : decode cX9_locked 7 = .ok (.invokevirtual 71, 3) := by decide +kernel
theorem dX9_locked_10 : decode cX9_locked 10 = .ok (.ifCond .ne 5, 3) := by decide +kernel
theorem dX9_locked_13 : decode cX9_locked 13 = .ok (.iconst (-1), 1) := by decide +kernel
theorem dX9_locked_14 : decode cX9_locked 14 = .ok (.ireturn, 1) := by decide +kernel
theorem dX9_locked_15 : decode cX9_locked 15 = .ok (.aload_n 0, 1) := by decide +kernel
theorem dX9_locked_16 : decode cX9_locked 16 = .ok (.getfield 13, 3) := by decide +kernel
theorem dX9_locked_19 : decode cX9_locked 19 = .ok (.iload_n 1, 1) := by decide +kernel
theorem dX9_locked_20 : decode cX9_locked 20 = .ok (.baload, 1) := by decide +kernel
theorem dX9_locked_21 : decode cX9_locked 21 = .ok (.ifCond .eq 7, 3) := by decide +kernel
theorem dX9_locked_24 : decode cX9_locked 24 = .ok (.iconst 1, 1) := by decide +kernel
theorem dX9_locked_25 : decode cX9_locked 25 = .ok (.goto 4, 3) := by decide +kernel
theorem dX9_locked_28 : decode cX9_locked 28 = .ok (.iconst 0, 1) := by decide +kernel
theorem dX9_locked_29 : decode cX9_locked 29 = .ok (.istore_n 3, 1) := by decide +kernel
theorem dX9_locked_30 : decode cX9_locked 30 = .ok (.aload_n 0, 1) := by decide +kernel
theorem dX9_locked_31 : decode cX9_locked 31 = .ok (.getfield 13, 3) := by decide +kernel
theorem dX9_locked_34 : decode cX9_locked 34 = .ok (.iload_n 1, 1) := by decide +kernel
theorem dX9_locked_35 : decode cX9_locked 35 = .ok (.iload_n 2, 1) := by decide +kernel
theorem dX9_locked_36 : decode cX9_locked 36 = .ok (.bastore, 1) := by decide +kernel
theorem dX9_locked_37 : decode cX9_locked 37 = .ok (.iload_n 3, 1) := by decide +kernel
theorem dX9_locked_38 : decode cX9_locked 38 = .ok (.ireturn, 1) := by decide +kernel
theorem dX9_beats_0 : decode cX9_beats 0 = .ok (.aload_n 0, 1) := by decide +kernel
theorem dX9_beats_1 : decode cX9_beats 1 = .ok (.getfield 33, 3) := by decide +kernel
theorem dX9_beats_4 : decode cX9_beats 4 = .ok (.iload_n 1, 1) := by decide +kernel
theorem dX9_beats_5 : decode cX9_beats 5 = .ok (.iaload, 1) := by decide +kernel
theorem dX9_beats_6 : decode cX9_beats 6 = .ok (.aload_n 0, 1) := by decide +kernel
theorem dX9_beats_7 : decode cX9_beats 7 = .ok (.getfield 33, 3) := by decide +kernel
theorem dX9_beats_10 : decode cX9_beats 10 = .ok (.iload_n 2, 1) := by decide +kernel
theorem dX9_beats_11 : decode cX9_beats 11 = .ok (.iaload, 1) := by decide +kernel
theorem dX9_beats_12 : decode cX9_beats 12 = .ok (.if_icmp .eq 24, 3) := by decide +kernel
theorem dX9_beats_15 : decode cX9_beats 15 = .ok (.aload_n 0, 1) := by decide +kernel
theorem dX9_beats_16 : decode cX9_beats 16 = .ok (.getfield 33, 3) := by decide +kernel
theorem dX9_beats_19 : decode cX9_beats 19 = .ok (.iload_n 1, 1) := by decide +kernel
theorem dX9_beats_20 : decode cX9_beats 20 = .ok (.iaload, 1) := by decide +kernel
theorem dX9_beats_21 : decode cX9_beats 21 = .ok (.aload_n 0, 1) := by decide +kernel
theorem dX9_beats_22 : decode cX9_beats 22 = .ok (.getfield 33, 3) := by decide +kernel
theorem dX9_beats_25 : decode cX9_beats 25 = .ok (.iload_n 2, 1) := by decide +kernel
theorem dX9_beats_26 : decode cX9_beats 26 = .ok (.iaload, 1) := by decide +kernel
theorem dX9_beats_27 : decode cX9_beats 27 = .ok (.if_icmp .le 7, 3) := by decide +kernel
theorem dX9_beats_30 : decode cX9_beats 30 = .ok (.iconst 1, 1) := by decide +kernel
theorem dX9_beats_31 : decode cX9_beats 31 = .ok (.goto 4, 3) := by decide +kernel
theorem dX9_beats_34 : decode cX9_beats 34 = .ok (.iconst 0, 1) := by decide +kernel
theorem dX9_beats_35 : decode cX9_beats 35 = .ok (.ireturn, 1) := by decide +kernel
theorem dX9_beats_36 : decode cX9_beats 36 = .ok (.aload_n 0, 1) := by decide +kernel
theorem dX9_beats_37 : decode cX9_beats 37 = .ok (.getfield 7, 3) := by decide +kernel
theorem dX9_beats_40 : decode cX9_beats 40 = .ok (.aload_n 0, 1) := by decide +kernel
theorem dX9_beats_41 : decode cX9_beats 41 = .ok (.getfield 23, 3) := by decide +kernel
theorem dX9_beats_44 : decode cX9_beats 44 = .ok (.iload_n 1, 1) := by decide +kernel
theorem dX9_beats_45 : decode cX9_beats 45 = .ok (.iaload, 1) := by decide +kernel
theorem dX9_beats_46 : decode cX9_beats 46 = .ok (.iaload, 1) := by decide +kernel
theorem dX9_beats_47 : decode cX9_beats 47 = .ok (.istore_n 3, 1) := by decide +kernel
theorem dX9_beats_48 : decode cX9_beats 48 = .ok (.aload_n 0, 1) := by decide +kernel
theorem dX9_beats_49 : decode cX9_beats 49 = .ok (.getfield 7, 3) := by decide +kernel
theorem dX9_beats_52 : decode cX9_beats 52 = .ok (.aload_n 0, 1) := by decide +kernel
theorem dX9_beats_53 : decode cX9_beats 53 = .ok (.getfield 23, 3) := by decide +kernel
theorem dX9_beats_56 : decode cX9_beats 56 = .ok (.iload_n 2, 1) := by decide +kernel
theorem dX9_beats_57 : decode cX9_beats 57 = .ok (.iaload, 1) := by decide +kernel
theorem dX9_beats_58 : decode cX9_beats 58 = .ok (.iaload, 1) := by decide +kernel
theorem dX9_beats_59 : decode cX9_beats 59 = .ok (.istore 4, 2) := by decide +kernel
theorem dX9_beats_61 : decode cX9_beats 61 = .ok (.iload_n 3, 1) := by decide +kernel
theorem dX9_beats_62 : decode cX9_beats 62 = .ok (.iload 4, 2) := by decide +kernel
theorem dX9_beats_64 : decode cX9_beats 64 = .ok (.if_icmp .gt 14, 3) := by decide +kernel
theorem dX9_beats_67 : decode cX9_beats 67 = .ok (.iload_n 3, 1) := by decide +kernel
theorem dX9_beats_68 : decode cX9_beats 68 = .ok (.iload 4, 2) := by decide +kernel
theorem dX9_beats_70 : decode cX9_beats 70 = .ok (.if_icmp .ne 12, 3) := by decide +kernel
theorem dX9_beats_73 : decode cX9_beats 73 = .ok (.iload_n 1, 1) := by decide +kernel
theorem dX9_beats_74 : decode cX9_beats 74 = .ok (.iload_n 2, 1) := by decide +kernel
theorem dX9_beats_75 : decode cX9_beats 75 = .ok (.if_icmp .ge 7, 3) := by decide +kernel
theorem dX9_beats_78 : decode cX9_beats 78 = .ok (.iconst 1, 1) := by decide +kernel
theorem dX9_beats_79 : decode cX9_beats 79 = .ok (.goto 4, 3) := by decide +kernel
theorem dX9_beats_82 : decode cX9_beats 82 = .ok (.iconst 0, 1) := by decide +kernel
theorem dX9_beats_83 : decode cX9_beats 83 = .ok (.ireturn, 1) := by decide +kernel
theorem dX9_winner_0 : decode cX9_winner 0 = .ok (.aload_n 0, 1) := by decide +kernel
theorem dX9_winner_1 : decode cX9_winner 1 = .ok (.iconst 0, 1) := by decide +kernel
theorem dX9_winner_2 : decode cX9_winner 2 = .ok (.putfield 64, 3) := by decide +kernel
theorem dX9_winner_5 : decode cX9_winner 5 = .ok (.aload_n 0, 1) := by decide +kernel
theorem dX9_winner_6 : decode cX9_winner 6 = .ok (.iload_n 1, 1) := by decide +kernel
theorem dX9_winner_7 : decode cX9_winner 7 = .ok (.invokevirtual 75, 3) := by decide +kernel
theorem dX9_winner_10 : decode cX9_winner 10 = .ok (.ifCond .eq 25, 3) := by decide +kernel
theorem dX9_winner_13 : decode cX9_winner 13 = .ok (.iload_n 2, 1) := by decide +kernel
theorem dX9_winner_14 : decode cX9_winner 14 = .ok (.iconst 1, 1) := by decide +kernel
theorem dX9_winner_15 : decode cX9_winner 15 = .ok (.if_icmp .lt 20, 3) := by decide +kernel
theorem dX9_winner_18 : decode cX9_winner 18 = .ok (.iload_n 2, 1) := by decide +kernel
theorem dX9_winner_19 : decode cX9_winner 19 = .ok (.aload_n 0, 1) := by decide +kernel
theorem dX9_winner_20 : decode cX9_winner 20 = .ok (.getfield 78, 3) := by decide +kernel
theorem dX9_winner_23 : decode cX9_winner 23 = .ok (.if_icmp .gt 12, 3) := by decide +kernel
theorem dX9_winner_26 : decode cX9_winner 26 = .ok (.aload_n 0, 1) := by decide +kernel
theorem dX9_winner_27 : decode cX9_winner 27 = .ok (.iload_n 2, 1) := by decide +kernel
theorem dX9_winner_28 : decode cX9_winner 28 = .ok (.iload_n 1, 1) := by decide +kernel
theorem dX9_winner_29 : decode cX9_winner 29 = .ok (.invokevirtual 104, 3) := by decide +kernel
theorem dX9_winner_32 : decode cX9_winner 32 = .ok (.ifCond .ne 5, 3) := by decide +kernel
theorem dX9_winner_35 : decode cX9_winner 35 = .ok (.iconst 0, 1) := by decide +kernel
theorem dX9_winner_36 : decode cX9_winner 36 = .ok (.ireturn, 1) := by decide +kernel
theorem dX9_winner_37 : decode cX9_winner 37 = .ok (.iload_n 2, 1) := by decide +kernel
theorem dX9_winner_38 : decode cX9_winner 38 = .ok (.istore_n 3, 1) := by decide +kernel
theorem dX9_winner_39 : decode cX9_winner 39 = .ok (.iconst 1, 1) := by decide +kernel
theorem dX9_winner_40 : decode cX9_winner 40 = .ok (.istore 4, 2) := by decide +kernel
theorem dX9_winner_42 : decode cX9_winner 42 = .ok (.iload 4, 2) := by decide +kernel
theorem dX9_winner_44 : decode cX9_winner 44 = .ok (.aload_n 0, 1) := by decide +kernel
theorem dX9_winner_45 : decode cX9_winner 45 = .ok (.getfield 78, 3) := by decide +kernel
theorem dX9_winner_48 : decode cX9_winner 48 = .ok (.if_icmp .gt 52, 3) := by decide +kernel
theorem dX9_winner_51 : decode cX9_winner 51 = .ok (.aload_n 0, 1) := by decide +kernel
theorem dX9_winner_52 : decode cX9_winner 52 = .ok (.iload 4, 2) := by decide +kernel
theorem dX9_winner_54 : decode cX9_winner 54 = .ok (.iload_n 1, 1) := by decide +kernel
theorem dX9_winner_55 : decode cX9_winner 55 = .ok (.invokevirtual 104, 3) := by decide +kernel
theorem dX9_winner_58 : decode cX9_winner 58 = .ok (.ifCond .eq 34, 3) := by decide +kernel
theorem dX9_winner_61 : decode cX9_winner 61 = .ok (.aload_n 0, 1) := by decide +kernel
theorem dX9_winner_62 : decode cX9_winner 62 = .ok (.getfield 26, 3) := by decide +kernel
theorem dX9_winner_65 : decode cX9_winner 65 = .ok (.iload 4, 2) := by decide +kernel
theorem dX9_winner_67 : decode cX9_winner 67 = .ok (.iaload, 1) := by decide +kernel
theorem dX9_winner_68 : decode cX9_winner 68 = .ok (.aload_n 0, 1) := by decide +kernel
theorem dX9_winner_69 : decode cX9_winner 69 = .ok (.getfield 26, 3) := by decide +kernel
theorem dX9_winner_72 : decode cX9_winner 72 = .ok (.iload_n 2, 1) := by decide +kernel
theorem dX9_winner_73 : decode cX9_winner 73 = .ok (.iaload, 1) := by decide +kernel
theorem dX9_winner_74 : decode cX9_winner 74 = .ok (.if_icmp .ne 18, 3) := by decide +kernel
theorem dX9_winner_77 : decode cX9_winner 77 = .ok (.aload_n 0, 1) := by decide +kernel
theorem dX9_winner_78 : decode cX9_winner 78 = .ok (.iload 4, 2) := by decide +kernel
theorem dX9_winner_80 : decode cX9_winner 80 = .ok (.iload_n 3, 1) := by decide +kernel
theorem dX9_winner_81 : decode cX9_winner 81 = .ok (.invokevirtual 178, 3) := by decide +kernel
theorem dX9_winner_84 : decode cX9_winner 84 = .ok (.ifCond .eq 8, 3) := by decide +kernel
theorem dX9_winner_87 : decode cX9_winner 87 = .ok (.iload 4, 2) := by decide +kernel
theorem dX9_winner_89 : decode cX9_winner 89 = .ok (.goto 4, 3) := by decide +kernel
theorem dX9_winner_92 : decode cX9_winner 92 = .ok (.iload_n 3, 1) := by decide +kernel
theorem dX9_winner_93 : decode cX9_winner 93 = .ok (.istore_n 3, 1) := by decide +kernel
theorem dX9_winner_94 : decode cX9_winner 94 = .ok (.iinc 4 1, 3) := by decide +kernel
theorem dX9_winner_97 : decode cX9_winner 97 = .ok (.goto (-55), 3) := by decide +kernel
theorem dX9_winner_100 : decode cX9_winner 100 = .ok (.iload_n 3, 1) := by decide +kernel
theorem dX9_winner_101 : decode cX9_winner 101 = .ok (.ireturn, 1) := by decide +kernel
