theorem d_M_init_14 : decode c_M_init 14 = .ok (.sipush 301, 3) := by decide +kernel
theorem d_M_init_17 : decode c_M_init 17 = .ok (.newarray .long, 2) := by decide +kernel
theorem d_M_init_19 : decode c_M_init 19 = .ok (.putfield 13, 3) := by decide +kernel
theorem d_M_init_22 : decode c_M_init 22 = .ok (.aload_n 0, 1) := by decide +kernel
theorem d_M_init_23 : decode c_M_init 23 = .ok (.sipush 301, 3) := by decide +kernel
theorem d_M_init_26 : decode c_M_init 26 = .ok (.newarray .long, 2) := by decide +kernel
theorem d_M_init_28 : decode c_M_init 28 = .ok (.putfield 17, 3) := by decide +kernel
theorem d_M_init_31 : decode c_M_init 31 = .ok (.aload_n 0, 1) := by decide +kernel
theorem d_M_init_32 : decode c_M_init 32 = .ok (.sipush 301, 3) := by decide +kernel
theorem d_M_init_35 : decode c_M_init 35 = .ok (.newarray .int, 2) := by decide +kernel
theorem d_M_init_37 : decode c_M_init 37 = .ok (.putfield 20, 3) := by decide +kernel
theorem d_M_init_40 : decode c_M_init 40 = .ok (.aload_n 0, 1) := by decide +kernel
theorem d_M_init_41 : decode c_M_init 41 = .ok (.sipush 301, 3) := by decide +kernel
theorem d_M_init_44 : decode c_M_init 44 = .ok (.newarray .int, 2) := by decide +kernel
theorem d_M_init_46 : decode c_M_init 46 = .ok (.putfield 23, 3) := by decide +kernel
theorem d_M_init_49 : decode c_M_init 49 = .ok (.aload_n 0, 1) := by decide +kernel
theorem d_M_init_50 : decode c_M_init 50 = .ok (.sipush 301, 3) := by decide +kernel
theorem d_M_init_53 : decode c_M_init 53 = .ok (.newarray .int, 2) := by decide +kernel
theorem d_M_init_55 : decode c_M_init 55 = .ok (.putfield 26, 3) := by decide +kernel
theorem d_M_init_58 : decode c_M_init 58 = .ok (.aload_n 0, 1) := by decide +kernel
theorem d_M_init_59 : decode c_M_init 59 = .ok (.sipush 301, 3) := by decide +kernel
theorem d_M_init_62 : decode c_M_init 62 = .ok (.newarray .int, 2) := by decide +kernel
theorem d_M_init_64 : decode c_M_init 64 = .ok (.putfield 29, 3) := by decide +kernel
theorem d_M_init_67 : decode c_M_init 67 = .ok (.aload_n 0, 1) := by decide +kernel
theorem d_M_init_68 : decode c_M_init 68 = .ok (.sipush 301, 3) := by decide +kernel
theorem d_M_init_71 : decode c_M_init 71 = .ok (.newarray .int, 2) := by decide +kernel
theorem d_M_init_73 : decode c_M_init 73 = .ok (.putfield 32, 3) := by decide +kernel
theorem d_M_init_76 : decode c_M_init 76 = .ok (.aload_n 0, 1) := by decide +kernel
theorem d_M_init_77 : decode c_M_init 77 = .ok (.sipush 301, 3) := by decide +kernel
theorem d_M_init_80 : decode c_M_init 80 = .ok (.newarray .long, 2) := by decide +kernel
theorem d_M_init_82 : decode c_M_init 82 = .ok (.putfield 35, 3) := by decide +kernel
theorem d_M_init_85 : decode c_M_init 85 = .ok (.aload_n 0, 1) := by decide +kernel
theorem d_M_init_86 : decode c_M_init 86 = .ok (.sipush 301, 3) := by decide +kernel
theorem d_M_init_89 : decode c_M_init 89 = .ok (.newarray .boolean, 2) := by decide +kernel
theorem d_M_init_91 : decode c_M_init 91 = .ok (.putfield 38, 3) := by decide +kernel
theorem d_M_init_94 : decode c_M_init 94 = .ok (.aload_n 0, 1) := by decide +kernel
theorem d_M_init_95 : decode c_M_init 95 = .ok (.iconst 4, 1) := by decide +kernel
theorem d_M_init_96 : decode c_M_init 96 = .ok (.newarray .long, 2) := by decide +kernel
theorem d_M_init_98 : decode c_M_init 98 = .ok (.dup, 1) := by decide +kernel
theorem d_M_init_99 : decode c_M_init 99 = .ok (.iconst 0, 1) := by decide +kernel
theorem d_M_init_100 : decode c_M_init 100 = .ok (.ldc2_w 42, 3) := by decide +kernel
theorem d_M_init_103 : decode c_M_init 103 = .ok (.lastore, 1) := by decide +kernel
theorem d_M_init_104 : decode c_M_init 104 = .ok (.dup, 1) := by decide +kernel
theorem d_M_init_105 : decode c_M_init 105 = .ok (.iconst 1, 1) := by decide +kernel
theorem d_M_init_106 : decode c_M_init 106 = .ok (.ldc2_w 42, 3) := by decide +kernel
theorem d_M_init_109 : decode c_M_init 109 = .ok (.lastore, 1) := by decide +kernel
theorem d_M_init_110 : decode c_M_init 110 = .ok (.dup, 1) := by decide +kernel
theorem d_M_init_111 : decode c_M_init 111 = .ok (.iconst 2, 1) := by decide +kernel
theorem d_M_init_112 : decode c_M_init 112 = .ok (.ldc2_w 42, 3) := by decide +kernel
theorem d_M_init_115 : decode c_M_init 115 = .ok (.lastore, 1) := by decide +kernel
theorem d_M_init_116 : decode c_M_init 116 = .ok (.dup, 1) := by decide +kernel
theorem d_M_init_117 : decode c_M_init 117 = .ok (.iconst 3, 1) := by decide +kernel
theorem d_M_init_118 : decode c_M_init 118 = .ok (.ldc2_w 42, 3) := by decide +kernel
theorem d_M_init_121 : decode c_M_init 121 = .ok (.lastore, 1) := by decide +kernel
theorem d_M_init_122 : decode c_M_init 122 = .ok (.putfield 44, 3) := by decide +kernel
theorem d_M_init_125 : decode c_M_init 125 = .ok (.aload_n 0, 1) := by decide +kernel
theorem d_M_init_126 : decode c_M_init 126 = .ok (.bipush 8, 2) := by decide +kernel
theorem d_M_init_128 : decode c_M_init 128 = .ok (.newarray .long, 2) := by decide +kernel
theorem d_M_init_130 : decode c_M_init 130 = .ok (.putfield 47, 3) := by decide +kernel
theorem d_M_init_133 : decode c_M_init 133 = .ok (.aload_n 0, 1) := by decide +kernel
theorem d_M_init_134 : decode c_M_init 134 = .ok (.bipush 8, 2) := by decide +kernel
theorem d_M_init_136 : decode c_M_init 136 = .ok (.newarray .long, 2) := by decide +kernel
theorem d_M_init_138 : decode c_M_init 138 = .ok (.dup, 1) := by decide +kernel
theorem d_M_init_139 : decode c_M_init 139 = .ok (.iconst 0, 1) := by decide +kernel
theorem d_M_init_140 : decode c_M_init 140 = .ok (.ldc2_w 50, 3) := by decide +kernel
theorem d_M_init_143 : decode c_M_init 143 = .ok (.lastore, 1) := by decide +kernel
theorem d_M_init_144 : decode c_M_init 144 = .ok (.dup, 1) := by decide +kernel
theorem d_M_init_145 : decode c_M_init 145 = .ok (.iconst 1, 1) := by decide +kernel
theorem d_M_init_146 : decode c_M_init 146 = .ok (.ldc2_w 50, 3) := by decide +kernel
theorem d_M_init_149 : decode c_M_init 149 = .ok (.lastore, 1) := by decide +kernel
theorem d_M_init_150 : decode c_M_init 150 = .ok (.dup, 1) := by decide +kernel
theorem d_M_init_151 : decode c_M_init 151 = .ok (.iconst 2, 1) := by decide +kernel
theorem d_M_init_152 : decode c_M_init 152 = .ok (.ldc2_w 50, 3) := by decide +kernel
theorem d_M_init_155 : decode c_M_init 155 = .ok (.lastore, 1) := by decide +kernel
theorem d_M_init_156 : decode c_M_init 156 = .ok (.dup, 1) := by decide +kernel
theorem d_M_init_157 : decode c_M_init 157 = .ok (.iconst 3, 1) := by decide +kernel
theorem d_M_init_158 : decode c_M_init 158 = .ok (.ldc2_w 50, 3) := by decide +kernel
theorem d_M_init_161 : decode c_M_init 161 = .ok (.lastore, 1) := by decide +kernel
theorem d_M_init_162 : decode c_M_init 162 = .ok (.dup, 1) := by decide +kernel
theorem d_M_init_163 : decode c_M_init 163 = .ok (.iconst 4, 1) := by decide +kernel
theorem d_M_init_164 : decode c_M_init 164 = .ok (.ldc2_w 50, 3) := by decide +kernel
theorem d_M_init_167 : decode c_M_init 167 = .ok (.lastore, 1) := by decide +kernel
theorem d_M_init_168 : decode c_M_init 168 = .ok (.dup, 1) := by decide +kernel
theorem d_M_init_169 : decode c_M_init 169 = .ok (.iconst 5, 1) := by decide +kernel
theorem d_M_init_170 : decode c_M_init 170 = .ok (.ldc2_w 50, 3) := by decide +kernel
theorem d_M_init_173 : decode c_M_init 173 = .ok (.lastore, 1) := by decide +kernel
theorem d_M_init_174 : decode c_M_init 174 = .ok (.dup, 1) := by decide +kernel
theorem d_M_init_175 : decode c_M_init 175 = .ok (.bipush 6, 2) := by decide +kernel
theorem d_M_init_177 : decode c_M_init 177 = .ok (.ldc2_w 50, 3) := by decide +kernel
theorem d_M_init_180 : decode c_M_init 180 = .ok (.lastore, 1) := by decide +kernel
theorem d_M_init_181 : decode c_M_init 181 = .ok (.dup, 1) := by decide +kernel
theorem d_M_init_182 : decode c_M_init 182 = .ok (.bipush 7, 2) := by decide +kernel
theorem d_M_init_184 : decode c_M_init 184 = .ok (.ldc2_w 50, 3) := by decide +kernel
theorem d_M_init_187 : decode c_M_init 187 = .ok (.lastore, 1) := by decide +kernel
theorem d_M_init_188 : decode c_M_init 188 = .ok (.putfield 52, 3) := by decide +kernel
theorem d_M_init_191 : decode c_M_init 191 = .ok (.aload_n 0, 1) := by decide +kernel
theorem d_M_init_192 : decode c_M_init 192 = .ok (.bipush 8, 2) := by decide +kernel
theorem d_M_init_194 : decode c_M_init 194 = .ok (.newarray .boolean, 2) := by decide +kernel
theorem d_M_init_196 : decode c_M_init 196 = .ok (.putfield 55, 3) := by decide +kernel
theorem d_M_init_199 : decode c_M_init 199 = .ok (.aload_n 0, 1) := by decide +kernel
theorem d_M_init_200 : decode c_M_init 200 = .ok (.bipush 8, 2) := by decide +kernel
theorem d_M_init_202 : decode c_M_init 202 = .ok (.newarray .int, 2) := by decide +kernel
theorem d_M_init_204 : decode c_M_init 204 = .ok (.putfield 58, 3) := by decide +kernel
theorem d_M_init_207 : decode c_M_init 207 = .ok (.aload_n 0, 1) := by decide +kernel
theorem d_M_init_208 : decode c_M_init 208 = .ok (.bipush 8, 2) := by decide +kernel
theorem d_M_init_210 : decode c_M_init 210 = .ok (.newarray .long, 2) := by decide +kernel
theorem d_M_init_212 : decode c_M_init 212 = .ok (.dup, 1) := by decide +kernel
theorem d_M_init_213 : decode c_M_init 213 = .ok (.iconst 0, 1) := by decide +kernel
theorem d_M_init_214 : decode c_M_init 214 = .ok (.ldc2_w 50, 3) := by decide +kernel
theorem d_M_init_217 : decode c_M_init 217 = .ok (.lastore, 1) := by decide +kernel
theorem d_M_init_218 : decode c_M_init 218 = .ok (.dup, 1) := by decide +kernel
theorem d_M_init_219 : decode c_M_init 219 = .ok (.iconst 1, 1) := by decide +kernel
theorem d_M_init_220 : decode c_M_init 220 = .ok (.ldc2_w 50, 3) := by decide +kernel
theorem d_M_init_223 : decode c_M_init 223 = .ok (.lastore, 1) := by decide +kernel
theorem d_M_init_224 : decode c_M_init 224 = .ok (.dup, 1) := by decide +kernel
theorem d_M_init_225 : decode c_M_init 225 = .ok (.iconst 2, 1) := by decide +kernel
theorem d_M_init_226 : decode c_M_init 226 = .ok (.ldc2_w 50, 3) := by decide +kernel
theorem d_M_init_229 : decode c_M_init 229 = .ok (.lastore, 1) := by decide +kernel
theorem d_M_init_230 : decode c_M_init 230 = .ok (.dup, 1) := by decide +kernel
theorem d_M_init_231 : decode c_M_init 231 = .ok (.iconst 3, 1) := by decide +kernel
theorem d_M_init_232 : decode c_M_init 232 = .ok (.ldc2_w 50, 3) := by decide +kernel
theorem d_M_init_235 : decode c_M_init 235 = .ok (.lastore, 1) := by decide +kernel
theorem d_M_init_236 : decode c_M_init 236 = .ok (.dup, 1) := by decide +kernel
theorem d_M_init_237 : decode c_M_init 237 = .ok (.iconst 4, 1) := by decide +kernel
theorem d_M_init_238 : decode c_M_init 238 = .ok (.ldc2_w 50, 3) := by decide +kernel
theorem d_M_init_241 : decode c_M_init 241 = .ok (.lastore, 1) := by decide +kernel
theorem d_M_init_242 : decode c_M_init 242 = .ok (.dup, 1) := by decide +kernel
theorem d_M_init_243 : decode c_M_init 243 = .ok (.iconst 5, 1) := by decide +kernel
theorem d_M_init_244 : decode c_M_init 244 = .ok (.ldc2_w 50, 3) := by decide +kernel
theorem d_M_init_247 : decode c_M_init 247 = .ok (.lastore, 1) := by decide +kernel
theorem d_M_init_248 : decode c_M_init 248 = .ok (.dup, 1) := by decide +kernel
theorem d_M_init_249 : decode c_M_init 249 = .ok (.bipush 6, 2) := by decide +kernel
theorem d_M_init_251 : decode c_M_init 251 = .ok (.ldc2_w 50, 3) := by decide +kernel
theorem d_M_init_254 : decode c_M_init 254 = .ok (.lastore, 1) := by decide +kernel
theorem d_M_init_255 : decode c_M_init 255 = .ok (.dup, 1) := by decide +kernel
theorem d_M_init_256 : decode c_M_init 256 = .ok (.bipush 7, 2) := by decide +kernel
theorem d_M_init_258 : decode c_M_init 258 = .ok (.ldc2_w 50, 3) := by decide +kernel
theorem d_M_init_261 : decode c_M_init 261 = .ok (.lastore, 1) := by decide +kernel
theorem d_M_init_262 : decode c_M_init 262 = .ok (.putfield 61, 3) := by decide +kernel
theorem d_M_init_265 : decode c_M_init 265 = .ok (.aload_n 0, 1) := by decide +kernel
theorem d_M_init_266 : decode c_M_init 266 = .ok (.bipush 8, 2) := by decide +kernel
theorem d_M_init_268 : decode c_M_init 268 = .ok (.newarray .long, 2) := by decide +kernel
theorem d_M_init_270 : decode c_M_init 270 = .ok (.putfield 64, 3) := by decide +kernel
theorem d_M_init_273 : decode c_M_init 273 = .ok (.aload_n 0, 1) := by decide +kernel
theorem d_M_init_274 : decode c_M_init 274 = .ok (.bipush 8, 2) := by decide +kernel
theorem d_M_init_276 : decode c_M_init 276 = .ok (.newarray .int, 2) := by decide +kernel
theorem d_M_init_278 : decode c_M_init 278 = .ok (.putfield 67, 3) := by decide +kernel
theorem d_M_init_281 : decode c_M_init 281 = .ok (.aload_n 0, 1) := by decide +kernel
theorem d_M_init_282 : decode c_M_init 282 = .ok (.sipush 2400, 3) := by decide +kernel
theorem d_M_init_285 : decode c_M_init 285 = .ok (.newarray .int, 2) := by decide +kernel
theorem d_M_init_287 : decode c_M_init 287 = .ok (.putfield 70, 3) := by decide +kernel
theorem d_M_init_290 : decode c_M_init 290 = .ok (.aload_n 0, 1) := by decide +kernel
theorem d_M_init_291 : decode c_M_init 291 = .ok (.sipush 128, 3) := by decide +kernel
theorem d_M_init_294 : decode c_M_init 294 = .ok (.newarray .int, 2) := by decide +kernel
theorem d_M_init_296 : decode c_M_init 296 = .ok (.putfield 73, 3) := by decide +kernel
theorem d_M_init_299 : decode c_M_init 299 = .ok (.aload_n 0, 1) := by decide +kernel
theorem d_M_init_300 : decode c_M_init 300 = .ok (.sipush 128, 3) := by decide +kernel
theorem d_M_init_303 : decode c_M_init 303 = .ok (.newarray .long, 2) := by decide +kernel
theorem d_M_init_305 : decode c_M_init 305 = .ok (.putfield 76, 3) := by decide +kernel
theorem d_M_init_308 : decode c_M_init 308 = .ok (.aload_n 0, 1) := by decide +kernel
theorem d_M_init_309 : decode c_M_init 309 = .ok (.sipush 128, 3) := by decide +kernel
theorem d_M_init_312 : decode c_M_init 312 = .ok (.newarray .int, 2) := by decide +kernel
theorem d_M_init_314 : decode c_M_init 314 = .ok (.putfield 79, 3) := by decide +kernel
theorem d_M_init_317 : decode c_M_init 317 = .ok (.aload_n 0, 1) := by decide +kernel
theorem d_M_init_318 : decode c_M_init 318 = .ok (.sipush 128, 3) := by decide +kernel
theorem d_M_init_321 : decode c_M_init 321 = .ok (.newarray .long, 2) := by decide +kernel
theorem d_M_init_323 : decode c_M_init 323 = .ok (.putfield 82, 3) := by decide +kernel
theorem d_M_init_326 : decode c_M_init 326 = .ok (.aload_n 0, 1) := by decide +kernel
theorem d_M_init_327 : decode c_M_init 327 = .ok (.sipush 128, 3) := by decide +kernel
theorem d_M_init_330 : decode c_M_init 330 = .ok (.newarray .int, 2) := by decide +kernel
theorem d_M_init_332 : decode c_M_init 332 = .ok (.putfield 85, 3) := by decide +kernel
theorem d_M_init_335 : decode c_M_init 335 = .ok (.aload_n 0, 1) := by decide +kernel
theorem d_M_init_336 : decode c_M_init 336 = .ok (.bipush 100, 2) := by decide +kernel
theorem d_M_init_338 : decode c_M_init 338 = .ok (.newarray .int, 2) := by decide +kernel
theorem d_M_init_340 : decode c_M_init 340 = .ok (.putfield 88, 3) := by decide +kernel
theorem d_M_init_343 : decode c_M_init 343 = .ok (.aload_n 0, 1) := by decide +kernel
theorem d_M_init_344 : decode c_M_init 344 = .ok (.bipush 100, 2) := by decide +kernel
theorem d_M_init_346 : decode c_M_init 346 = .ok (.newarray .long, 2) := by decide +kernel
theorem d_M_init_348 : decode c_M_init 348 = .ok (.putfield 91, 3) := by decide +kernel
theorem d_M_init_351 : decode c_M_init 351 = .ok (.aload_n 0, 1) := by decide +kernel
theorem d_M_init_352 : decode c_M_init 352 = .ok (.bipush 100, 2) := by decide +kernel
theorem d_M_init_354 : decode c_M_init 354 = .ok (.newarray .int, 2) := by decide +kernel
theorem d_M_init_356 : decode c_M_init 356 = .ok (.putfield 94, 3) := by decide +kernel
theorem d_M_init_359 : decode c_M_init 359 = .ok (.aload_n 0, 1) := by decide +kernel
theorem d_M_init_360 : decode c_M_init 360 = .ok (.bipush 9, 2) := by decide +kernel
theorem d_M_init_362 : decode c_M_init 362 = .ok (.newarray .long, 2) := by decide +kernel
theorem d_M_init_364 : decode c_M_init 364 = .ok (.putfield 97, 3) := by decide +kernel
theorem d_M_init_367 : decode c_M_init 367 = .ok (.return_, 1) := by decide +kernel
theorem d_M_in_0 : decode c_M_in 0 = .ok (.lload_n 0, 1) := by decide +kernel
theorem d_M_in_1 : decode c_M_in 1 = .ok (.lload_n 2, 1) := by decide +kernel
theorem d_M_in_2 : decode c_M_in 2 = .ok (.lcmp, 1) := by decide +kernel
theorem d_M_in_3 : decode c_M_in 3 = .ok (.ifCond .lt 14, 3) := by decide +kernel
theorem d_M_in_6 : decode c_M_in 6 = .ok (.lload_n 0, 1) := by decide +kernel
theorem d_M_in_7 : decode c_M_in 7 = .ok (.lload 4, 2) := by decide +kernel
theorem d_M_in_9 : decode c_M_in 9 = .ok (.lcmp, 1) := by decide +kernel
theorem d_M_in_10 : decode c_M_in 10 = .ok (.ifCond .gt 7, 3) := by decide +kernel
theorem d_M_in_13 : decode c_M_in 13 = .ok (.iconst 1, 1) := by decide +kernel
theorem d_M_in_14 : decode c_M_in 14 = .ok (.goto 4, 3) := by decide +kernel
theorem d_M_in_17 : decode c_M_in 17 = .ok (.iconst 0, 1) := by decide +kernel
theorem d_M_in_18 : decode c_M_in 18 = .ok (.ireturn, 1) := by decide +kernel
theorem d_M_isOffice_0 : decode c_M_isOffice 0 = .ok (.iload_n 0, 1) := by decide +kernel
theorem d_M_isOffice_1 : decode c_M_isOffice 1 = .ok (.i2l, 1) := by decide +kernel
theorem d_M_isOffice_2 : decode c_M_isOffice 2 = .ok (.lconst 0, 1) := by decide +kernel
theorem d_M_isOffice_3 : decode c_M_isOffice 3 = .ok (.ldc2_w 100, 3) := by decide +kernel
theorem d_M_isOffice_6 : decode c_M_isOffice 6 = .ok (.invokestatic 102, 3) := by decide +kernel
theorem d_M_isOffice_9 : decode c_M_isOffice 9 = .ok (.ireturn, 1) := by decide +kernel
theorem d_M_numberOf_0 : decode c_M_numberOf 0 = .ok (.iconst 0, 1) := by decide +kernel
theorem d_M_numberOf_1 : decode c_M_numberOf 1 = .ok (.istore_n 1, 1) := by decide +kernel
theorem d_M_numberOf_2 : decode c_M_numberOf 2 = .ok (.iconst 2, 1) := by decide +kernel
theorem d_M_numberOf_3 : decode c_M_numberOf 3 = .ok (.istore_n 2, 1) := by decide +kernel
theorem d_M_numberOf_4 : decode c_M_numberOf 4 = .ok (.iload_n 0, 1) := by decide +kernel
theorem d_M_numberOf_5 : decode c_M_numberOf 5 = .ok (.istore_n 3, 1) := by decide +kernel
theorem d_M_numberOf_6 : decode c_M_numberOf 6 = .ok (.iload_n 3, 1) := by decide +kernel
theorem d_M_numberOf_7 : decode c_M_numberOf 7 = .ok (.ifCond .le 34, 3) := by decide +kernel
theorem d_M_numberOf_10 : decode c_M_numberOf 10 = .ok (.iload_n 1, 1) := by decide +kernel
theorem d_M_numberOf_11 : decode c_M_numberOf 11 = .ok (.iload_n 3, 1) := by decide +kernel
theorem d_M_numberOf_12 : decode c_M_numberOf 12 = .ok (.bipush 10, 2) := by decide +kernel
theorem d_M_numberOf_14 : decode c_M_numberOf 14 = .ok (.irem, 1) := by decide +kernel
theorem d_M_numberOf_15 : decode c_M_numberOf 15 = .ok (.iload_n 2, 1) := by decide +kernel
theorem d_M_numberOf_16 : decode c_M_numberOf 16 = .ok (.imul, 1) := by decide +kernel
theorem d_M_numberOf_17 : decode c_M_numberOf 17 = .ok (.iadd, 1) := by decide +kernel
theorem d_M_numberOf_18 : decode c_M_numberOf 18 = .ok (.istore_n 1, 1) := by decide +kernel
theorem d_M_numberOf_19 : decode c_M_numberOf 19 = .ok (.iload_n 2, 1) := by decide +kernel
theorem d_M_numberOf_20 : decode c_M_numberOf 20 = .ok (.bipush 7, 2) := by decide +kernel
theorem d_M_numberOf_22 : decode c_M_numberOf 22 = .ok (.if_icmp .ne 7, 3) := by decide +kernel
theorem d_M_numberOf_25 : decode c_M_numberOf 25 = .ok (.iconst 2, 1) := by decide +kernel
theorem d_M_numberOf_26 : decode c_M_numberOf 26 = .ok (.goto 6, 3) := by decide +kernel
theorem d_M_numberOf_29 : decode c_M_numberOf 29 = .ok (.iload_n 2, 1) := by decide +kernel
theorem d_M_numberOf_30 : decode c_M_numberOf 30 = .ok (.iconst 1, 1) := by decide +kernel
theorem d_M_numberOf_31 : decode c_M_numberOf 31 = .ok (.iadd, 1) := by decide +kernel
theorem d_M_numberOf_32 : decode c_M_numberOf 32 = .ok (.istore_n 2, 1) := by decide +kernel
theorem d_M_numberOf_33 : decode c_M_numberOf 33 = .ok (.iload_n 3, 1) := by decide +kernel
theorem d_M_numberOf_34 : decode c_M_numberOf 34 = .ok (.bipush 10, 2) := by decide +kernel
theorem d_M_numberOf_36 : decode c_M_numberOf 36 = .ok (.idiv, 1) := by decide +kernel
theorem d_M_numberOf_37 : decode c_M_numberOf 37 = .ok (.istore_n 3, 1) := by decide +kernel
theorem d_M_numberOf_38 : decode c_M_numberOf 38 = .ok (.goto (-32), 3) := by decide +kernel
theorem d_M_numberOf_41 : decode c_M_numberOf 41 = .ok (.bipush 10, 2) := by decide +kernel
theorem d_M_numberOf_43 : decode c_M_numberOf 43 = .ok (.iload_n 0, 1) := by decide +kernel
theorem d_M_numberOf_44 : decode c_M_numberOf 44 = .ok (.imul, 1) := by decide +kernel
theorem d_M_numberOf_45 : decode c_M_numberOf 45 = .ok (.iload_n 1, 1) := by decide +kernel
theorem d_M_numberOf_46 : decode c_M_numberOf 46 = .ok (.bipush 10, 2) := by decide +kernel
theorem d_M_numberOf_48 : decode c_M_numberOf 48 = .ok (.irem, 1) := by decide +kernel
theorem d_M_numberOf_49 : decode c_M_numberOf 49 = .ok (.iadd, 1) := by decide +kernel
theorem d_M_numberOf_50 : decode c_M_numberOf 50 = .ok (.ireturn, 1) := by decide +kernel
theorem d_M_find_0 : decode c_M_find 0 = .ok (.iconst 1, 1) := by decide +kernel
theorem d_M_find_1 : decode c_M_find 1 = .ok (.istore_n 3, 1) := by decide +kernel
theorem d_M_find_2 : decode c_M_find 2 = .ok (.iload_n 3, 1) := by decide +kernel
theorem d_M_find_3 : decode c_M_find 3 = .ok (.aload_n 0, 1) := by decide +kernel
theorem d_M_find_4 : decode c_M_find 4 = .ok (.getfield 106, 3) := by decide +kernel
theorem d_M_find_7 : decode c_M_find 7 = .ok (.if_icmp .gt 21, 3) := by decide +kernel
theorem d_M_find_10 : decode c_M_find 10 = .ok (.iload_n 3, 1) := by decide +kernel
theorem d_M_find_11 : decode c_M_find 11 = .ok (.invokestatic 110, 3) := by decide +kernel
theorem d_M_find_14 : decode c_M_find 14 = .ok (.i2l, 1) := by decide +kernel
theorem d_M_find_15 : decode c_M_find 15 = .ok (.lload_n 1, 1) := by decide +kernel
theorem d_M_find_16 : decode c_M_find 16 = .ok (.lcmp, 1) := by decide +kernel
theorem d_M_find_17 : decode c_M_find 17 = .ok (.ifCond .ne 5, 3) := by decide +kernel
theorem d_M_find_20 : decode c_M_find 20 = .ok (.iload_n 3, 1) := by decide +kernel
theorem d_M_find_21 : decode c_M_find 21 = .ok (.ireturn, 1) := by decide +kernel
theorem d_M_find_22 : decode c_M_find 22 = .ok (.iinc 3 1, 3) := by decide +kernel
theorem d_M_find_25 : decode c_M_find 25 = .ok (.goto (-23), 3) := by decide +kernel
theorem d_M_find_28 : decode c_M_find 28 = .ok (.iconst 0, 1) := by decide +kernel
theorem d_M_find_29 : decode c_M_find 29 = .ok (.ireturn, 1) := by decide +kernel
theorem d_M_add_0 : decode c_M_add 0 = .ok (.aload_n 0, 1) := by decide +kernel
theorem d_M_add_1 : decode c_M_add 1 = .ok (.dup, 1) := by decide +kernel
theorem d_M_add_2 : decode c_M_add 2 = .ok (.getfield 106, 3) := by decide +kernel
theorem d_M_add_5 : decode c_M_add 5 = .ok (.iconst 1, 1) := by decide +kernel
theorem d_M_add_6 : decode c_M_add 6 = .ok (.iadd, 1) := by decide +kernel
theorem d_M_add_7 : decode c_M_add 7 = .ok (.putfield 106, 3) := by decide +kernel
theorem d_M_add_10 : decode c_M_add 10 = .ok (.aload_n 0, 1) := by decide +kernel
theorem d_M_add_11 : decode c_M_add 11 = .ok (.getfield 7, 3) := by decide +kernel
theorem d_M_add_14 : decode c_M_add 14 = .ok (.aload_n 0, 1) := by decide +kernel
theorem d_M_add_15 : decode c_M_add 15 = .ok (.getfield 106, 3) := by decide +kernel
theorem d_M_add_18 : decode c_M_add 18 = .ok (.iconst 0, 1) := by decide +kernel
theorem d_M_add_19 : decode c_M_add 19 = .ok (.iastore, 1) := by decide +kernel
theorem d_M_add_20 : decode c_M_add 20 = .ok (.aload_n 0, 1) := by decide +kernel
theorem d_M_add_21 : decode c_M_add 21 = .ok (.getfield 13, 3) := by decide +kernel
theorem d_M_add_24 : decode c_M_add 24 = .ok (.aload_n 0, 1) := by decide +kernel
theorem d_M_add_25 : decode c_M_add 25 = .ok (.getfield 106, 3) := by decide +kernel
theorem d_M_add_28 : decode c_M_add 28 = .ok (.lload_n 2, 1) := by decide +kernel
theorem d_M_add_29 : decode c_M_add 29 = .ok (.lastore, 1) := by decide +kernel
theorem d_M_add_30 : decode c_M_add 30 = .ok (.aload_n 0, 1) := by decide +kernel
theorem d_M_add_31 : decode c_M_add 31 = .ok (.getfield 17, 3) := by decide +kernel
theorem d_M_add_34 : decode c_M_add 34 = .ok (.aload_n 0, 1) := by decide +kernel
theorem d_M_add_35 : decode c_M_add 35 = .ok (.getfield 106, 3) := by decide +kernel
theorem d_M_add_38 : decode c_M_add 38 = .ok (.lload 4, 2) := by decide +kernel
theorem d_M_add_40 : decode c_M_add 40 = .ok (.lastore, 1) := by decide +kernel
theorem d_M_add_41 : decode c_M_add 41 = .ok (.aload_n 0, 1) := by decide +kernel
theorem d_M_add_42 : decode c_M_add 42 = .ok (.getfield 20, 3) := by decide +kernel
theorem d_M_add_45 : decode c_M_add 45 = .ok (.aload_n 0, 1) := by decide +kernel
theorem d_M_add_46 : decode c_M_add 46 = .ok (.getfield 106, 3) := by decide +kernel
theorem d_M_add_49 : decode c_M_add 49 = .ok (.iload 6, 2) := by decide +kernel
theorem d_M_add_51 : decode c_M_add 51 = .ok (.iastore, 1) := by decide +kernel
theorem d_M_add_52 : decode c_M_add 52 = .ok (.aload_n 0, 1) := by decide +kernel
theorem d_M_add_53 : decode c_M_add 53 = .ok (.getfield 23, 3) := by decide +kernel
theorem d_M_add_56 : decode c_M_add 56 = .ok (.aload_n 0, 1) := by decide +kernel
theorem d_M_add_57 : decode c_M_add 57 = .ok (.getfield 106, 3) := by decide +kernel
theorem d_M_add_60 : decode c_M_add 60 = .ok (.iload 7, 2) := by decide +kernel
theorem d_M_add_62 : decode c_M_add 62 = .ok (.iastore, 1) := by decide +kernel
theorem d_M_add_63 : decode c_M_add 63 = .ok (.aload_n 0, 1) := by decide +kernel
theorem d_M_add_64 : decode c_M_add 64 = .ok (.getfield 26, 3) := by decide +kernel
theorem d_M_add_67 : decode c_M_add 67 = .ok (.aload_n 0, 1) := by decide +kernel
theorem d_M_add_68 : decode c_M_add 68 = .ok (.getfield 106, 3) := by decide +kernel
theorem d_M_add_71 : decode c_M_add 71 = .ok (.iload_n 1, 1) := by decide +kernel
theorem d_M_add_72 : decode c_M_add 72 = .ok (.iastore, 1) := by decide +kernel
theorem d_M_add_73 : decode c_M_add 73 = .ok (.aload_n 0, 1) := by decide +kernel
theorem d_M_add_74 : decode c_M_add 74 = .ok (.getfield 29, 3) := by decide +kernel
theorem d_M_add_77 : decode c_M_add 77 = .ok (.aload_n 0, 1) := by decide +kernel
theorem d_M_add_78 : decode c_M_add 78 = .ok (.getfield 106, 3) := by decide +kernel
theorem d_M_add_81 : decode c_M_add 81 = .ok (.iconst (-1), 1) := by decide +kernel
theorem d_M_add_82 : decode c_M_add 82 = .ok (.iastore, 1) := by decide +kernel
theorem d_M_add_83 : decode c_M_add 83 = .ok (.aload_n 0, 1) := by decide +kernel
theorem d_M_add_84 : decode c_M_add 84 = .ok (.getfield 32, 3) := by decide +kernel
theorem d_M_add_87 : decode c_M_add 87 = .ok (.aload_n 0, 1) := by decide +kernel
theorem d_M_add_88 : decode c_M_add 88 = .ok (.getfield 106, 3) := by decide +kernel
theorem d_M_add_91 : decode c_M_add 91 = .ok (.iconst (-1), 1) := by decide +kernel
theorem d_M_add_92 : decode c_M_add 92 = .ok (.iastore, 1) := by decide +kernel
theorem d_M_add_93 : decode c_M_add 93 = .ok (.aload_n 0, 1) := by decide +kernel
theorem d_M_add_94 : decode c_M_add 94 = .ok (.getfield 106, 3) := by decide +kernel
theorem d_M_add_97 : decode c_M_add 97 = .ok (.invokestatic 110, 3) := by decide +kernel
theorem d_M_add_100 : decode c_M_add 100 = .ok (.ireturn, 1) := by decide +kernel
theorem d_M_order_0 : decode c_M_order 0 = .ok (.iload_n 1, 1) := by decide +kernel
theorem d_M_order_1 : decode c_M_order 1 = .ok (.invokestatic 114, 3) := by decide +kernel
theorem d_M_order_4 : decode c_M_order 4 = .ok (.ifCond .eq 39, 3) := by decide +kernel
theorem d_M_order_7 : decode c_M_order 7 = .ok (.lload_n 2, 1) := by decide +kernel
theorem d_M_order_8 : decode c_M_order 8 = .ok (.lconst 1, 1) := by decide +kernel
theorem d_M_order_9 : decode c_M_order 9 = .ok (.ldc2_w 118, 3) := by decide +kernel
theorem d_M_order_12 : decode c_M_order 12 = .ok (.invokestatic 102, 3) := by decide +kernel
theorem d_M_order_15 : decode c_M_order 15 = .ok (.ifCond .eq 28, 3) := by decide +kernel
theorem d_M_order_18 : decode c_M_order 18 = .ok (.lload 4, 2) := by decide +kernel
theorem d_M_order_20 : decode c_M_order 20 = .ok (.lconst 0, 1) := by decide +kernel
theorem d_M_order_21 : decode c_M_order 21 = .ok (.lcmp, 1) := by decide +kernel
theorem d_M_order_22 : decode c_M_order 22 = .ok (.ifCond .lt 21, 3) := by decide +kernel
theorem d_M_order_25 : decode c_M_order 25 = .ok (.iload 6, 2) := by decide +kernel
theorem d_M_order_27 : decode c_M_order 27 = .ok (.i2l, 1) := by decide +kernel
theorem d_M_order_28 : decode c_M_order 28 = .ok (.lconst 0, 1) := by decide +kernel
theorem d_M_order_29 : decode c_M_order 29 = .ok (.ldc2_w 120, 3) := by decide +kernel
theorem d_M_order_32 : decode c_M_order 32 = .ok (.invokestatic 102, 3) := by decide +kernel
theorem d_M_order_35 : decode c_M_order 35 = .ok (.ifCond .eq 8, 3) := by decide +kernel
theorem d_M_order_38 : decode c_M_order 38 = .ok (.iload 7, 2) := by decide +kernel
theorem d_M_order_40 : decode c_M_order 40 = .ok (.ifCond .ge 6, 3) := by decide +kernel
theorem d_M_order_43 : decode c_M_order 43 = .ok (.bipush (-102), 2) := by decide +kernel
theorem d_M_order_45 : decode c_M_order 45 = .ok (.ireturn, 1) := by decide +kernel
theorem d_M_order_46 : decode c_M_order 46 = .ok (.aload_n 0, 1) := by decide +kernel
theorem d_M_order_47 : decode c_M_order 47 = .ok (.getfield 106, 3) := by decide +kernel
theorem d_M_order_50 : decode c_M_order 50 = .ok (.sipush 300, 3) := by decide +kernel
theorem d_M_order_53 : decode c_M_order 53 = .ok (.if_icmp .ne 6, 3) := by decide +kernel
theorem d_M_order_56 : decode c_M_order 56 = .ok (.bipush (-104), 2) := by decide +kernel
theorem d_M_order_58 : decode c_M_order 58 = .ok (.ireturn, 1) := by decide +kernel
theorem d_M_order_59 : decode c_M_order 59 = .ok (.aload_n 0, 1) := by decide +kernel
theorem d_M_order_60 : decode c_M_order 60 = .ok (.getfield 47, 3) := by decide +kernel
