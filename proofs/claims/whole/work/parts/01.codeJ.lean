theorem d_M_init_0 : decode prog_14_method_1_code 0 = .ok (.aload_n 0, 1) := by decide +kernel
theorem d_M_init_1 : decode prog_14_method_1_code 1 = .ok (.invokespecial 1, 3) := by decide +kernel
theorem d_M_init_4 : decode prog_14_method_1_code 4 = .ok (.aload_n 0, 1) := by decide +kernel
theorem d_M_init_5 : decode prog_14_method_1_code 5 = .ok (.iconst (-1), 1) := by decide +kernel
theorem d_M_init_6 : decode prog_14_method_1_code 6 = .ok (.putfield 9, 3) := by decide +kernel
theorem d_M_init_9 : decode prog_14_method_1_code 9 = .ok (.aload_n 0, 1) := by decide +kernel
theorem d_M_init_10 : decode prog_14_method_1_code 10 = .ok (.bipush 20, 2) := by decide +kernel
theorem d_M_init_12 : decode prog_14_method_1_code 12 = .ok (.newarray .int, 2) := by decide +kernel
theorem d_M_init_14 : decode prog_14_method_1_code 14 = .ok (.putfield 13, 3) := by decide +kernel
theorem d_M_init_17 : decode prog_14_method_1_code 17 = .ok (.aload_n 0, 1) := by decide +kernel
theorem d_M_init_18 : decode prog_14_method_1_code 18 = .ok (.bipush 20, 2) := by decide +kernel
theorem d_M_init_20 : decode prog_14_method_1_code 20 = .ok (.newarray .int, 2) := by decide +kernel
theorem d_M_init_22 : decode prog_14_method_1_code 22 = .ok (.putfield 17, 3) := by decide +kernel
theorem d_M_init_25 : decode prog_14_method_1_code 25 = .ok (.aload_n 0, 1) := by decide +kernel
theorem d_M_init_26 : decode prog_14_method_1_code 26 = .ok (.bipush 20, 2) := by decide +kernel
theorem d_M_init_28 : decode prog_14_method_1_code 28 = .ok (.newarray .int, 2) := by decide +kernel
theorem d_M_init_30 : decode prog_14_method_1_code 30 = .ok (.putfield 20, 3) := by decide +kernel
theorem d_M_init_33 : decode prog_14_method_1_code 33 = .ok (.aload_n 0, 1) := by decide +kernel
theorem d_M_init_34 : decode prog_14_method_1_code 34 = .ok (.bipush 20, 2) := by decide +kernel
theorem d_M_init_36 : decode prog_14_method_1_code 36 = .ok (.newarray .boolean, 2) := by decide +kernel
theorem d_M_init_38 : decode prog_14_method_1_code 38 = .ok (.putfield 23, 3) := by decide +kernel
theorem d_M_init_41 : decode prog_14_method_1_code 41 = .ok (.aload_n 0, 1) := by decide +kernel
theorem d_M_init_42 : decode prog_14_method_1_code 42 = .ok (.bipush 12, 2) := by decide +kernel
theorem d_M_init_44 : decode prog_14_method_1_code 44 = .ok (.newarray .int, 2) := by decide +kernel
theorem d_M_init_46 : decode prog_14_method_1_code 46 = .ok (.putfield 27, 3) := by decide +kernel
theorem d_M_init_49 : decode prog_14_method_1_code 49 = .ok (.aload_n 0, 1) := by decide +kernel
theorem d_M_init_50 : decode prog_14_method_1_code 50 = .ok (.bipush 12, 2) := by decide +kernel
theorem d_M_init_52 : decode prog_14_method_1_code 52 = .ok (.newarray .int, 2) := by decide +kernel
theorem d_M_init_54 : decode prog_14_method_1_code 54 = .ok (.putfield 30, 3) := by decide +kernel
theorem d_M_init_57 : decode prog_14_method_1_code 57 = .ok (.aload_n 0, 1) := by decide +kernel
theorem d_M_init_58 : decode prog_14_method_1_code 58 = .ok (.bipush 16, 2) := by decide +kernel
theorem d_M_init_60 : decode prog_14_method_1_code 60 = .ok (.newarray .int, 2) := by decide +kernel
theorem d_M_init_62 : decode prog_14_method_1_code 62 = .ok (.putfield 33, 3) := by decide +kernel
theorem d_M_init_65 : decode prog_14_method_1_code 65 = .ok (.aload_n 0, 1) := by decide +kernel
theorem d_M_init_66 : decode prog_14_method_1_code 66 = .ok (.bipush 16, 2) := by decide +kernel
theorem d_M_init_68 : decode prog_14_method_1_code 68 = .ok (.newarray .int, 2) := by decide +kernel
theorem d_M_init_70 : decode prog_14_method_1_code 70 = .ok (.putfield 36, 3) := by decide +kernel
theorem d_M_init_73 : decode prog_14_method_1_code 73 = .ok (.aload_n 0, 1) := by decide +kernel
theorem d_M_init_74 : decode prog_14_method_1_code 74 = .ok (.bipush 16, 2) := by decide +kernel
theorem d_M_init_76 : decode prog_14_method_1_code 76 = .ok (.newarray .int, 2) := by decide +kernel
theorem d_M_init_78 : decode prog_14_method_1_code 78 = .ok (.putfield 39, 3) := by decide +kernel
theorem d_M_init_81 : decode prog_14_method_1_code 81 = .ok (.aload_n 0, 1) := by decide +kernel
theorem d_M_init_82 : decode prog_14_method_1_code 82 = .ok (.bipush 16, 2) := by decide +kernel
theorem d_M_init_84 : decode prog_14_method_1_code 84 = .ok (.newarray .int, 2) := by decide +kernel
theorem d_M_init_86 : decode prog_14_method_1_code 86 = .ok (.putfield 42, 3) := by decide +kernel
theorem d_M_init_89 : decode prog_14_method_1_code 89 = .ok (.aload_n 0, 1) := by decide +kernel
theorem d_M_init_90 : decode prog_14_method_1_code 90 = .ok (.bipush 16, 2) := by decide +kernel
theorem d_M_init_92 : decode prog_14_method_1_code 92 = .ok (.newarray .int, 2) := by decide +kernel
theorem d_M_init_94 : decode prog_14_method_1_code 94 = .ok (.putfield 45, 3) := by decide +kernel
theorem d_M_init_97 : decode prog_14_method_1_code 97 = .ok (.aload_n 0, 1) := by decide +kernel
theorem d_M_init_98 : decode prog_14_method_1_code 98 = .ok (.bipush 16, 2) := by decide +kernel
theorem d_M_init_100 : decode prog_14_method_1_code 100 = .ok (.newarray .int, 2) := by decide +kernel
theorem d_M_init_102 : decode prog_14_method_1_code 102 = .ok (.putfield 48, 3) := by decide +kernel
theorem d_M_init_105 : decode prog_14_method_1_code 105 = .ok (.aload_n 0, 1) := by decide +kernel
theorem d_M_init_106 : decode prog_14_method_1_code 106 = .ok (.bipush 16, 2) := by decide +kernel
theorem d_M_init_108 : decode prog_14_method_1_code 108 = .ok (.newarray .int, 2) := by decide +kernel
theorem d_M_init_110 : decode prog_14_method_1_code 110 = .ok (.putfield 51, 3) := by decide +kernel
theorem d_M_init_113 : decode prog_14_method_1_code 113 = .ok (.aload_n 0, 1) := by decide +kernel
theorem d_M_init_114 : decode prog_14_method_1_code 114 = .ok (.bipush 16, 2) := by decide +kernel
theorem d_M_init_116 : decode prog_14_method_1_code 116 = .ok (.newarray .int, 2) := by decide +kernel
theorem d_M_init_118 : decode prog_14_method_1_code 118 = .ok (.putfield 54, 3) := by decide +kernel
theorem d_M_init_121 : decode prog_14_method_1_code 121 = .ok (.aload_n 0, 1) := by decide +kernel
theorem d_M_init_122 : decode prog_14_method_1_code 122 = .ok (.iconst 3, 1) := by decide +kernel
theorem d_M_init_123 : decode prog_14_method_1_code 123 = .ok (.newarray .int, 2) := by decide +kernel
theorem d_M_init_125 : decode prog_14_method_1_code 125 = .ok (.putfield 57, 3) := by decide +kernel
theorem d_M_init_128 : decode prog_14_method_1_code 128 = .ok (.aload_n 0, 1) := by decide +kernel
theorem d_M_init_129 : decode prog_14_method_1_code 129 = .ok (.iconst 3, 1) := by decide +kernel
theorem d_M_init_130 : decode prog_14_method_1_code 130 = .ok (.newarray .int, 2) := by decide +kernel
theorem d_M_init_132 : decode prog_14_method_1_code 132 = .ok (.putfield 60, 3) := by decide +kernel
theorem d_M_init_135 : decode prog_14_method_1_code 135 = .ok (.aload_n 0, 1) := by decide +kernel
theorem d_M_init_136 : decode prog_14_method_1_code 136 = .ok (.iconst 3, 1) := by decide +kernel
theorem d_M_init_137 : decode prog_14_method_1_code 137 = .ok (.newarray .int, 2) := by decide +kernel
theorem d_M_init_139 : decode prog_14_method_1_code 139 = .ok (.putfield 63, 3) := by decide +kernel
theorem d_M_init_142 : decode prog_14_method_1_code 142 = .ok (.aload_n 0, 1) := by decide +kernel
theorem d_M_init_143 : decode prog_14_method_1_code 143 = .ok (.bipush 8, 2) := by decide +kernel
theorem d_M_init_145 : decode prog_14_method_1_code 145 = .ok (.newarray .int, 2) := by decide +kernel
theorem d_M_init_147 : decode prog_14_method_1_code 147 = .ok (.putfield 66, 3) := by decide +kernel
theorem d_M_init_150 : decode prog_14_method_1_code 150 = .ok (.aload_n 0, 1) := by decide +kernel
theorem d_M_init_151 : decode prog_14_method_1_code 151 = .ok (.bipush 8, 2) := by decide +kernel
theorem d_M_init_153 : decode prog_14_method_1_code 153 = .ok (.newarray .int, 2) := by decide +kernel
theorem d_M_init_155 : decode prog_14_method_1_code 155 = .ok (.putfield 69, 3) := by decide +kernel
theorem d_M_init_158 : decode prog_14_method_1_code 158 = .ok (.aload_n 0, 1) := by decide +kernel
theorem d_M_init_159 : decode prog_14_method_1_code 159 = .ok (.bipush 8, 2) := by decide +kernel
theorem d_M_init_161 : decode prog_14_method_1_code 161 = .ok (.newarray .int, 2) := by decide +kernel
theorem d_M_init_163 : decode prog_14_method_1_code 163 = .ok (.putfield 72, 3) := by decide +kernel
theorem d_M_init_166 : decode prog_14_method_1_code 166 = .ok (.aload_n 0, 1) := by decide +kernel
theorem d_M_init_167 : decode prog_14_method_1_code 167 = .ok (.bipush 8, 2) := by decide +kernel
theorem d_M_init_169 : decode prog_14_method_1_code 169 = .ok (.newarray .int, 2) := by decide +kernel
theorem d_M_init_171 : decode prog_14_method_1_code 171 = .ok (.putfield 75, 3) := by decide +kernel
theorem d_M_init_174 : decode prog_14_method_1_code 174 = .ok (.aload_n 0, 1) := by decide +kernel
theorem d_M_init_175 : decode prog_14_method_1_code 175 = .ok (.sipush 480, 3) := by decide +kernel
theorem d_M_init_178 : decode prog_14_method_1_code 178 = .ok (.newarray .long, 2) := by decide +kernel
theorem d_M_init_180 : decode prog_14_method_1_code 180 = .ok (.putfield 78, 3) := by decide +kernel
theorem d_M_init_183 : decode prog_14_method_1_code 183 = .ok (.aload_n 0, 1) := by decide +kernel
theorem d_M_init_184 : decode prog_14_method_1_code 184 = .ok (.iconst 5, 1) := by decide +kernel
theorem d_M_init_185 : decode prog_14_method_1_code 185 = .ok (.newarray .int, 2) := by decide +kernel
theorem d_M_init_187 : decode prog_14_method_1_code 187 = .ok (.putfield 82, 3) := by decide +kernel
theorem d_M_init_190 : decode prog_14_method_1_code 190 = .ok (.aload_n 0, 1) := by decide +kernel
theorem d_M_init_191 : decode prog_14_method_1_code 191 = .ok (.iconst 5, 1) := by decide +kernel
theorem d_M_init_192 : decode prog_14_method_1_code 192 = .ok (.newarray .int, 2) := by decide +kernel
theorem d_M_init_194 : decode prog_14_method_1_code 194 = .ok (.putfield 85, 3) := by decide +kernel
theorem d_M_init_197 : decode prog_14_method_1_code 197 = .ok (.aload_n 0, 1) := by decide +kernel
theorem d_M_init_198 : decode prog_14_method_1_code 198 = .ok (.iconst 5, 1) := by decide +kernel
theorem d_M_init_199 : decode prog_14_method_1_code 199 = .ok (.newarray .int, 2) := by decide +kernel
theorem d_M_init_201 : decode prog_14_method_1_code 201 = .ok (.putfield 88, 3) := by decide +kernel
theorem d_M_init_204 : decode prog_14_method_1_code 204 = .ok (.aload_n 0, 1) := by decide +kernel
theorem d_M_init_205 : decode prog_14_method_1_code 205 = .ok (.iconst 5, 1) := by decide +kernel
theorem d_M_init_206 : decode prog_14_method_1_code 206 = .ok (.newarray .int, 2) := by decide +kernel
theorem d_M_init_208 : decode prog_14_method_1_code 208 = .ok (.putfield 91, 3) := by decide +kernel
theorem d_M_init_211 : decode prog_14_method_1_code 211 = .ok (.aload_n 0, 1) := by decide +kernel
theorem d_M_init_212 : decode prog_14_method_1_code 212 = .ok (.iconst 5, 1) := by decide +kernel
theorem d_M_init_213 : decode prog_14_method_1_code 213 = .ok (.newarray .int, 2) := by decide +kernel
theorem d_M_init_215 : decode prog_14_method_1_code 215 = .ok (.putfield 94, 3) := by decide +kernel
theorem d_M_init_218 : decode prog_14_method_1_code 218 = .ok (.aload_n 0, 1) := by decide +kernel
theorem d_M_init_219 : decode prog_14_method_1_code 219 = .ok (.sipush 300, 3) := by decide +kernel
theorem d_M_init_222 : decode prog_14_method_1_code 222 = .ok (.newarray .long, 2) := by decide +kernel
theorem d_M_init_224 : decode prog_14_method_1_code 224 = .ok (.putfield 97, 3) := by decide +kernel
theorem d_M_init_227 : decode prog_14_method_1_code 227 = .ok (.aload_n 0, 1) := by decide +kernel
theorem d_M_init_228 : decode prog_14_method_1_code 228 = .ok (.iconst 4, 1) := by decide +kernel
theorem d_M_init_229 : decode prog_14_method_1_code 229 = .ok (.newarray .int, 2) := by decide +kernel
theorem d_M_init_231 : decode prog_14_method_1_code 231 = .ok (.putfield 100, 3) := by decide +kernel
theorem d_M_init_234 : decode prog_14_method_1_code 234 = .ok (.aload_n 0, 1) := by decide +kernel
theorem d_M_init_235 : decode prog_14_method_1_code 235 = .ok (.iconst 4, 1) := by decide +kernel
theorem d_M_init_236 : decode prog_14_method_1_code 236 = .ok (.newarray .int, 2) := by decide +kernel
theorem d_M_init_238 : decode prog_14_method_1_code 238 = .ok (.putfield 103, 3) := by decide +kernel
theorem d_M_init_241 : decode prog_14_method_1_code 241 = .ok (.aload_n 0, 1) := by decide +kernel
theorem d_M_init_242 : decode prog_14_method_1_code 242 = .ok (.iconst 4, 1) := by decide +kernel
theorem d_M_init_243 : decode prog_14_method_1_code 243 = .ok (.newarray .int, 2) := by decide +kernel
theorem d_M_init_245 : decode prog_14_method_1_code 245 = .ok (.putfield 106, 3) := by decide +kernel
theorem d_M_init_248 : decode prog_14_method_1_code 248 = .ok (.aload_n 0, 1) := by decide +kernel
theorem d_M_init_249 : decode prog_14_method_1_code 249 = .ok (.bipush 96, 2) := by decide +kernel
theorem d_M_init_251 : decode prog_14_method_1_code 251 = .ok (.newarray .int, 2) := by decide +kernel
theorem d_M_init_253 : decode prog_14_method_1_code 253 = .ok (.putfield 109, 3) := by decide +kernel
theorem d_M_init_256 : decode prog_14_method_1_code 256 = .ok (.aload_n 0, 1) := by decide +kernel
theorem d_M_init_257 : decode prog_14_method_1_code 257 = .ok (.bipush 96, 2) := by decide +kernel
theorem d_M_init_259 : decode prog_14_method_1_code 259 = .ok (.newarray .int, 2) := by decide +kernel
theorem d_M_init_261 : decode prog_14_method_1_code 261 = .ok (.putfield 112, 3) := by decide +kernel
theorem d_M_init_264 : decode prog_14_method_1_code 264 = .ok (.aload_n 0, 1) := by decide +kernel
theorem d_M_init_265 : decode prog_14_method_1_code 265 = .ok (.bipush 96, 2) := by decide +kernel
theorem d_M_init_267 : decode prog_14_method_1_code 267 = .ok (.newarray .int, 2) := by decide +kernel
theorem d_M_init_269 : decode prog_14_method_1_code 269 = .ok (.putfield 115, 3) := by decide +kernel
theorem d_M_init_272 : decode prog_14_method_1_code 272 = .ok (.aload_n 0, 1) := by decide +kernel
theorem d_M_init_273 : decode prog_14_method_1_code 273 = .ok (.sipush 12000, 3) := by decide +kernel
theorem d_M_init_276 : decode prog_14_method_1_code 276 = .ok (.newarray .int, 2) := by decide +kernel
theorem d_M_init_278 : decode prog_14_method_1_code 278 = .ok (.putfield 118, 3) := by decide +kernel
theorem d_M_init_281 : decode prog_14_method_1_code 281 = .ok (.aload_n 0, 1) := by decide +kernel
theorem d_M_init_282 : decode prog_14_method_1_code 282 = .ok (.sipush 12000, 3) := by decide +kernel
theorem d_M_init_285 : decode prog_14_method_1_code 285 = .ok (.newarray .int, 2) := by decide +kernel
theorem d_M_init_287 : decode prog_14_method_1_code 287 = .ok (.putfield 121, 3) := by decide +kernel
theorem d_M_init_290 : decode prog_14_method_1_code 290 = .ok (.aload_n 0, 1) := by decide +kernel
theorem d_M_init_291 : decode prog_14_method_1_code 291 = .ok (.sipush 12000, 3) := by decide +kernel
theorem d_M_init_294 : decode prog_14_method_1_code 294 = .ok (.newarray .int, 2) := by decide +kernel
theorem d_M_init_296 : decode prog_14_method_1_code 296 = .ok (.putfield 124, 3) := by decide +kernel
theorem d_M_init_299 : decode prog_14_method_1_code 299 = .ok (.aload_n 0, 1) := by decide +kernel
theorem d_M_init_300 : decode prog_14_method_1_code 300 = .ok (.sipush 12000, 3) := by decide +kernel
theorem d_M_init_303 : decode prog_14_method_1_code 303 = .ok (.newarray .int, 2) := by decide +kernel
theorem d_M_init_305 : decode prog_14_method_1_code 305 = .ok (.putfield 127, 3) := by decide +kernel
theorem d_M_init_308 : decode prog_14_method_1_code 308 = .ok (.aload_n 0, 1) := by decide +kernel
theorem d_M_init_309 : decode prog_14_method_1_code 309 = .ok (.bipush 8, 2) := by decide +kernel
theorem d_M_init_311 : decode prog_14_method_1_code 311 = .ok (.newarray .int, 2) := by decide +kernel
theorem d_M_init_313 : decode prog_14_method_1_code 313 = .ok (.putfield 130, 3) := by decide +kernel
theorem d_M_init_316 : decode prog_14_method_1_code 316 = .ok (.aload_n 0, 1) := by decide +kernel
theorem d_M_init_317 : decode prog_14_method_1_code 317 = .ok (.bipush 16, 2) := by decide +kernel
theorem d_M_init_319 : decode prog_14_method_1_code 319 = .ok (.newarray .int, 2) := by decide +kernel
theorem d_M_init_321 : decode prog_14_method_1_code 321 = .ok (.putfield 133, 3) := by decide +kernel
theorem d_M_init_324 : decode prog_14_method_1_code 324 = .ok (.aload_n 0, 1) := by decide +kernel
theorem d_M_init_325 : decode prog_14_method_1_code 325 = .ok (.bipush 16, 2) := by decide +kernel
theorem d_M_init_327 : decode prog_14_method_1_code 327 = .ok (.newarray .int, 2) := by decide +kernel
theorem d_M_init_329 : decode prog_14_method_1_code 329 = .ok (.putfield 136, 3) := by decide +kernel
theorem d_M_init_332 : decode prog_14_method_1_code 332 = .ok (.aload_n 0, 1) := by decide +kernel
theorem d_M_init_333 : decode prog_14_method_1_code 333 = .ok (.bipush 16, 2) := by decide +kernel
theorem d_M_init_335 : decode prog_14_method_1_code 335 = .ok (.newarray .int, 2) := by decide +kernel
theorem d_M_init_337 : decode prog_14_method_1_code 337 = .ok (.putfield 139, 3) := by decide +kernel
theorem d_M_init_340 : decode prog_14_method_1_code 340 = .ok (.aload_n 0, 1) := by decide +kernel
theorem d_M_init_341 : decode prog_14_method_1_code 341 = .ok (.bipush 16, 2) := by decide +kernel
theorem d_M_init_343 : decode prog_14_method_1_code 343 = .ok (.newarray .int, 2) := by decide +kernel
theorem d_M_init_345 : decode prog_14_method_1_code 345 = .ok (.putfield 142, 3) := by decide +kernel
theorem d_M_init_348 : decode prog_14_method_1_code 348 = .ok (.aload_n 0, 1) := by decide +kernel
theorem d_M_init_349 : decode prog_14_method_1_code 349 = .ok (.bipush 16, 2) := by decide +kernel
theorem d_M_init_351 : decode prog_14_method_1_code 351 = .ok (.newarray .int, 2) := by decide +kernel
theorem d_M_init_353 : decode prog_14_method_1_code 353 = .ok (.putfield 145, 3) := by decide +kernel
theorem d_M_init_356 : decode prog_14_method_1_code 356 = .ok (.aload_n 0, 1) := by decide +kernel
theorem d_M_init_357 : decode prog_14_method_1_code 357 = .ok (.bipush 60, 2) := by decide +kernel
theorem d_M_init_359 : decode prog_14_method_1_code 359 = .ok (.newarray .long, 2) := by decide +kernel
theorem d_M_init_361 : decode prog_14_method_1_code 361 = .ok (.putfield 148, 3) := by decide +kernel
theorem d_M_init_364 : decode prog_14_method_1_code 364 = .ok (.iconst 0, 1) := by decide +kernel
theorem d_M_init_365 : decode prog_14_method_1_code 365 = .ok (.istore_n 1, 1) := by decide +kernel
theorem d_M_init_366 : decode prog_14_method_1_code 366 = .ok (.iload_n 1, 1) := by decide +kernel
theorem d_M_init_367 : decode prog_14_method_1_code 367 = .ok (.bipush 12, 2) := by decide +kernel
theorem d_M_init_369 : decode prog_14_method_1_code 369 = .ok (.if_icmp .ge 16, 3) := by decide +kernel
theorem d_M_init_372 : decode prog_14_method_1_code 372 = .ok (.aload_n 0, 1) := by decide +kernel
theorem d_M_init_373 : decode prog_14_method_1_code 373 = .ok (.getfield 27, 3) := by decide +kernel
theorem d_M_init_376 : decode prog_14_method_1_code 376 = .ok (.iload_n 1, 1) := by decide +kernel
theorem d_M_init_377 : decode prog_14_method_1_code 377 = .ok (.iconst (-1), 1) := by decide +kernel
theorem d_M_init_378 : decode prog_14_method_1_code 378 = .ok (.iastore, 1) := by decide +kernel
theorem d_M_init_379 : decode prog_14_method_1_code 379 = .ok (.iinc 1 1, 3) := by decide +kernel
theorem d_M_init_382 : decode prog_14_method_1_code 382 = .ok (.goto (-16), 3) := by decide +kernel
theorem d_M_init_385 : decode prog_14_method_1_code 385 = .ok (.iconst 0, 1) := by decide +kernel
theorem d_M_init_386 : decode prog_14_method_1_code 386 = .ok (.istore_n 1, 1) := by decide +kernel
theorem d_M_init_387 : decode prog_14_method_1_code 387 = .ok (.iload_n 1, 1) := by decide +kernel
theorem d_M_init_388 : decode prog_14_method_1_code 388 = .ok (.iconst 4, 1) := by decide +kernel
theorem d_M_init_389 : decode prog_14_method_1_code 389 = .ok (.if_icmp .ge 17, 3) := by decide +kernel
theorem d_M_init_392 : decode prog_14_method_1_code 392 = .ok (.aload_n 0, 1) := by decide +kernel
theorem d_M_init_393 : decode prog_14_method_1_code 393 = .ok (.getfield 103, 3) := by decide +kernel
theorem d_M_init_396 : decode prog_14_method_1_code 396 = .ok (.iload_n 1, 1) := by decide +kernel
theorem d_M_init_397 : decode prog_14_method_1_code 397 = .ok (.bipush 100, 2) := by decide +kernel
theorem d_M_init_399 : decode prog_14_method_1_code 399 = .ok (.iastore, 1) := by decide +kernel
theorem d_M_init_400 : decode prog_14_method_1_code 400 = .ok (.iinc 1 1, 3) := by decide +kernel
theorem d_M_init_403 : decode prog_14_method_1_code 403 = .ok (.goto (-16), 3) := by decide +kernel
theorem d_M_init_406 : decode prog_14_method_1_code 406 = .ok (.iconst 0, 1) := by decide +kernel
theorem d_M_init_407 : decode prog_14_method_1_code 407 = .ok (.istore_n 1, 1) := by decide +kernel
theorem d_M_init_408 : decode prog_14_method_1_code 408 = .ok (.iload_n 1, 1) := by decide +kernel
theorem d_M_init_409 : decode prog_14_method_1_code 409 = .ok (.iconst 3, 1) := by decide +kernel
theorem d_M_init_410 : decode prog_14_method_1_code 410 = .ok (.if_icmp .ge 16, 3) := by decide +kernel
theorem d_M_init_413 : decode prog_14_method_1_code 413 = .ok (.aload_n 0, 1) := by decide +kernel
theorem d_M_init_414 : decode prog_14_method_1_code 414 = .ok (.getfield 63, 3) := by decide +kernel
theorem d_M_init_417 : decode prog_14_method_1_code 417 = .ok (.iload_n 1, 1) := by decide +kernel
theorem d_M_init_418 : decode prog_14_method_1_code 418 = .ok (.iconst (-1), 1) := by decide +kernel
theorem d_M_init_419 : decode prog_14_method_1_code 419 = .ok (.iastore, 1) := by decide +kernel
theorem d_M_init_420 : decode prog_14_method_1_code 420 = .ok (.iinc 1 1, 3) := by decide +kernel
theorem d_M_init_423 : decode prog_14_method_1_code 423 = .ok (.goto (-15), 3) := by decide +kernel
theorem d_M_init_426 : decode prog_14_method_1_code 426 = .ok (.return_, 1) := by decide +kernel
theorem d_M_no_0 : decode prog_14_method_2_code 0 = .ok (.aload_n 0, 1) := by decide +kernel
theorem d_M_no_1 : decode prog_14_method_2_code 1 = .ok (.getfield 130, 3) := by decide +kernel
theorem d_M_no_4 : decode prog_14_method_2_code 4 = .ok (.iload_n 1, 1) := by decide +kernel
theorem d_M_no_5 : decode prog_14_method_2_code 5 = .ok (.ineg, 1) := by decide +kernel
theorem d_M_no_6 : decode prog_14_method_2_code 6 = .ok (.dup2, 1) := by decide +kernel
theorem d_M_no_7 : decode prog_14_method_2_code 7 = .ok (.iaload, 1) := by decide +kernel
theorem d_M_no_8 : decode prog_14_method_2_code 8 = .ok (.iconst 1, 1) := by decide +kernel
theorem d_M_no_9 : decode prog_14_method_2_code 9 = .ok (.iadd, 1) := by decide +kernel
theorem d_M_no_10 : decode prog_14_method_2_code 10 = .ok (.iastore, 1) := by decide +kernel
theorem d_M_no_11 : decode prog_14_method_2_code 11 = .ok (.iload_n 1, 1) := by decide +kernel
theorem d_M_no_12 : decode prog_14_method_2_code 12 = .ok (.ireturn, 1) := by decide +kernel
theorem d_M_isThing_0 : decode prog_14_method_3_code 0 = .ok (.iload_n 1, 1) := by decide +kernel
theorem d_M_isThing_1 : decode prog_14_method_3_code 1 = .ok (.ifCond .lt 15, 3) := by decide +kernel
theorem d_M_isThing_4 : decode prog_14_method_3_code 4 = .ok (.iload_n 1, 1) := by decide +kernel
theorem d_M_isThing_5 : decode prog_14_method_3_code 5 = .ok (.aload_n 0, 1) := by decide +kernel
theorem d_M_isThing_6 : decode prog_14_method_3_code 6 = .ok (.getfield 151, 3) := by decide +kernel
theorem d_M_isThing_9 : decode prog_14_method_3_code 9 = .ok (.if_icmp .ge 7, 3) := by decide +kernel
theorem d_M_isThing_12 : decode prog_14_method_3_code 12 = .ok (.iconst 1, 1) := by decide +kernel
theorem d_M_isThing_13 : decode prog_14_method_3_code 13 = .ok (.goto 4, 3) := by decide +kernel
theorem d_M_isThing_16 : decode prog_14_method_3_code 16 = .ok (.iconst 0, 1) := by decide +kernel
theorem d_M_isThing_17 : decode prog_14_method_3_code 17 = .ok (.ireturn, 1) := by decide +kernel
theorem d_M_isShelf_0 : decode prog_14_method_4_code 0 = .ok (.iload_n 0, 1) := by decide +kernel
theorem d_M_isShelf_1 : decode prog_14_method_4_code 1 = .ok (.ifCond .lt 13, 3) := by decide +kernel
theorem d_M_isShelf_4 : decode prog_14_method_4_code 4 = .ok (.iload_n 0, 1) := by decide +kernel
theorem d_M_isShelf_5 : decode prog_14_method_4_code 5 = .ok (.bipush 8, 2) := by decide +kernel
theorem d_M_isShelf_7 : decode prog_14_method_4_code 7 = .ok (.if_icmp .ge 7, 3) := by decide +kernel
theorem d_M_isShelf_10 : decode prog_14_method_4_code 10 = .ok (.iconst 1, 1) := by decide +kernel
theorem d_M_isShelf_11 : decode prog_14_method_4_code 11 = .ok (.goto 4, 3) := by decide +kernel
theorem d_M_isShelf_14 : decode prog_14_method_4_code 14 = .ok (.iconst 0, 1) := by decide +kernel
theorem d_M_isShelf_15 : decode prog_14_method_4_code 15 = .ok (.ireturn, 1) := by decide +kernel
theorem d_M_isRoom_0 : decode prog_14_method_5_code 0 = .ok (.iload_n 0, 1) := by decide +kernel
theorem d_M_isRoom_1 : decode prog_14_method_5_code 1 = .ok (.ifCond .lt 13, 3) := by decide +kernel
theorem d_M_isRoom_4 : decode prog_14_method_5_code 4 = .ok (.iload_n 0, 1) := by decide +kernel
theorem d_M_isRoom_5 : decode prog_14_method_5_code 5 = .ok (.bipush 12, 2) := by decide +kernel
theorem d_M_isRoom_7 : decode prog_14_method_5_code 7 = .ok (.if_icmp .ge 7, 3) := by decide +kernel
theorem d_M_isRoom_10 : decode prog_14_method_5_code 10 = .ok (.iconst 1, 1) := by decide +kernel
theorem d_M_isRoom_11 : decode prog_14_method_5_code 11 = .ok (.goto 4, 3) := by decide +kernel
theorem d_M_isRoom_14 : decode prog_14_method_5_code 14 = .ok (.iconst 0, 1) := by decide +kernel
theorem d_M_isRoom_15 : decode prog_14_method_5_code 15 = .ok (.ireturn, 1) := by decide +kernel
theorem d_M_isPlace_0 : decode prog_14_method_6_code 0 = .ok (.iload_n 1, 1) := by decide +kernel
theorem d_M_isPlace_1 : decode prog_14_method_6_code 1 = .ok (.ifCond .lt 15, 3) := by decide +kernel
theorem d_M_isPlace_4 : decode prog_14_method_6_code 4 = .ok (.iload_n 1, 1) := by decide +kernel
theorem d_M_isPlace_5 : decode prog_14_method_6_code 5 = .ok (.aload_n 0, 1) := by decide +kernel
theorem d_M_isPlace_6 : decode prog_14_method_6_code 6 = .ok (.getfield 154, 3) := by decide +kernel
theorem d_M_isPlace_9 : decode prog_14_method_6_code 9 = .ok (.if_icmp .ge 7, 3) := by decide +kernel
theorem d_M_isPlace_12 : decode prog_14_method_6_code 12 = .ok (.iconst 1, 1) := by decide +kernel
theorem d_M_isPlace_13 : decode prog_14_method_6_code 13 = .ok (.goto 4, 3) := by decide +kernel
theorem d_M_isPlace_16 : decode prog_14_method_6_code 16 = .ok (.iconst 0, 1) := by decide +kernel
theorem d_M_isPlace_17 : decode prog_14_method_6_code 17 = .ok (.ireturn, 1) := by decide +kernel
theorem d_M_door_0 : decode prog_14_method_7_code 0 = .ok (.iload_n 1, 1) := by decide +kernel
theorem d_M_door_1 : decode prog_14_method_7_code 1 = .ok (.invokestatic 157, 3) := by decide +kernel
theorem d_M_door_4 : decode prog_14_method_7_code 4 = .ok (.ifCond .eq 10, 3) := by decide +kernel
theorem d_M_door_7 : decode prog_14_method_7_code 7 = .ok (.iload_n 2, 1) := by decide +kernel
theorem d_M_door_8 : decode prog_14_method_7_code 8 = .ok (.invokestatic 157, 3) := by decide +kernel
theorem d_M_door_11 : decode prog_14_method_7_code 11 = .ok (.ifCond .ne 9, 3) := by decide +kernel
theorem d_M_door_14 : decode prog_14_method_7_code 14 = .ok (.aload_n 0, 1) := by decide +kernel
theorem d_M_door_15 : decode prog_14_method_7_code 15 = .ok (.iconst (-1), 1) := by decide +kernel
theorem d_M_door_16 : decode prog_14_method_7_code 16 = .ok (.invokevirtual 161, 3) := by decide +kernel
theorem d_M_door_19 : decode prog_14_method_7_code 19 = .ok (.ireturn, 1) := by decide +kernel
theorem d_M_door_20 : decode prog_14_method_7_code 20 = .ok (.iload_n 1, 1) := by decide +kernel
theorem d_M_door_21 : decode prog_14_method_7_code 21 = .ok (.iload_n 2, 1) := by decide +kernel
theorem d_M_door_22 : decode prog_14_method_7_code 22 = .ok (.if_icmp .eq 21, 3) := by decide +kernel
theorem d_M_door_25 : decode prog_14_method_7_code 25 = .ok (.iload_n 3, 1) := by decide +kernel
theorem d_M_door_26 : decode prog_14_method_7_code 26 = .ok (.iconst 1, 1) := by decide +kernel
theorem d_M_door_27 : decode prog_14_method_7_code 27 = .ok (.if_icmp .lt 16, 3) := by decide +kernel
theorem d_M_door_30 : decode prog_14_method_7_code 30 = .ok (.iload_n 3, 1) := by decide +kernel
theorem d_M_door_31 : decode prog_14_method_7_code 31 = .ok (.bipush 9, 2) := by decide +kernel
theorem d_M_door_33 : decode prog_14_method_7_code 33 = .ok (.if_icmp .gt 10, 3) := by decide +kernel
theorem d_M_door_36 : decode prog_14_method_7_code 36 = .ok (.aload_n 0, 1) := by decide +kernel
theorem d_M_door_37 : decode prog_14_method_7_code 37 = .ok (.getfield 165, 3) := by decide +kernel
theorem d_M_door_40 : decode prog_14_method_7_code 40 = .ok (.ifCond .eq 10, 3) := by decide +kernel
theorem d_M_door_43 : decode prog_14_method_7_code 43 = .ok (.aload_n 0, 1) := by decide +kernel
theorem d_M_door_44 : decode prog_14_method_7_code 44 = .ok (.bipush (-6), 2) := by decide +kernel
theorem d_M_door_46 : decode prog_14_method_7_code 46 = .ok (.invokevirtual 161, 3) := by decide +kernel
theorem d_M_door_49 : decode prog_14_method_7_code 49 = .ok (.ireturn, 1) := by decide +kernel
theorem d_M_door_50 : decode prog_14_method_7_code 50 = .ok (.aload_n 0, 1) := by decide +kernel
theorem d_M_door_51 : decode prog_14_method_7_code 51 = .ok (.getfield 168, 3) := by decide +kernel
theorem d_M_door_54 : decode prog_14_method_7_code 54 = .ok (.bipush 20, 2) := by decide +kernel
theorem d_M_door_56 : decode prog_14_method_7_code 56 = .ok (.if_icmp .ne 10, 3) := by decide +kernel
theorem d_M_door_59 : decode prog_14_method_7_code 59 = .ok (.aload_n 0, 1) := by decide +kernel
theorem d_M_door_60 : decode prog_14_method_7_code 60 = .ok (.bipush (-7), 2) := by decide +kernel
theorem d_M_door_62 : decode prog_14_method_7_code 62 = .ok (.invokevirtual 161, 3) := by decide +kernel
theorem d_M_door_65 : decode prog_14_method_7_code 65 = .ok (.ireturn, 1) := by decide +kernel
theorem d_M_door_66 : decode prog_14_method_7_code 66 = .ok (.aload_n 0, 1) := by decide +kernel
theorem d_M_door_67 : decode prog_14_method_7_code 67 = .ok (.getfield 13, 3) := by decide +kernel
theorem d_M_door_70 : decode prog_14_method_7_code 70 = .ok (.aload_n 0, 1) := by decide +kernel
theorem d_M_door_71 : decode prog_14_method_7_code 71 = .ok (.getfield 168, 3) := by decide +kernel
theorem d_M_door_74 : decode prog_14_method_7_code 74 = .ok (.iload_n 1, 1) := by decide +kernel
theorem d_M_door_75 : decode prog_14_method_7_code 75 = .ok (.iastore, 1) := by decide +kernel
theorem d_M_door_76 : decode prog_14_method_7_code 76 = .ok (.aload_n 0, 1) := by decide +kernel
theorem d_M_door_77 : decode prog_14_method_7_code 77 = .ok (.getfield 17, 3) := by decide +kernel
theorem d_M_door_80 : decode prog_14_method_7_code 80 = .ok (.aload_n 0, 1) := by decide +kernel
theorem d_M_door_81 : decode prog_14_method_7_code 81 = .ok (.getfield 168, 3) := by decide +kernel
theorem d_M_door_84 : decode prog_14_method_7_code 84 = .ok (.iload_n 2, 1) := by decide +kernel
theorem d_M_door_85 : decode prog_14_method_7_code 85 = .ok (.iastore, 1) := by decide +kernel
theorem d_M_door_86 : decode prog_14_method_7_code 86 = .ok (.aload_n 0, 1) := by decide +kernel
theorem d_M_door_87 : decode prog_14_method_7_code 87 = .ok (.getfield 20, 3) := by decide +kernel
theorem d_M_door_90 : decode prog_14_method_7_code 90 = .ok (.aload_n 0, 1) := by decide +kernel
theorem d_M_door_91 : decode prog_14_method_7_code 91 = .ok (.getfield 168, 3) := by decide +kernel
theorem d_M_door_94 : decode prog_14_method_7_code 94 = .ok (.iload_n 3, 1) := by decide +kernel
theorem d_M_door_95 : decode prog_14_method_7_code 95 = .ok (.iastore, 1) := by decide +kernel
theorem d_M_door_96 : decode prog_14_method_7_code 96 = .ok (.aload_n 0, 1) := by decide +kernel
theorem d_M_door_97 : decode prog_14_method_7_code 97 = .ok (.dup, 1) := by decide +kernel
theorem d_M_door_98 : decode prog_14_method_7_code 98 = .ok (.getfield 168, 3) := by decide +kernel
theorem d_M_door_101 : decode prog_14_method_7_code 101 = .ok (.iconst 1, 1) := by decide +kernel
theorem d_M_door_102 : decode prog_14_method_7_code 102 = .ok (.iadd, 1) := by decide +kernel
theorem d_M_door_103 : decode prog_14_method_7_code 103 = .ok (.putfield 168, 3) := by decide +kernel
theorem d_M_door_106 : decode prog_14_method_7_code 106 = .ok (.aload_n 0, 1) := by decide +kernel
theorem d_M_door_107 : decode prog_14_method_7_code 107 = .ok (.invokevirtual 171, 3) := by decide +kernel
theorem d_M_door_110 : decode prog_14_method_7_code 110 = .ok (.aload_n 0, 1) := by decide +kernel
theorem d_M_door_111 : decode prog_14_method_7_code 111 = .ok (.getfield 168, 3) := by decide +kernel
theorem d_M_door_114 : decode prog_14_method_7_code 114 = .ok (.iconst 1, 1) := by decide +kernel
theorem d_M_door_115 : decode prog_14_method_7_code 115 = .ok (.isub, 1) := by decide +kernel
theorem d_M_door_116 : decode prog_14_method_7_code 116 = .ok (.ireturn, 1) := by decide +kernel
theorem d_M_ways_0 : decode prog_14_method_8_code 0 = .ok (.iconst 0, 1) := by decide +kernel
theorem d_M_ways_1 : decode prog_14_method_8_code 1 = .ok (.istore_n 1, 1) := by decide +kernel
theorem d_M_ways_2 : decode prog_14_method_8_code 2 = .ok (.iload_n 1, 1) := by decide +kernel
theorem d_M_ways_3 : decode prog_14_method_8_code 3 = .ok (.bipush 12, 2) := by decide +kernel
theorem d_M_ways_5 : decode prog_14_method_8_code 5 = .ok (.if_icmp .ge 24, 3) := by decide +kernel
theorem d_M_ways_8 : decode prog_14_method_8_code 8 = .ok (.aload_n 0, 1) := by decide +kernel
theorem d_M_ways_9 : decode prog_14_method_8_code 9 = .ok (.getfield 30, 3) := by decide +kernel
theorem d_M_ways_12 : decode prog_14_method_8_code 12 = .ok (.iload_n 1, 1) := by decide +kernel
theorem d_M_ways_13 : decode prog_14_method_8_code 13 = .ok (.iload_n 1, 1) := by decide +kernel
theorem d_M_ways_14 : decode prog_14_method_8_code 14 = .ok (.ifCond .ne 7, 3) := by decide +kernel
theorem d_M_ways_17 : decode prog_14_method_8_code 17 = .ok (.iconst 0, 1) := by decide +kernel
theorem d_M_ways_18 : decode prog_14_method_8_code 18 = .ok (.goto 4, 3) := by decide +kernel
theorem d_M_ways_21 : decode prog_14_method_8_code 21 = .ok (.iconst (-1), 1) := by decide +kernel
theorem d_M_ways_22 : decode prog_14_method_8_code 22 = .ok (.iastore, 1) := by decide +kernel
theorem d_M_ways_23 : decode prog_14_method_8_code 23 = .ok (.iinc 1 1, 3) := by decide +kernel
theorem d_M_ways_26 : decode prog_14_method_8_code 26 = .ok (.goto (-24), 3) := by decide +kernel
theorem d_M_ways_29 : decode prog_14_method_8_code 29 = .ok (.iconst 1, 1) := by decide +kernel
theorem d_M_ways_30 : decode prog_14_method_8_code 30 = .ok (.istore_n 1, 1) := by decide +kernel
theorem d_M_ways_31 : decode prog_14_method_8_code 31 = .ok (.iload_n 1, 1) := by decide +kernel
theorem d_M_ways_32 : decode prog_14_method_8_code 32 = .ok (.ifCond .eq 157, 3) := by decide +kernel
theorem d_M_ways_35 : decode prog_14_method_8_code 35 = .ok (.iconst 0, 1) := by decide +kernel
theorem d_M_ways_36 : decode prog_14_method_8_code 36 = .ok (.istore_n 1, 1) := by decide +kernel
theorem d_M_ways_37 : decode prog_14_method_8_code 37 = .ok (.iconst 0, 1) := by decide +kernel
theorem d_M_ways_38 : decode prog_14_method_8_code 38 = .ok (.istore_n 2, 1) := by decide +kernel
theorem d_M_ways_39 : decode prog_14_method_8_code 39 = .ok (.iload_n 2, 1) := by decide +kernel
theorem d_M_ways_40 : decode prog_14_method_8_code 40 = .ok (.iconst 2, 1) := by decide +kernel
theorem d_M_ways_41 : decode prog_14_method_8_code 41 = .ok (.aload_n 0, 1) := by decide +kernel
theorem d_M_ways_42 : decode prog_14_method_8_code 42 = .ok (.getfield 168, 3) := by decide +kernel
theorem d_M_ways_45 : decode prog_14_method_8_code 45 = .ok (.imul, 1) := by decide +kernel
theorem d_M_ways_46 : decode prog_14_method_8_code 46 = .ok (.if_icmp .ge 140, 3) := by decide +kernel
theorem d_M_ways_49 : decode prog_14_method_8_code 49 = .ok (.iload_n 2, 1) := by decide +kernel
theorem d_M_ways_50 : decode prog_14_method_8_code 50 = .ok (.iconst 2, 1) := by decide +kernel
theorem d_M_ways_51 : decode prog_14_method_8_code 51 = .ok (.idiv, 1) := by decide +kernel
theorem d_M_ways_52 : decode prog_14_method_8_code 52 = .ok (.istore_n 3, 1) := by decide +kernel
theorem d_M_ways_53 : decode prog_14_method_8_code 53 = .ok (.iload_n 2, 1) := by decide +kernel
theorem d_M_ways_54 : decode prog_14_method_8_code 54 = .ok (.iconst 2, 1) := by decide +kernel
theorem d_M_ways_55 : decode prog_14_method_8_code 55 = .ok (.irem, 1) := by decide +kernel
theorem d_M_ways_56 : decode prog_14_method_8_code 56 = .ok (.ifCond .ne 12, 3) := by decide +kernel
theorem d_M_ways_59 : decode prog_14_method_8_code 59 = .ok (.aload_n 0, 1) := by decide +kernel
theorem d_M_ways_60 : decode prog_14_method_8_code 60 = .ok (.getfield 13, 3) := by decide +kernel
theorem d_M_ways_63 : decode prog_14_method_8_code 63 = .ok (.iload_n 3, 1) := by decide +kernel
theorem d_M_ways_64 : decode prog_14_method_8_code 64 = .ok (.iaload, 1) := by decide +kernel
theorem d_M_ways_65 : decode prog_14_method_8_code 65 = .ok (.goto 9, 3) := by decide +kernel
theorem d_M_ways_68 : decode prog_14_method_8_code 68 = .ok (.aload_n 0, 1) := by decide +kernel
theorem d_M_ways_69 : decode prog_14_method_8_code 69 = .ok (.getfield 17, 3) := by decide +kernel
theorem d_M_ways_72 : decode prog_14_method_8_code 72 = .ok (.iload_n 3, 1) := by decide +kernel
theorem d_M_ways_73 : decode prog_14_method_8_code 73 = .ok (.iaload, 1) := by decide +kernel
theorem d_M_ways_74 : decode prog_14_method_8_code 74 = .ok (.istore 4, 2) := by decide +kernel
theorem d_M_ways_76 : decode prog_14_method_8_code 76 = .ok (.iload_n 2, 1) := by decide +kernel
theorem d_M_ways_77 : decode prog_14_method_8_code 77 = .ok (.iconst 2, 1) := by decide +kernel
theorem d_M_ways_78 : decode prog_14_method_8_code 78 = .ok (.irem, 1) := by decide +kernel
theorem d_M_ways_79 : decode prog_14_method_8_code 79 = .ok (.ifCond .ne 12, 3) := by decide +kernel
theorem d_M_ways_82 : decode prog_14_method_8_code 82 = .ok (.aload_n 0, 1) := by decide +kernel
theorem d_M_ways_83 : decode prog_14_method_8_code 83 = .ok (.getfield 17, 3) := by decide +kernel
theorem d_M_ways_86 : decode prog_14_method_8_code 86 = .ok (.iload_n 3, 1) := by decide +kernel
theorem d_M_ways_87 : decode prog_14_method_8_code 87 = .ok (.iaload, 1) := by decide +kernel
theorem d_M_ways_88 : decode prog_14_method_8_code 88 = .ok (.goto 9, 3) := by decide +kernel
theorem d_M_ways_91 : decode prog_14_method_8_code 91 = .ok (.aload_n 0, 1) := by decide +kernel
theorem d_M_ways_92 : decode prog_14_method_8_code 92 = .ok (.getfield 13, 3) := by decide +kernel
theorem d_M_ways_95 : decode prog_14_method_8_code 95 = .ok (.iload_n 3, 1) := by decide +kernel
theorem d_M_ways_96 : decode prog_14_method_8_code 96 = .ok (.iaload, 1) := by decide +kernel
theorem d_M_ways_97 : decode prog_14_method_8_code 97 = .ok (.istore 5, 2) := by decide +kernel
theorem d_M_ways_99 : decode prog_14_method_8_code 99 = .ok (.aload_n 0, 1) := by decide +kernel
theorem d_M_ways_100 : decode prog_14_method_8_code 100 = .ok (.getfield 23, 3) := by decide +kernel
theorem d_M_ways_103 : decode prog_14_method_8_code 103 = .ok (.iload_n 3, 1) := by decide +kernel
theorem d_M_ways_104 : decode prog_14_method_8_code 104 = .ok (.baload, 1) := by decide +kernel
theorem d_M_ways_105 : decode prog_14_method_8_code 105 = .ok (.ifCond .ne 75, 3) := by decide +kernel
theorem d_M_ways_108 : decode prog_14_method_8_code 108 = .ok (.aload_n 0, 1) := by decide +kernel
theorem d_M_ways_109 : decode prog_14_method_8_code 109 = .ok (.getfield 30, 3) := by decide +kernel
theorem d_M_ways_112 : decode prog_14_method_8_code 112 = .ok (.iload 4, 2) := by decide +kernel
theorem d_M_ways_114 : decode prog_14_method_8_code 114 = .ok (.iaload, 1) := by decide +kernel
theorem d_M_ways_115 : decode prog_14_method_8_code 115 = .ok (.iconst (-1), 1) := by decide +kernel
theorem d_M_ways_116 : decode prog_14_method_8_code 116 = .ok (.if_icmp .ne 6, 3) := by decide +kernel
theorem d_M_ways_119 : decode prog_14_method_8_code 119 = .ok (.goto 61, 3) := by decide +kernel
theorem d_M_ways_122 : decode prog_14_method_8_code 122 = .ok (.aload_n 0, 1) := by decide +kernel
theorem d_M_ways_123 : decode prog_14_method_8_code 123 = .ok (.getfield 30, 3) := by decide +kernel
theorem d_M_ways_126 : decode prog_14_method_8_code 126 = .ok (.iload 5, 2) := by decide +kernel
theorem d_M_ways_128 : decode prog_14_method_8_code 128 = .ok (.iaload, 1) := by decide +kernel
theorem d_M_ways_129 : decode prog_14_method_8_code 129 = .ok (.iconst (-1), 1) := by decide +kernel
theorem d_M_ways_130 : decode prog_14_method_8_code 130 = .ok (.if_icmp .eq 27, 3) := by decide +kernel
theorem d_M_ways_133 : decode prog_14_method_8_code 133 = .ok (.aload_n 0, 1) := by decide +kernel
theorem d_M_ways_134 : decode prog_14_method_8_code 134 = .ok (.getfield 30, 3) := by decide +kernel
theorem d_M_ways_137 : decode prog_14_method_8_code 137 = .ok (.iload 5, 2) := by decide +kernel
theorem d_M_ways_139 : decode prog_14_method_8_code 139 = .ok (.iaload, 1) := by decide +kernel
theorem d_M_ways_140 : decode prog_14_method_8_code 140 = .ok (.aload_n 0, 1) := by decide +kernel
theorem d_M_ways_141 : decode prog_14_method_8_code 141 = .ok (.getfield 30, 3) := by decide +kernel
theorem d_M_ways_144 : decode prog_14_method_8_code 144 = .ok (.iload 4, 2) := by decide +kernel
theorem d_M_ways_146 : decode prog_14_method_8_code 146 = .ok (.iaload, 1) := by decide +kernel
theorem d_M_ways_147 : decode prog_14_method_8_code 147 = .ok (.aload_n 0, 1) := by decide +kernel
theorem d_M_ways_148 : decode prog_14_method_8_code 148 = .ok (.getfield 20, 3) := by decide +kernel
theorem d_M_ways_151 : decode prog_14_method_8_code 151 = .ok (.iload_n 3, 1) := by decide +kernel
theorem d_M_ways_152 : decode prog_14_method_8_code 152 = .ok (.iaload, 1) := by decide +kernel
theorem d_M_ways_153 : decode prog_14_method_8_code 153 = .ok (.iadd, 1) := by decide +kernel
theorem d_M_ways_154 : decode prog_14_method_8_code 154 = .ok (.if_icmp .le 26, 3) := by decide +kernel
theorem d_M_ways_157 : decode prog_14_method_8_code 157 = .ok (.aload_n 0, 1) := by decide +kernel
theorem d_M_ways_158 : decode prog_14_method_8_code 158 = .ok (.getfield 30, 3) := by decide +kernel
theorem d_M_ways_161 : decode prog_14_method_8_code 161 = .ok (.iload 5, 2) := by decide +kernel
theorem d_M_ways_163 : decode prog_14_method_8_code 163 = .ok (.aload_n 0, 1) := by decide +kernel
theorem d_M_ways_164 : decode prog_14_method_8_code 164 = .ok (.getfield 30, 3) := by decide +kernel
theorem d_M_ways_167 : decode prog_14_method_8_code 167 = .ok (.iload 4, 2) := by decide +kernel
theorem d_M_ways_169 : decode prog_14_method_8_code 169 = .ok (.iaload, 1) := by decide +kernel
theorem d_M_ways_170 : decode prog_14_method_8_code 170 = .ok (.aload_n 0, 1) := by decide +kernel
theorem d_M_ways_171 : decode prog_14_method_8_code 171 = .ok (.getfield 20, 3) := by decide +kernel
theorem d_M_ways_174 : decode prog_14_method_8_code 174 = .ok (.iload_n 3, 1) := by decide +kernel
theorem d_M_ways_175 : decode prog_14_method_8_code 175 = .ok (.iaload, 1) := by decide +kernel
theorem d_M_ways_176 : decode prog_14_method_8_code 176 = .ok (.iadd, 1) := by decide +kernel
theorem d_M_ways_177 : decode prog_14_method_8_code 177 = .ok (.iastore, 1) := by decide +kernel
theorem d_M_ways_178 : decode prog_14_method_8_code 178 = .ok (.iconst 1, 1) := by decide +kernel
theorem d_M_ways_179 : decode prog_14_method_8_code 179 = .ok (.istore_n 1, 1) := by decide +kernel
theorem d_M_ways_180 : decode prog_14_method_8_code 180 = .ok (.iinc 2 1, 3) := by decide +kernel
theorem d_M_ways_183 : decode prog_14_method_8_code 183 = .ok (.goto (-144), 3) := by decide +kernel
theorem d_M_ways_186 : decode prog_14_method_8_code 186 = .ok (.goto (-155), 3) := by decide +kernel
theorem d_M_ways_189 : decode prog_14_method_8_code 189 = .ok (.return_, 1) := by decide +kernel
theorem d_M_team_0 : decode prog_14_method_9_code 0 = .ok (.iload_n 1, 1) := by decide +kernel
theorem d_M_team_1 : decode prog_14_method_9_code 1 = .ok (.iconst 1, 1) := by decide +kernel
theorem d_M_team_2 : decode prog_14_method_9_code 2 = .ok (.if_icmp .lt 15, 3) := by decide +kernel
theorem d_M_team_5 : decode prog_14_method_9_code 5 = .ok (.iload_n 1, 1) := by decide +kernel
theorem d_M_team_6 : decode prog_14_method_9_code 6 = .ok (.iconst 4, 1) := by decide +kernel
theorem d_M_team_7 : decode prog_14_method_9_code 7 = .ok (.if_icmp .gt 10, 3) := by decide +kernel
theorem d_M_team_10 : decode prog_14_method_9_code 10 = .ok (.aload_n 0, 1) := by decide +kernel
theorem d_M_team_11 : decode prog_14_method_9_code 11 = .ok (.getfield 165, 3) := by decide +kernel
theorem d_M_team_14 : decode prog_14_method_9_code 14 = .ok (.ifCond .eq 10, 3) := by decide +kernel
theorem d_M_team_17 : decode prog_14_method_9_code 17 = .ok (.aload_n 0, 1) := by decide +kernel
theorem d_M_team_18 : decode prog_14_method_9_code 18 = .ok (.bipush (-6), 2) := by decide +kernel
theorem d_M_team_20 : decode prog_14_method_9_code 20 = .ok (.invokevirtual 161, 3) := by decide +kernel
theorem d_M_team_23 : decode prog_14_method_9_code 23 = .ok (.ireturn, 1) := by decide +kernel
theorem d_M_team_24 : decode prog_14_method_9_code 24 = .ok (.aload_n 0, 1) := by decide +kernel
theorem d_M_team_25 : decode prog_14_method_9_code 25 = .ok (.getfield 174, 3) := by decide +kernel
theorem d_M_team_28 : decode prog_14_method_9_code 28 = .ok (.iconst 3, 1) := by decide +kernel
theorem d_M_team_29 : decode prog_14_method_9_code 29 = .ok (.if_icmp .ne 10, 3) := by decide +kernel
theorem d_M_team_32 : decode prog_14_method_9_code 32 = .ok (.aload_n 0, 1) := by decide +kernel
theorem d_M_team_33 : decode prog_14_method_9_code 33 = .ok (.bipush (-7), 2) := by decide +kernel
theorem d_M_team_35 : decode prog_14_method_9_code 35 = .ok (.invokevirtual 161, 3) := by decide +kernel
theorem d_M_team_38 : decode prog_14_method_9_code 38 = .ok (.ireturn, 1) := by decide +kernel
theorem d_M_team_39 : decode prog_14_method_9_code 39 = .ok (.aload_n 0, 1) := by decide +kernel
theorem d_M_team_40 : decode prog_14_method_9_code 40 = .ok (.getfield 57, 3) := by decide +kernel
theorem d_M_team_43 : decode prog_14_method_9_code 43 = .ok (.aload_n 0, 1) := by decide +kernel
theorem d_M_team_44 : decode prog_14_method_9_code 44 = .ok (.getfield 174, 3) := by decide +kernel
theorem d_M_team_47 : decode prog_14_method_9_code 47 = .ok (.iload_n 1, 1) := by decide +kernel
theorem d_M_team_48 : decode prog_14_method_9_code 48 = .ok (.iastore, 1) := by decide +kernel
theorem d_M_team_49 : decode prog_14_method_9_code 49 = .ok (.aload_n 0, 1) := by decide +kernel
theorem d_M_team_50 : decode prog_14_method_9_code 50 = .ok (.dup, 1) := by decide +kernel
theorem d_M_team_51 : decode prog_14_method_9_code 51 = .ok (.getfield 174, 3) := by decide +kernel
theorem d_M_team_54 : decode prog_14_method_9_code 54 = .ok (.dup_x1, 1) := by decide +kernel
theorem d_M_team_55 : decode prog_14_method_9_code 55 = .ok (.iconst 1, 1) := by decide +kernel
theorem d_M_team_56 : decode prog_14_method_9_code 56 = .ok (.iadd, 1) := by decide +kernel
theorem d_M_team_57 : decode prog_14_method_9_code 57 = .ok (.putfield 174, 3) := by decide +kernel
theorem d_M_team_60 : decode prog_14_method_9_code 60 = .ok (.ireturn, 1) := by decide +kernel
theorem d_M_puts_0 : decode prog_14_method_10_code 0 = .ok (.aload_n 0, 1) := by decide +kernel
theorem d_M_puts_1 : decode prog_14_method_10_code 1 = .ok (.getfield 33, 3) := by decide +kernel
theorem d_M_puts_4 : decode prog_14_method_10_code 4 = .ok (.aload_n 0, 1) := by decide +kernel
theorem d_M_puts_5 : decode prog_14_method_10_code 5 = .ok (.getfield 151, 3) := by decide +kernel
theorem d_M_puts_8 : decode prog_14_method_10_code 8 = .ok (.iload_n 1, 1) := by decide +kernel
theorem d_M_puts_9 : decode prog_14_method_10_code 9 = .ok (.iastore, 1) := by decide +kernel
theorem d_M_puts_10 : decode prog_14_method_10_code 10 = .ok (.aload_n 0, 1) := by decide +kernel
theorem d_M_puts_11 : decode prog_14_method_10_code 11 = .ok (.getfield 36, 3) := by decide +kernel
theorem d_M_puts_14 : decode prog_14_method_10_code 14 = .ok (.aload_n 0, 1) := by decide +kernel
theorem d_M_puts_15 : decode prog_14_method_10_code 15 = .ok (.getfield 151, 3) := by decide +kernel
theorem d_M_puts_18 : decode prog_14_method_10_code 18 = .ok (.iload_n 2, 1) := by decide +kernel
theorem d_M_puts_19 : decode prog_14_method_10_code 19 = .ok (.iastore, 1) := by decide +kernel
theorem d_M_puts_20 : decode prog_14_method_10_code 20 = .ok (.aload_n 0, 1) := by decide +kernel
theorem d_M_puts_21 : decode prog_14_method_10_code 21 = .ok (.getfield 39, 3) := by decide +kernel
theorem d_M_puts_24 : decode prog_14_method_10_code 24 = .ok (.aload_n 0, 1) := by decide +kernel
theorem d_M_puts_25 : decode prog_14_method_10_code 25 = .ok (.getfield 151, 3) := by decide +kernel
theorem d_M_puts_28 : decode prog_14_method_10_code 28 = .ok (.iload_n 3, 1) := by decide +kernel
theorem d_M_puts_29 : decode prog_14_method_10_code 29 = .ok (.iastore, 1) := by decide +kernel
theorem d_M_puts_30 : decode prog_14_method_10_code 30 = .ok (.aload_n 0, 1) := by decide +kernel
theorem d_M_puts_31 : decode prog_14_method_10_code 31 = .ok (.getfield 42, 3) := by decide +kernel
theorem d_M_puts_34 : decode prog_14_method_10_code 34 = .ok (.aload_n 0, 1) := by decide +kernel
theorem d_M_puts_35 : decode prog_14_method_10_code 35 = .ok (.getfield 151, 3) := by decide +kernel
theorem d_M_puts_38 : decode prog_14_method_10_code 38 = .ok (.iload 5, 2) := by decide +kernel
theorem d_M_puts_40 : decode prog_14_method_10_code 40 = .ok (.iastore, 1) := by decide +kernel
theorem d_M_puts_41 : decode prog_14_method_10_code 41 = .ok (.aload_n 0, 1) := by decide +kernel
theorem d_M_puts_42 : decode prog_14_method_10_code 42 = .ok (.getfield 45, 3) := by decide +kernel
theorem d_M_puts_45 : decode prog_14_method_10_code 45 = .ok (.aload_n 0, 1) := by decide +kernel
theorem d_M_puts_46 : decode prog_14_method_10_code 46 = .ok (.getfield 151, 3) := by decide +kernel
theorem d_M_puts_49 : decode prog_14_method_10_code 49 = .ok (.bipush 100, 2) := by decide +kernel
theorem d_M_puts_51 : decode prog_14_method_10_code 51 = .ok (.iload 4, 2) := by decide +kernel
theorem d_M_puts_53 : decode prog_14_method_10_code 53 = .ok (.iadd, 1) := by decide +kernel
theorem d_M_puts_54 : decode prog_14_method_10_code 54 = .ok (.iastore, 1) := by decide +kernel
theorem d_M_puts_55 : decode prog_14_method_10_code 55 = .ok (.aload_n 0, 1) := by decide +kernel
theorem d_M_puts_56 : decode prog_14_method_10_code 56 = .ok (.getfield 54, 3) := by decide +kernel
theorem d_M_puts_59 : decode prog_14_method_10_code 59 = .ok (.aload_n 0, 1) := by decide +kernel
theorem d_M_puts_60 : decode prog_14_method_10_code 60 = .ok (.getfield 151, 3) := by decide +kernel
theorem d_M_puts_63 : decode prog_14_method_10_code 63 = .ok (.iconst (-1), 1) := by decide +kernel
theorem d_M_puts_64 : decode prog_14_method_10_code 64 = .ok (.iastore, 1) := by decide +kernel
theorem d_M_puts_65 : decode prog_14_method_10_code 65 = .ok (.aload_n 0, 1) := by decide +kernel
theorem d_M_puts_66 : decode prog_14_method_10_code 66 = .ok (.dup, 1) := by decide +kernel
theorem d_M_puts_67 : decode prog_14_method_10_code 67 = .ok (.getfield 151, 3) := by decide +kernel
theorem d_M_puts_70 : decode prog_14_method_10_code 70 = .ok (.dup_x1, 1) := by decide +kernel
theorem d_M_puts_71 : decode prog_14_method_10_code 71 = .ok (.iconst 1, 1) := by decide +kernel
theorem d_M_puts_72 : decode prog_14_method_10_code 72 = .ok (.iadd, 1) := by decide +kernel
theorem d_M_puts_73 : decode prog_14_method_10_code 73 = .ok (.putfield 151, 3) := by decide +kernel
theorem d_M_puts_76 : decode prog_14_method_10_code 76 = .ok (.ireturn, 1) := by decide +kernel
theorem d_M_thing_0 : decode prog_14_method_11_code 0 = .ok (.iload_n 1, 1) := by decide +kernel
theorem d_M_thing_1 : decode prog_14_method_11_code 1 = .ok (.ifCond .lt 21, 3) := by decide +kernel
theorem d_M_thing_4 : decode prog_14_method_11_code 4 = .ok (.iload_n 1, 1) := by decide +kernel
theorem d_M_thing_5 : decode prog_14_method_11_code 5 = .ok (.iconst 3, 1) := by decide +kernel
theorem d_M_thing_6 : decode prog_14_method_11_code 6 = .ok (.if_icmp .gt 16, 3) := by decide +kernel
theorem d_M_thing_9 : decode prog_14_method_11_code 9 = .ok (.iload 4, 2) := by decide +kernel
theorem d_M_thing_11 : decode prog_14_method_11_code 11 = .ok (.iconst 1, 1) := by decide +kernel
theorem d_M_thing_12 : decode prog_14_method_11_code 12 = .ok (.if_icmp .lt 10, 3) := by decide +kernel
theorem d_M_thing_15 : decode prog_14_method_11_code 15 = .ok (.iload 4, 2) := by decide +kernel
theorem d_M_thing_17 : decode prog_14_method_11_code 17 = .ok (.bipush 11, 2) := by decide +kernel
theorem d_M_thing_19 : decode prog_14_method_11_code 19 = .ok (.if_icmp .le 9, 3) := by decide +kernel
theorem d_M_thing_22 : decode prog_14_method_11_code 22 = .ok (.aload_n 0, 1) := by decide +kernel
theorem d_M_thing_23 : decode prog_14_method_11_code 23 = .ok (.iconst (-1), 1) := by decide +kernel
theorem d_M_thing_24 : decode prog_14_method_11_code 24 = .ok (.invokevirtual 161, 3) := by decide +kernel
theorem d_M_thing_27 : decode prog_14_method_11_code 27 = .ok (.ireturn, 1) := by decide +kernel
theorem d_M_thing_28 : decode prog_14_method_11_code 28 = .ok (.iload_n 2, 1) := by decide +kernel
theorem d_M_thing_29 : decode prog_14_method_11_code 29 = .ok (.iconst 1, 1) := by decide +kernel
theorem d_M_thing_30 : decode prog_14_method_11_code 30 = .ok (.if_icmp .lt 38, 3) := by decide +kernel
theorem d_M_thing_33 : decode prog_14_method_11_code 33 = .ok (.iload_n 2, 1) := by decide +kernel
theorem d_M_thing_34 : decode prog_14_method_11_code 34 = .ok (.bipush 100, 2) := by decide +kernel
theorem d_M_thing_36 : decode prog_14_method_11_code 36 = .ok (.if_icmp .gt 32, 3) := by decide +kernel
theorem d_M_thing_39 : decode prog_14_method_11_code 39 = .ok (.iload_n 3, 1) := by decide +kernel
theorem d_M_thing_40 : decode prog_14_method_11_code 40 = .ok (.iconst 1, 1) := by decide +kernel
theorem d_M_thing_41 : decode prog_14_method_11_code 41 = .ok (.if_icmp .lt 27, 3) := by decide +kernel
theorem d_M_thing_44 : decode prog_14_method_11_code 44 = .ok (.iload_n 3, 1) := by decide +kernel
theorem d_M_thing_45 : decode prog_14_method_11_code 45 = .ok (.iconst 4, 1) := by decide +kernel
theorem d_M_thing_46 : decode prog_14_method_11_code 46 = .ok (.if_icmp .gt 22, 3) := by decide +kernel
theorem d_M_thing_49 : decode prog_14_method_11_code 49 = .ok (.iload 5, 2) := by decide +kernel
theorem d_M_thing_51 : decode prog_14_method_11_code 51 = .ok (.ifCond .lt 17, 3) := by decide +kernel
theorem d_M_thing_54 : decode prog_14_method_11_code 54 = .ok (.iload 5, 2) := by decide +kernel
theorem d_M_thing_56 : decode prog_14_method_11_code 56 = .ok (.bipush 20, 2) := by decide +kernel
theorem d_M_thing_58 : decode prog_14_method_11_code 58 = .ok (.if_icmp .gt 10, 3) := by decide +kernel
theorem d_M_thing_61 : decode prog_14_method_11_code 61 = .ok (.aload_n 0, 1) := by decide +kernel
theorem d_M_thing_62 : decode prog_14_method_11_code 62 = .ok (.getfield 165, 3) := by decide +kernel
theorem d_M_thing_65 : decode prog_14_method_11_code 65 = .ok (.ifCond .eq 10, 3) := by decide +kernel
theorem d_M_thing_68 : decode prog_14_method_11_code 68 = .ok (.aload_n 0, 1) := by decide +kernel
theorem d_M_thing_69 : decode prog_14_method_11_code 69 = .ok (.bipush (-6), 2) := by decide +kernel
theorem d_M_thing_71 : decode prog_14_method_11_code 71 = .ok (.invokevirtual 161, 3) := by decide +kernel
theorem d_M_thing_74 : decode prog_14_method_11_code 74 = .ok (.ireturn, 1) := by decide +kernel
theorem d_M_thing_75 : decode prog_14_method_11_code 75 = .ok (.aload_n 0, 1) := by decide +kernel
theorem d_M_thing_76 : decode prog_14_method_11_code 76 = .ok (.getfield 151, 3) := by decide +kernel
theorem d_M_thing_79 : decode prog_14_method_11_code 79 = .ok (.bipush 16, 2) := by decide +kernel
theorem d_M_thing_81 : decode prog_14_method_11_code 81 = .ok (.if_icmp .ne 10, 3) := by decide +kernel
theorem d_M_thing_84 : decode prog_14_method_11_code 84 = .ok (.aload_n 0, 1) := by decide +kernel
theorem d_M_thing_85 : decode prog_14_method_11_code 85 = .ok (.bipush (-7), 2) := by decide +kernel
theorem d_M_thing_87 : decode prog_14_method_11_code 87 = .ok (.invokevirtual 161, 3) := by decide +kernel
theorem d_M_thing_90 : decode prog_14_method_11_code 90 = .ok (.ireturn, 1) := by decide +kernel
theorem d_M_thing_91 : decode prog_14_method_11_code 91 = .ok (.aload_n 0, 1) := by decide +kernel
theorem d_M_thing_92 : decode prog_14_method_11_code 92 = .ok (.iload_n 1, 1) := by decide +kernel
theorem d_M_thing_93 : decode prog_14_method_11_code 93 = .ok (.iload_n 2, 1) := by decide +kernel
theorem d_M_thing_94 : decode prog_14_method_11_code 94 = .ok (.iload_n 3, 1) := by decide +kernel
theorem d_M_thing_95 : decode prog_14_method_11_code 95 = .ok (.iload 4, 2) := by decide +kernel
theorem d_M_thing_97 : decode prog_14_method_11_code 97 = .ok (.iload 5, 2) := by decide +kernel
theorem d_M_thing_99 : decode prog_14_method_11_code 99 = .ok (.invokevirtual 177, 3) := by decide +kernel
theorem d_M_thing_102 : decode prog_14_method_11_code 102 = .ok (.ireturn, 1) := by decide +kernel
theorem d_M_letter_0 : decode prog_14_method_12_code 0 = .ok (.aload_n 0, 1) := by decide +kernel
theorem d_M_letter_1 : decode prog_14_method_12_code 1 = .ok (.getfield 181, 3) := by decide +kernel
theorem d_M_letter_4 : decode prog_14_method_12_code 4 = .ok (.aload_n 0, 1) := by decide +kernel
theorem d_M_letter_5 : decode prog_14_method_12_code 5 = .ok (.getfield 72, 3) := by decide +kernel
theorem d_M_letter_8 : decode prog_14_method_12_code 8 = .ok (.iload_n 1, 1) := by decide +kernel
theorem d_M_letter_9 : decode prog_14_method_12_code 9 = .ok (.iaload, 1) := by decide +kernel
theorem d_M_letter_10 : decode prog_14_method_12_code 10 = .ok (.if_icmp .ge 21, 3) := by decide +kernel
theorem d_M_letter_13 : decode prog_14_method_12_code 13 = .ok (.aload_n 0, 1) := by decide +kernel
theorem d_M_letter_14 : decode prog_14_method_12_code 14 = .ok (.getfield 78, 3) := by decide +kernel
theorem d_M_letter_17 : decode prog_14_method_12_code 17 = .ok (.bipush 60, 2) := by decide +kernel
theorem d_M_letter_19 : decode prog_14_method_12_code 19 = .ok (.iload_n 1, 1) := by decide +kernel
theorem d_M_letter_20 : decode prog_14_method_12_code 20 = .ok (.imul, 1) := by decide +kernel
theorem d_M_letter_21 : decode prog_14_method_12_code 21 = .ok (.aload_n 0, 1) := by decide +kernel
theorem d_M_letter_22 : decode prog_14_method_12_code 22 = .ok (.getfield 181, 3) := by decide +kernel
theorem d_M_letter_25 : decode prog_14_method_12_code 25 = .ok (.iadd, 1) := by decide +kernel
theorem d_M_letter_26 : decode prog_14_method_12_code 26 = .ok (.laload, 1) := by decide +kernel
theorem d_M_letter_27 : decode prog_14_method_12_code 27 = .ok (.l2i, 1) := by decide +kernel
theorem d_M_letter_28 : decode prog_14_method_12_code 28 = .ok (.goto 5, 3) := by decide +kernel
theorem d_M_letter_31 : decode prog_14_method_12_code 31 = .ok (.bipush (-2), 2) := by decide +kernel
theorem d_M_letter_33 : decode prog_14_method_12_code 33 = .ok (.ireturn, 1) := by decide +kernel
theorem d_M_isEnd_0 : decode prog_14_method_13_code 0 = .ok (.aload_n 0, 1) := by decide +kernel
theorem d_M_isEnd_1 : decode prog_14_method_13_code 1 = .ok (.getfield 181, 3) := by decide +kernel
theorem d_M_isEnd_4 : decode prog_14_method_13_code 4 = .ok (.aload_n 0, 1) := by decide +kernel
theorem d_M_isEnd_5 : decode prog_14_method_13_code 5 = .ok (.getfield 72, 3) := by decide +kernel
theorem d_M_isEnd_8 : decode prog_14_method_13_code 8 = .ok (.iload_n 1, 1) := by decide +kernel
theorem d_M_isEnd_9 : decode prog_14_method_13_code 9 = .ok (.iaload, 1) := by decide +kernel
theorem d_M_isEnd_10 : decode prog_14_method_13_code 10 = .ok (.if_icmp .lt 7, 3) := by decide +kernel
theorem d_M_isEnd_13 : decode prog_14_method_13_code 13 = .ok (.iconst 1, 1) := by decide +kernel
theorem d_M_isEnd_14 : decode prog_14_method_13_code 14 = .ok (.goto 4, 3) := by decide +kernel
theorem d_M_isEnd_17 : decode prog_14_method_13_code 17 = .ok (.iconst 0, 1) := by decide +kernel
theorem d_M_isEnd_18 : decode prog_14_method_13_code 18 = .ok (.ireturn, 1) := by decide +kernel
theorem d_M_number_0 : decode prog_14_method_14_code 0 = .ok (.aload_n 0, 1) := by decide +kernel
theorem d_M_number_1 : decode prog_14_method_14_code 1 = .ok (.iload_n 1, 1) := by decide +kernel
theorem d_M_number_2 : decode prog_14_method_14_code 2 = .ok (.invokevirtual 184, 3) := by decide +kernel
theorem d_M_number_5 : decode prog_14_method_14_code 5 = .ok (.ifCond .ne 12, 3) := by decide +kernel
theorem d_M_number_8 : decode prog_14_method_14_code 8 = .ok (.aload_n 0, 1) := by decide +kernel
theorem d_M_number_9 : decode prog_14_method_14_code 9 = .ok (.iload_n 1, 1) := by decide +kernel
theorem d_M_number_10 : decode prog_14_method_14_code 10 = .ok (.invokevirtual 187, 3) := by decide +kernel
theorem d_M_number_13 : decode prog_14_method_14_code 13 = .ok (.iload_n 2, 1) := by decide +kernel
theorem d_M_number_14 : decode prog_14_method_14_code 14 = .ok (.if_icmp .eq 5, 3) := by decide +kernel
theorem d_M_number_17 : decode prog_14_method_14_code 17 = .ok (.iconst (-1), 1) := by decide +kernel
theorem d_M_number_18 : decode prog_14_method_14_code 18 = .ok (.ireturn, 1) := by decide +kernel
theorem d_M_number_19 : decode prog_14_method_14_code 19 = .ok (.aload_n 0, 1) := by decide +kernel
theorem d_M_number_20 : decode prog_14_method_14_code 20 = .ok (.dup, 1) := by decide +kernel
theorem d_M_number_21 : decode prog_14_method_14_code 21 = .ok (.getfield 181, 3) := by decide +kernel
theorem d_M_number_24 : decode prog_14_method_14_code 24 = .ok (.iconst 1, 1) := by decide +kernel
theorem d_M_number_25 : decode prog_14_method_14_code 25 = .ok (.iadd, 1) := by decide +kernel
theorem d_M_number_26 : decode prog_14_method_14_code 26 = .ok (.putfield 181, 3) := by decide +kernel
theorem d_M_number_29 : decode prog_14_method_14_code 29 = .ok (.iconst 0, 1) := by decide +kernel
theorem d_M_number_30 : decode prog_14_method_14_code 30 = .ok (.istore 5, 2) := by decide +kernel
theorem d_M_number_32 : decode prog_14_method_14_code 32 = .ok (.iconst 0, 1) := by decide +kernel
theorem d_M_number_33 : decode prog_14_method_14_code 33 = .ok (.istore 6, 2) := by decide +kernel
theorem d_M_number_35 : decode prog_14_method_14_code 35 = .ok (.aload_n 0, 1) := by decide +kernel
theorem d_M_number_36 : decode prog_14_method_14_code 36 = .ok (.iload_n 1, 1) := by decide +kernel
theorem d_M_number_37 : decode prog_14_method_14_code 37 = .ok (.invokevirtual 184, 3) := by decide +kernel
theorem d_M_number_40 : decode prog_14_method_14_code 40 = .ok (.ifCond .ne 96, 3) := by decide +kernel
theorem d_M_number_43 : decode prog_14_method_14_code 43 = .ok (.aload_n 0, 1) := by decide +kernel
theorem d_M_number_44 : decode prog_14_method_14_code 44 = .ok (.iload_n 1, 1) := by decide +kernel
theorem d_M_number_45 : decode prog_14_method_14_code 45 = .ok (.invokevirtual 187, 3) := by decide +kernel
theorem d_M_number_48 : decode prog_14_method_14_code 48 = .ok (.bipush 48, 2) := by decide +kernel
theorem d_M_number_50 : decode prog_14_method_14_code 50 = .ok (.if_icmp .lt 86, 3) := by decide +kernel
theorem d_M_number_53 : decode prog_14_method_14_code 53 = .ok (.aload_n 0, 1) := by decide +kernel
theorem d_M_number_54 : decode prog_14_method_14_code 54 = .ok (.iload_n 1, 1) := by decide +kernel
theorem d_M_number_55 : decode prog_14_method_14_code 55 = .ok (.invokevirtual 187, 3) := by decide +kernel
theorem d_M_number_58 : decode prog_14_method_14_code 58 = .ok (.bipush 57, 2) := by decide +kernel
theorem d_M_number_60 : decode prog_14_method_14_code 60 = .ok (.if_icmp .gt 76, 3) := by decide +kernel
theorem d_M_number_63 : decode prog_14_method_14_code 63 = .ok (.bipush 10, 2) := by decide +kernel
theorem d_M_number_65 : decode prog_14_method_14_code 65 = .ok (.iload 5, 2) := by decide +kernel
theorem d_M_number_67 : decode prog_14_method_14_code 67 = .ok (.imul, 1) := by decide +kernel
theorem d_M_number_68 : decode prog_14_method_14_code 68 = .ok (.aload_n 0, 1) := by decide +kernel
theorem d_M_number_69 : decode prog_14_method_14_code 69 = .ok (.iload_n 1, 1) := by decide +kernel
theorem d_M_number_70 : decode prog_14_method_14_code 70 = .ok (.invokevirtual 187, 3) := by decide +kernel
theorem d_M_number_73 : decode prog_14_method_14_code 73 = .ok (.iadd, 1) := by decide +kernel
theorem d_M_number_74 : decode prog_14_method_14_code 74 = .ok (.bipush 48, 2) := by decide +kernel
theorem d_M_number_76 : decode prog_14_method_14_code 76 = .ok (.isub, 1) := by decide +kernel
theorem d_M_number_77 : decode prog_14_method_14_code 77 = .ok (.istore 7, 2) := by decide +kernel
theorem d_M_number_79 : decode prog_14_method_14_code 79 = .ok (.iload 6, 2) := by decide +kernel
theorem d_M_number_81 : decode prog_14_method_14_code 81 = .ok (.ifCond .le 8, 3) := by decide +kernel
theorem d_M_number_84 : decode prog_14_method_14_code 84 = .ok (.iload 5, 2) := by decide +kernel
theorem d_M_number_86 : decode prog_14_method_14_code 86 = .ok (.ifCond .eq 50, 3) := by decide +kernel
theorem d_M_number_89 : decode prog_14_method_14_code 89 = .ok (.iload 7, 2) := by decide +kernel
theorem d_M_number_91 : decode prog_14_method_14_code 91 = .ok (.iload 4, 2) := by decide +kernel
theorem d_M_number_93 : decode prog_14_method_14_code 93 = .ok (.if_icmp .le 6, 3) := by decide +kernel
theorem d_M_number_96 : decode prog_14_method_14_code 96 = .ok (.goto 40, 3) := by decide +kernel
theorem d_M_number_99 : decode prog_14_method_14_code 99 = .ok (.iload 6, 2) := by decide +kernel
theorem d_M_number_101 : decode prog_14_method_14_code 101 = .ok (.ifCond .ne 15, 3) := by decide +kernel
theorem d_M_number_104 : decode prog_14_method_14_code 104 = .ok (.iload 7, 2) := by decide +kernel
theorem d_M_number_106 : decode prog_14_method_14_code 106 = .ok (.ifCond .ne 10, 3) := by decide +kernel
theorem d_M_number_109 : decode prog_14_method_14_code 109 = .ok (.iload_n 3, 1) := by decide +kernel
theorem d_M_number_110 : decode prog_14_method_14_code 110 = .ok (.ifCond .le 6, 3) := by decide +kernel
theorem d_M_number_113 : decode prog_14_method_14_code 113 = .ok (.goto 23, 3) := by decide +kernel
theorem d_M_number_116 : decode prog_14_method_14_code 116 = .ok (.iload 7, 2) := by decide +kernel
theorem d_M_number_118 : decode prog_14_method_14_code 118 = .ok (.istore 5, 2) := by decide +kernel
theorem d_M_number_120 : decode prog_14_method_14_code 120 = .ok (.iinc 6 1, 3) := by decide +kernel
theorem d_M_number_123 : decode prog_14_method_14_code 123 = .ok (.aload_n 0, 1) := by decide +kernel
theorem d_M_number_124 : decode prog_14_method_14_code 124 = .ok (.dup, 1) := by decide +kernel
theorem d_M_number_125 : decode prog_14_method_14_code 125 = .ok (.getfield 181, 3) := by decide +kernel
theorem d_M_number_128 : decode prog_14_method_14_code 128 = .ok (.iconst 1, 1) := by decide +kernel
theorem d_M_number_129 : decode prog_14_method_14_code 129 = .ok (.iadd, 1) := by decide +kernel
theorem d_M_number_130 : decode prog_14_method_14_code 130 = .ok (.putfield 181, 3) := by decide +kernel
theorem d_M_number_133 : decode prog_14_method_14_code 133 = .ok (.goto (-98), 3) := by decide +kernel
theorem d_M_number_136 : decode prog_14_method_14_code 136 = .ok (.iload 6, 2) := by decide +kernel
theorem d_M_number_138 : decode prog_14_method_14_code 138 = .ok (.ifCond .ne 7, 3) := by decide +kernel
theorem d_M_number_141 : decode prog_14_method_14_code 141 = .ok (.iconst (-1), 1) := by decide +kernel
theorem d_M_number_142 : decode prog_14_method_14_code 142 = .ok (.goto 5, 3) := by decide +kernel
theorem d_M_number_145 : decode prog_14_method_14_code 145 = .ok (.iload 5, 2) := by decide +kernel
theorem d_M_number_147 : decode prog_14_method_14_code 147 = .ok (.ireturn, 1) := by decide +kernel
theorem d_M_label_0 : decode prog_14_method_15_code 0 = .ok (.iload_n 1, 1) := by decide +kernel
theorem d_M_label_1 : decode prog_14_method_15_code 1 = .ok (.invokestatic 190, 3) := by decide +kernel
theorem d_M_label_4 : decode prog_14_method_15_code 4 = .ok (.ifCond .ne 9, 3) := by decide +kernel
theorem d_M_label_7 : decode prog_14_method_15_code 7 = .ok (.aload_n 0, 1) := by decide +kernel
theorem d_M_label_8 : decode prog_14_method_15_code 8 = .ok (.iconst (-1), 1) := by decide +kernel
theorem d_M_label_9 : decode prog_14_method_15_code 9 = .ok (.invokevirtual 161, 3) := by decide +kernel
theorem d_M_label_12 : decode prog_14_method_15_code 12 = .ok (.ireturn, 1) := by decide +kernel
theorem d_M_label_13 : decode prog_14_method_15_code 13 = .ok (.aload_n 0, 1) := by decide +kernel
theorem d_M_label_14 : decode prog_14_method_15_code 14 = .ok (.getfield 66, 3) := by decide +kernel
theorem d_M_label_17 : decode prog_14_method_15_code 17 = .ok (.iload_n 1, 1) := by decide +kernel
theorem d_M_label_18 : decode prog_14_method_15_code 18 = .ok (.iaload, 1) := by decide +kernel
theorem d_M_label_19 : decode prog_14_method_15_code 19 = .ok (.iconst 2, 1) := by decide +kernel
theorem d_M_label_20 : decode prog_14_method_15_code 20 = .ok (.if_icmp .ne 10, 3) := by decide +kernel
theorem d_M_label_23 : decode prog_14_method_15_code 23 = .ok (.aload_n 0, 1) := by decide +kernel
theorem d_M_label_24 : decode prog_14_method_15_code 24 = .ok (.bipush (-2), 2) := by decide +kernel
theorem d_M_label_26 : decode prog_14_method_15_code 26 = .ok (.invokevirtual 161, 3) := by decide +kernel
theorem d_M_label_29 : decode prog_14_method_15_code 29 = .ok (.ireturn, 1) := by decide +kernel
theorem d_M_label_30 : decode prog_14_method_15_code 30 = .ok (.aload_n 0, 1) := by decide +kernel
theorem d_M_label_31 : decode prog_14_method_15_code 31 = .ok (.getfield 66, 3) := by decide +kernel
theorem d_M_label_34 : decode prog_14_method_15_code 34 = .ok (.iload_n 1, 1) := by decide +kernel
theorem d_M_label_35 : decode prog_14_method_15_code 35 = .ok (.iaload, 1) := by decide +kernel
theorem d_M_label_36 : decode prog_14_method_15_code 36 = .ok (.ifCond .ne 10, 3) := by decide +kernel
theorem d_M_label_39 : decode prog_14_method_15_code 39 = .ok (.aload_n 0, 1) := by decide +kernel
theorem d_M_label_40 : decode prog_14_method_15_code 40 = .ok (.bipush (-3), 2) := by decide +kernel
theorem d_M_label_42 : decode prog_14_method_15_code 42 = .ok (.invokevirtual 161, 3) := by decide +kernel
theorem d_M_label_45 : decode prog_14_method_15_code 45 = .ok (.ireturn, 1) := by decide +kernel
theorem d_M_label_46 : decode prog_14_method_15_code 46 = .ok (.aload_n 0, 1) := by decide +kernel
theorem d_M_label_47 : decode prog_14_method_15_code 47 = .ok (.iconst 0, 1) := by decide +kernel
theorem d_M_label_48 : decode prog_14_method_15_code 48 = .ok (.putfield 181, 3) := by decide +kernel
theorem d_M_label_51 : decode prog_14_method_15_code 51 = .ok (.aload_n 0, 1) := by decide +kernel
theorem d_M_label_52 : decode prog_14_method_15_code 52 = .ok (.iload_n 1, 1) := by decide +kernel
theorem d_M_label_53 : decode prog_14_method_15_code 53 = .ok (.bipush 107, 2) := by decide +kernel
theorem d_M_label_55 : decode prog_14_method_15_code 55 = .ok (.iconst 0, 1) := by decide +kernel
theorem d_M_label_56 : decode prog_14_method_15_code 56 = .ok (.iconst 3, 1) := by decide +kernel
theorem d_M_label_57 : decode prog_14_method_15_code 57 = .ok (.invokevirtual 193, 3) := by decide +kernel
theorem d_M_label_60 : decode prog_14_method_15_code 60 = .ok (.istore_n 2, 1) := by decide +kernel
theorem d_M_label_61 : decode prog_14_method_15_code 61 = .ok (.iload_n 2, 1) := by decide +kernel
theorem d_M_label_62 : decode prog_14_method_15_code 62 = .ok (.iconst (-1), 1) := by decide +kernel
theorem d_M_label_63 : decode prog_14_method_15_code 63 = .ok (.if_icmp .ne 7, 3) := by decide +kernel
theorem d_M_label_66 : decode prog_14_method_15_code 66 = .ok (.iconst (-1), 1) := by decide +kernel
theorem d_M_label_67 : decode prog_14_method_15_code 67 = .ok (.goto 13, 3) := by decide +kernel
theorem d_M_label_70 : decode prog_14_method_15_code 70 = .ok (.aload_n 0, 1) := by decide +kernel
theorem d_M_label_71 : decode prog_14_method_15_code 71 = .ok (.iload_n 1, 1) := by decide +kernel
theorem d_M_label_72 : decode prog_14_method_15_code 72 = .ok (.bipush 119, 2) := by decide +kernel
theorem d_M_label_74 : decode prog_14_method_15_code 74 = .ok (.iconst 1, 1) := by decide +kernel
theorem d_M_label_75 : decode prog_14_method_15_code 75 = .ok (.bipush 100, 2) := by decide +kernel
theorem d_M_label_77 : decode prog_14_method_15_code 77 = .ok (.invokevirtual 193, 3) := by decide +kernel
theorem d_M_label_80 : decode prog_14_method_15_code 80 = .ok (.istore_n 3, 1) := by decide +kernel
theorem d_M_label_81 : decode prog_14_method_15_code 81 = .ok (.iload_n 3, 1) := by decide +kernel
theorem d_M_label_82 : decode prog_14_method_15_code 82 = .ok (.iconst (-1), 1) := by decide +kernel
theorem d_M_label_83 : decode prog_14_method_15_code 83 = .ok (.if_icmp .ne 7, 3) := by decide +kernel
theorem d_M_label_86 : decode prog_14_method_15_code 86 = .ok (.iconst (-1), 1) := by decide +kernel
theorem d_M_label_87 : decode prog_14_method_15_code 87 = .ok (.goto 12, 3) := by decide +kernel
theorem d_M_label_90 : decode prog_14_method_15_code 90 = .ok (.aload_n 0, 1) := by decide +kernel
theorem d_M_label_91 : decode prog_14_method_15_code 91 = .ok (.iload_n 1, 1) := by decide +kernel
theorem d_M_label_92 : decode prog_14_method_15_code 92 = .ok (.bipush 104, 2) := by decide +kernel
theorem d_M_label_94 : decode prog_14_method_15_code 94 = .ok (.iconst 1, 1) := by decide +kernel
theorem d_M_label_95 : decode prog_14_method_15_code 95 = .ok (.iconst 4, 1) := by decide +kernel
theorem d_M_label_96 : decode prog_14_method_15_code 96 = .ok (.invokevirtual 193, 3) := by decide +kernel
theorem d_M_label_99 : decode prog_14_method_15_code 99 = .ok (.istore 4, 2) := by decide +kernel
theorem d_M_label_101 : decode prog_14_method_15_code 101 = .ok (.iload 4, 2) := by decide +kernel
theorem d_M_label_103 : decode prog_14_method_15_code 103 = .ok (.iconst (-1), 1) := by decide +kernel
theorem d_M_label_104 : decode prog_14_method_15_code 104 = .ok (.if_icmp .ne 7, 3) := by decide +kernel
theorem d_M_label_107 : decode prog_14_method_15_code 107 = .ok (.iconst (-1), 1) := by decide +kernel
theorem d_M_label_108 : decode prog_14_method_15_code 108 = .ok (.goto 13, 3) := by decide +kernel
theorem d_M_label_111 : decode prog_14_method_15_code 111 = .ok (.aload_n 0, 1) := by decide +kernel
theorem d_M_label_112 : decode prog_14_method_15_code 112 = .ok (.iload_n 1, 1) := by decide +kernel
theorem d_M_label_113 : decode prog_14_method_15_code 113 = .ok (.bipush 114, 2) := by decide +kernel
theorem d_M_label_115 : decode prog_14_method_15_code 115 = .ok (.iconst 1, 1) := by decide +kernel
theorem d_M_label_116 : decode prog_14_method_15_code 116 = .ok (.bipush 11, 2) := by decide +kernel
theorem d_M_label_118 : decode prog_14_method_15_code 118 = .ok (.invokevirtual 193, 3) := by decide +kernel
theorem d_M_label_121 : decode prog_14_method_15_code 121 = .ok (.istore 5, 2) := by decide +kernel
theorem d_M_label_123 : decode prog_14_method_15_code 123 = .ok (.iload 5, 2) := by decide +kernel
theorem d_M_label_125 : decode prog_14_method_15_code 125 = .ok (.iconst (-1), 1) := by decide +kernel
theorem d_M_label_126 : decode prog_14_method_15_code 126 = .ok (.if_icmp .ne 7, 3) := by decide +kernel
theorem d_M_label_129 : decode prog_14_method_15_code 129 = .ok (.iconst (-1), 1) := by decide +kernel
theorem d_M_label_130 : decode prog_14_method_15_code 130 = .ok (.goto 13, 3) := by decide +kernel
theorem d_M_label_133 : decode prog_14_method_15_code 133 = .ok (.aload_n 0, 1) := by decide +kernel
theorem d_M_label_134 : decode prog_14_method_15_code 134 = .ok (.iload_n 1, 1) := by decide +kernel
theorem d_M_label_135 : decode prog_14_method_15_code 135 = .ok (.bipush 112, 2) := by decide +kernel
theorem d_M_label_137 : decode prog_14_method_15_code 137 = .ok (.iconst 0, 1) := by decide +kernel
theorem d_M_label_138 : decode prog_14_method_15_code 138 = .ok (.bipush 20, 2) := by decide +kernel
theorem d_M_label_140 : decode prog_14_method_15_code 140 = .ok (.invokevirtual 193, 3) := by decide +kernel
theorem d_M_label_143 : decode prog_14_method_15_code 143 = .ok (.istore 6, 2) := by decide +kernel
theorem d_M_label_145 : decode prog_14_method_15_code 145 = .ok (.aload_n 0, 1) := by decide +kernel
theorem d_M_label_146 : decode prog_14_method_15_code 146 = .ok (.iload 6, 2) := by decide +kernel
theorem d_M_label_148 : decode prog_14_method_15_code 148 = .ok (.iconst (-1), 1) := by decide +kernel
theorem d_M_label_149 : decode prog_14_method_15_code 149 = .ok (.if_icmp .eq 11, 3) := by decide +kernel
theorem d_M_label_152 : decode prog_14_method_15_code 152 = .ok (.aload_n 0, 1) := by decide +kernel
theorem d_M_label_153 : decode prog_14_method_15_code 153 = .ok (.iload_n 1, 1) := by decide +kernel
theorem d_M_label_154 : decode prog_14_method_15_code 154 = .ok (.invokevirtual 184, 3) := by decide +kernel
theorem d_M_label_157 : decode prog_14_method_15_code 157 = .ok (.ifCond .ne 10, 3) := by decide +kernel
theorem d_M_label_160 : decode prog_14_method_15_code 160 = .ok (.aload_n 0, 1) := by decide +kernel
theorem d_M_label_161 : decode prog_14_method_15_code 161 = .ok (.getfield 181, 3) := by decide +kernel
theorem d_M_label_164 : decode prog_14_method_15_code 164 = .ok (.goto 4, 3) := by decide +kernel
theorem d_M_label_167 : decode prog_14_method_15_code 167 = .ok (.iconst (-1), 1) := by decide +kernel
theorem d_M_label_168 : decode prog_14_method_15_code 168 = .ok (.putfield 9, 3) := by decide +kernel
theorem d_M_label_171 : decode prog_14_method_15_code 171 = .ok (.aload_n 0, 1) := by decide +kernel
theorem d_M_label_172 : decode prog_14_method_15_code 172 = .ok (.getfield 9, 3) := by decide +kernel
theorem d_M_label_175 : decode prog_14_method_15_code 175 = .ok (.iconst (-1), 1) := by decide +kernel
theorem d_M_label_176 : decode prog_14_method_15_code 176 = .ok (.if_icmp .ne 10, 3) := by decide +kernel
theorem d_M_label_179 : decode prog_14_method_15_code 179 = .ok (.aload_n 0, 1) := by decide +kernel
theorem d_M_label_180 : decode prog_14_method_15_code 180 = .ok (.getfield 165, 3) := by decide +kernel
theorem d_M_label_183 : decode prog_14_method_15_code 183 = .ok (.ifCond .eq 10, 3) := by decide +kernel
theorem d_M_label_186 : decode prog_14_method_15_code 186 = .ok (.aload_n 0, 1) := by decide +kernel
theorem d_M_label_187 : decode prog_14_method_15_code 187 = .ok (.bipush (-6), 2) := by decide +kernel
theorem d_M_label_189 : decode prog_14_method_15_code 189 = .ok (.invokevirtual 161, 3) := by decide +kernel
theorem d_M_label_192 : decode prog_14_method_15_code 192 = .ok (.ireturn, 1) := by decide +kernel
theorem d_M_label_193 : decode prog_14_method_15_code 193 = .ok (.aload_n 0, 1) := by decide +kernel
theorem d_M_label_194 : decode prog_14_method_15_code 194 = .ok (.getfield 151, 3) := by decide +kernel
theorem d_M_label_197 : decode prog_14_method_15_code 197 = .ok (.bipush 16, 2) := by decide +kernel
theorem d_M_label_199 : decode prog_14_method_15_code 199 = .ok (.if_icmp .ne 10, 3) := by decide +kernel
theorem d_M_label_202 : decode prog_14_method_15_code 202 = .ok (.aload_n 0, 1) := by decide +kernel
theorem d_M_label_203 : decode prog_14_method_15_code 203 = .ok (.bipush (-7), 2) := by decide +kernel
theorem d_M_label_205 : decode prog_14_method_15_code 205 = .ok (.invokevirtual 161, 3) := by decide +kernel
theorem d_M_label_208 : decode prog_14_method_15_code 208 = .ok (.ireturn, 1) := by decide +kernel
theorem d_M_label_209 : decode prog_14_method_15_code 209 = .ok (.aload_n 0, 1) := by decide +kernel
theorem d_M_label_210 : decode prog_14_method_15_code 210 = .ok (.iload_n 2, 1) := by decide +kernel
theorem d_M_label_211 : decode prog_14_method_15_code 211 = .ok (.iload_n 3, 1) := by decide +kernel
theorem d_M_label_212 : decode prog_14_method_15_code 212 = .ok (.iload 4, 2) := by decide +kernel
theorem d_M_label_214 : decode prog_14_method_15_code 214 = .ok (.iload 5, 2) := by decide +kernel
theorem d_M_label_216 : decode prog_14_method_15_code 216 = .ok (.iload 6, 2) := by decide +kernel
theorem d_M_label_218 : decode prog_14_method_15_code 218 = .ok (.invokevirtual 177, 3) := by decide +kernel
theorem d_M_label_221 : decode prog_14_method_15_code 221 = .ok (.ireturn, 1) := by decide +kernel
theorem d_M_fault_0 : decode prog_14_method_16_code 0 = .ok (.aload_n 0, 1) := by decide +kernel
theorem d_M_fault_1 : decode prog_14_method_16_code 1 = .ok (.getfield 9, 3) := by decide +kernel
theorem d_M_fault_4 : decode prog_14_method_16_code 4 = .ok (.ireturn, 1) := by decide +kernel
theorem d_M_danger_0 : decode prog_14_method_17_code 0 = .ok (.iload_n 1, 1) := by decide +kernel
theorem d_M_danger_1 : decode prog_14_method_17_code 1 = .ok (.invokestatic 157, 3) := by decide +kernel
theorem d_M_danger_4 : decode prog_14_method_17_code 4 = .ok (.ifCond .eq 7, 3) := by decide +kernel
theorem d_M_danger_7 : decode prog_14_method_17_code 7 = .ok (.iload_n 1, 1) := by decide +kernel
theorem d_M_danger_8 : decode prog_14_method_17_code 8 = .ok (.ifCond .ne 9, 3) := by decide +kernel
theorem d_M_danger_11 : decode prog_14_method_17_code 11 = .ok (.aload_n 0, 1) := by decide +kernel
theorem d_M_danger_12 : decode prog_14_method_17_code 12 = .ok (.iconst (-1), 1) := by decide +kernel
theorem d_M_danger_13 : decode prog_14_method_17_code 13 = .ok (.invokevirtual 161, 3) := by decide +kernel
theorem d_M_danger_16 : decode prog_14_method_17_code 16 = .ok (.ireturn, 1) := by decide +kernel
theorem d_M_danger_17 : decode prog_14_method_17_code 17 = .ok (.iload_n 2, 1) := by decide +kernel
theorem d_M_danger_18 : decode prog_14_method_17_code 18 = .ok (.iconst (-1), 1) := by decide +kernel
theorem d_M_danger_19 : decode prog_14_method_17_code 19 = .ok (.if_icmp .lt 39, 3) := by decide +kernel
theorem d_M_danger_22 : decode prog_14_method_17_code 22 = .ok (.iload_n 2, 1) := by decide +kernel
theorem d_M_danger_23 : decode prog_14_method_17_code 23 = .ok (.sipush 240, 3) := by decide +kernel
theorem d_M_danger_26 : decode prog_14_method_17_code 26 = .ok (.if_icmp .gt 32, 3) := by decide +kernel
theorem d_M_danger_29 : decode prog_14_method_17_code 29 = .ok (.aload_n 0, 1) := by decide +kernel
theorem d_M_danger_30 : decode prog_14_method_17_code 30 = .ok (.getfield 165, 3) := by decide +kernel
theorem d_M_danger_33 : decode prog_14_method_17_code 33 = .ok (.iconst 2, 1) := by decide +kernel
theorem d_M_danger_34 : decode prog_14_method_17_code 34 = .ok (.if_icmp .eq 24, 3) := by decide +kernel
theorem d_M_danger_37 : decode prog_14_method_17_code 37 = .ok (.aload_n 0, 1) := by decide +kernel
theorem d_M_danger_38 : decode prog_14_method_17_code 38 = .ok (.getfield 165, 3) := by decide +kernel
theorem d_M_danger_41 : decode prog_14_method_17_code 41 = .ok (.iconst 1, 1) := by decide +kernel
theorem d_M_danger_42 : decode prog_14_method_17_code 42 = .ok (.if_icmp .ne 23, 3) := by decide +kernel
theorem d_M_danger_45 : decode prog_14_method_17_code 45 = .ok (.iload_n 2, 1) := by decide +kernel
theorem d_M_danger_46 : decode prog_14_method_17_code 46 = .ok (.iconst (-1), 1) := by decide +kernel
theorem d_M_danger_47 : decode prog_14_method_17_code 47 = .ok (.if_icmp .eq 18, 3) := by decide +kernel
theorem d_M_danger_50 : decode prog_14_method_17_code 50 = .ok (.iload_n 2, 1) := by decide +kernel
theorem d_M_danger_51 : decode prog_14_method_17_code 51 = .ok (.aload_n 0, 1) := by decide +kernel
theorem d_M_danger_52 : decode prog_14_method_17_code 52 = .ok (.getfield 197, 3) := by decide +kernel
theorem d_M_danger_55 : decode prog_14_method_17_code 55 = .ok (.if_icmp .ge 10, 3) := by decide +kernel
theorem d_M_danger_58 : decode prog_14_method_17_code 58 = .ok (.aload_n 0, 1) := by decide +kernel
theorem d_M_danger_59 : decode prog_14_method_17_code 59 = .ok (.bipush (-6), 2) := by decide +kernel
theorem d_M_danger_61 : decode prog_14_method_17_code 61 = .ok (.invokevirtual 161, 3) := by decide +kernel
theorem d_M_danger_64 : decode prog_14_method_17_code 64 = .ok (.ireturn, 1) := by decide +kernel
theorem d_M_danger_65 : decode prog_14_method_17_code 65 = .ok (.aload_n 0, 1) := by decide +kernel
theorem d_M_danger_66 : decode prog_14_method_17_code 66 = .ok (.getfield 27, 3) := by decide +kernel
theorem d_M_danger_69 : decode prog_14_method_17_code 69 = .ok (.iload_n 1, 1) := by decide +kernel
theorem d_M_danger_70 : decode prog_14_method_17_code 70 = .ok (.iaload, 1) := by decide +kernel
theorem d_M_danger_71 : decode prog_14_method_17_code 71 = .ok (.istore_n 3, 1) := by decide +kernel
theorem d_M_danger_72 : decode prog_14_method_17_code 72 = .ok (.aload_n 0, 1) := by decide +kernel
theorem d_M_danger_73 : decode prog_14_method_17_code 73 = .ok (.getfield 27, 3) := by decide +kernel
theorem d_M_danger_76 : decode prog_14_method_17_code 76 = .ok (.iload_n 1, 1) := by decide +kernel
theorem d_M_danger_77 : decode prog_14_method_17_code 77 = .ok (.iload_n 2, 1) := by decide +kernel
theorem d_M_danger_78 : decode prog_14_method_17_code 78 = .ok (.iastore, 1) := by decide +kernel
theorem d_M_danger_79 : decode prog_14_method_17_code 79 = .ok (.aload_n 0, 1) := by decide +kernel
theorem d_M_danger_80 : decode prog_14_method_17_code 80 = .ok (.getfield 165, 3) := by decide +kernel
theorem d_M_danger_83 : decode prog_14_method_17_code 83 = .ok (.iconst 1, 1) := by decide +kernel
theorem d_M_danger_84 : decode prog_14_method_17_code 84 = .ok (.if_icmp .ne 8, 3) := by decide +kernel
theorem d_M_danger_87 : decode prog_14_method_17_code 87 = .ok (.aload_n 0, 1) := by decide +kernel
theorem d_M_danger_88 : decode prog_14_method_17_code 88 = .ok (.invokevirtual 200, 3) := by decide +kernel
theorem d_M_danger_91 : decode prog_14_method_17_code 91 = .ok (.pop, 1) := by decide +kernel
theorem d_M_danger_92 : decode prog_14_method_17_code 92 = .ok (.iload_n 3, 1) := by decide +kernel
theorem d_M_danger_93 : decode prog_14_method_17_code 93 = .ok (.ireturn, 1) := by decide +kernel
theorem d_M_row_0 : decode prog_14_method_18_code 0 = .ok (.iload_n 1, 1) := by decide +kernel
theorem d_M_row_1 : decode prog_14_method_18_code 1 = .ok (.invokestatic 190, 3) := by decide +kernel
theorem d_M_row_4 : decode prog_14_method_18_code 4 = .ok (.ifCond .ne 9, 3) := by decide +kernel
theorem d_M_row_7 : decode prog_14_method_18_code 7 = .ok (.aload_n 0, 1) := by decide +kernel
theorem d_M_row_8 : decode prog_14_method_18_code 8 = .ok (.iconst (-1), 1) := by decide +kernel
theorem d_M_row_9 : decode prog_14_method_18_code 9 = .ok (.invokevirtual 161, 3) := by decide +kernel
theorem d_M_row_12 : decode prog_14_method_18_code 12 = .ok (.ireturn, 1) := by decide +kernel
theorem d_M_row_13 : decode prog_14_method_18_code 13 = .ok (.iload_n 3, 1) := by decide +kernel
theorem d_M_row_14 : decode prog_14_method_18_code 14 = .ok (.ifCond .ge 10, 3) := by decide +kernel
theorem d_M_row_17 : decode prog_14_method_18_code 17 = .ok (.aload_n 0, 1) := by decide +kernel
theorem d_M_row_18 : decode prog_14_method_18_code 18 = .ok (.bipush (-4), 2) := by decide +kernel
theorem d_M_row_20 : decode prog_14_method_18_code 20 = .ok (.invokevirtual 161, 3) := by decide +kernel
theorem d_M_row_23 : decode prog_14_method_18_code 23 = .ok (.ireturn, 1) := by decide +kernel
theorem d_M_row_24 : decode prog_14_method_18_code 24 = .ok (.iload_n 2, 1) := by decide +kernel
theorem d_M_row_25 : decode prog_14_method_18_code 25 = .ok (.ifCond .lt 8, 3) := by decide +kernel
theorem d_M_row_28 : decode prog_14_method_18_code 28 = .ok (.iload_n 2, 1) := by decide +kernel
theorem d_M_row_29 : decode prog_14_method_18_code 29 = .ok (.iconst 3, 1) := by decide +kernel
theorem d_M_row_30 : decode prog_14_method_18_code 30 = .ok (.if_icmp .le 10, 3) := by decide +kernel
theorem d_M_row_33 : decode prog_14_method_18_code 33 = .ok (.aload_n 0, 1) := by decide +kernel
theorem d_M_row_34 : decode prog_14_method_18_code 34 = .ok (.bipush (-6), 2) := by decide +kernel
theorem d_M_row_36 : decode prog_14_method_18_code 36 = .ok (.invokevirtual 161, 3) := by decide +kernel
theorem d_M_row_39 : decode prog_14_method_18_code 39 = .ok (.ireturn, 1) := by decide +kernel
theorem d_M_row_40 : decode prog_14_method_18_code 40 = .ok (.iload_n 3, 1) := by decide +kernel
theorem d_M_row_41 : decode prog_14_method_18_code 41 = .ok (.bipush 60, 2) := by decide +kernel
theorem d_M_row_43 : decode prog_14_method_18_code 43 = .ok (.if_icmp .le 10, 3) := by decide +kernel
theorem d_M_row_46 : decode prog_14_method_18_code 46 = .ok (.aload_n 0, 1) := by decide +kernel
theorem d_M_row_47 : decode prog_14_method_18_code 47 = .ok (.bipush (-7), 2) := by decide +kernel
theorem d_M_row_49 : decode prog_14_method_18_code 49 = .ok (.invokevirtual 161, 3) := by decide +kernel
theorem d_M_row_52 : decode prog_14_method_18_code 52 = .ok (.ireturn, 1) := by decide +kernel
theorem d_M_row_53 : decode prog_14_method_18_code 53 = .ok (.aload_n 0, 1) := by decide +kernel
theorem d_M_row_54 : decode prog_14_method_18_code 54 = .ok (.getfield 66, 3) := by decide +kernel
theorem d_M_row_57 : decode prog_14_method_18_code 57 = .ok (.iload_n 1, 1) := by decide +kernel
theorem d_M_row_58 : decode prog_14_method_18_code 58 = .ok (.iconst 1, 1) := by decide +kernel
theorem d_M_row_59 : decode prog_14_method_18_code 59 = .ok (.iastore, 1) := by decide +kernel
theorem d_M_row_60 : decode prog_14_method_18_code 60 = .ok (.aload_n 0, 1) := by decide +kernel
theorem d_M_row_61 : decode prog_14_method_18_code 61 = .ok (.getfield 69, 3) := by decide +kernel
theorem d_M_row_64 : decode prog_14_method_18_code 64 = .ok (.iload_n 1, 1) := by decide +kernel
theorem d_M_row_65 : decode prog_14_method_18_code 65 = .ok (.iload_n 2, 1) := by decide +kernel
theorem d_M_row_66 : decode prog_14_method_18_code 66 = .ok (.iastore, 1) := by decide +kernel
theorem d_M_row_67 : decode prog_14_method_18_code 67 = .ok (.aload_n 0, 1) := by decide +kernel
theorem d_M_row_68 : decode prog_14_method_18_code 68 = .ok (.getfield 72, 3) := by decide +kernel
theorem d_M_row_71 : decode prog_14_method_18_code 71 = .ok (.iload_n 1, 1) := by decide +kernel
theorem d_M_row_72 : decode prog_14_method_18_code 72 = .ok (.iload_n 3, 1) := by decide +kernel
theorem d_M_row_73 : decode prog_14_method_18_code 73 = .ok (.iastore, 1) := by decide +kernel
theorem d_M_row_74 : decode prog_14_method_18_code 74 = .ok (.iconst 0, 1) := by decide +kernel
theorem d_M_row_75 : decode prog_14_method_18_code 75 = .ok (.istore 4, 2) := by decide +kernel
theorem d_M_row_77 : decode prog_14_method_18_code 77 = .ok (.iload 4, 2) := by decide +kernel
theorem d_M_row_79 : decode prog_14_method_18_code 79 = .ok (.bipush 60, 2) := by decide +kernel
theorem d_M_row_81 : decode prog_14_method_18_code 81 = .ok (.if_icmp .ge 22, 3) := by decide +kernel
theorem d_M_row_84 : decode prog_14_method_18_code 84 = .ok (.aload_n 0, 1) := by decide +kernel
theorem d_M_row_85 : decode prog_14_method_18_code 85 = .ok (.getfield 78, 3) := by decide +kernel
theorem d_M_row_88 : decode prog_14_method_18_code 88 = .ok (.bipush 60, 2) := by decide +kernel
theorem d_M_row_90 : decode prog_14_method_18_code 90 = .ok (.iload_n 1, 1) := by decide +kernel
theorem d_M_row_91 : decode prog_14_method_18_code 91 = .ok (.imul, 1) := by decide +kernel
theorem d_M_row_92 : decode prog_14_method_18_code 92 = .ok (.iload 4, 2) := by decide +kernel
theorem d_M_row_94 : decode prog_14_method_18_code 94 = .ok (.iadd, 1) := by decide +kernel
theorem d_M_row_95 : decode prog_14_method_18_code 95 = .ok (.lconst 0, 1) := by decide +kernel
theorem d_M_row_96 : decode prog_14_method_18_code 96 = .ok (.lastore, 1) := by decide +kernel
theorem d_M_row_97 : decode prog_14_method_18_code 97 = .ok (.iinc 4 1, 3) := by decide +kernel
theorem d_M_row_100 : decode prog_14_method_18_code 100 = .ok (.goto (-23), 3) := by decide +kernel
theorem d_M_row_103 : decode prog_14_method_18_code 103 = .ok (.iconst 1, 1) := by decide +kernel
theorem d_M_row_104 : decode prog_14_method_18_code 104 = .ok (.ireturn, 1) := by decide +kernel
theorem d_M_set_0 : decode prog_14_method_19_code 0 = .ok (.iload_n 1, 1) := by decide +kernel
theorem d_M_set_1 : decode prog_14_method_19_code 1 = .ok (.invokestatic 190, 3) := by decide +kernel
theorem d_M_set_4 : decode prog_14_method_19_code 4 = .ok (.ifCond .ne 9, 3) := by decide +kernel
theorem d_M_set_7 : decode prog_14_method_19_code 7 = .ok (.aload_n 0, 1) := by decide +kernel
theorem d_M_set_8 : decode prog_14_method_19_code 8 = .ok (.iconst (-1), 1) := by decide +kernel
theorem d_M_set_9 : decode prog_14_method_19_code 9 = .ok (.invokevirtual 161, 3) := by decide +kernel
theorem d_M_set_12 : decode prog_14_method_19_code 12 = .ok (.ireturn, 1) := by decide +kernel
theorem d_M_set_13 : decode prog_14_method_19_code 13 = .ok (.aload_n 0, 1) := by decide +kernel
theorem d_M_set_14 : decode prog_14_method_19_code 14 = .ok (.getfield 66, 3) := by decide +kernel
theorem d_M_set_17 : decode prog_14_method_19_code 17 = .ok (.iload_n 1, 1) := by decide +kernel
theorem d_M_set_18 : decode prog_14_method_19_code 18 = .ok (.iaload, 1) := by decide +kernel
theorem d_M_set_19 : decode prog_14_method_19_code 19 = .ok (.iconst 2, 1) := by decide +kernel
theorem d_M_set_20 : decode prog_14_method_19_code 20 = .ok (.if_icmp .ne 10, 3) := by decide +kernel
theorem d_M_set_23 : decode prog_14_method_19_code 23 = .ok (.aload_n 0, 1) := by decide +kernel
theorem d_M_set_24 : decode prog_14_method_19_code 24 = .ok (.bipush (-2), 2) := by decide +kernel
theorem d_M_set_26 : decode prog_14_method_19_code 26 = .ok (.invokevirtual 161, 3) := by decide +kernel
theorem d_M_set_29 : decode prog_14_method_19_code 29 = .ok (.ireturn, 1) := by decide +kernel
theorem d_M_set_30 : decode prog_14_method_19_code 30 = .ok (.aload_n 0, 1) := by decide +kernel
theorem d_M_set_31 : decode prog_14_method_19_code 31 = .ok (.getfield 66, 3) := by decide +kernel
theorem d_M_set_34 : decode prog_14_method_19_code 34 = .ok (.iload_n 1, 1) := by decide +kernel
theorem d_M_set_35 : decode prog_14_method_19_code 35 = .ok (.iaload, 1) := by decide +kernel
theorem d_M_set_36 : decode prog_14_method_19_code 36 = .ok (.ifCond .ne 10, 3) := by decide +kernel
theorem d_M_set_39 : decode prog_14_method_19_code 39 = .ok (.aload_n 0, 1) := by decide +kernel
theorem d_M_set_40 : decode prog_14_method_19_code 40 = .ok (.bipush (-3), 2) := by decide +kernel
theorem d_M_set_42 : decode prog_14_method_19_code 42 = .ok (.invokevirtual 161, 3) := by decide +kernel
theorem d_M_set_45 : decode prog_14_method_19_code 45 = .ok (.ireturn, 1) := by decide +kernel
theorem d_M_set_46 : decode prog_14_method_19_code 46 = .ok (.iload_n 2, 1) := by decide +kernel
theorem d_M_set_47 : decode prog_14_method_19_code 47 = .ok (.ifCond .lt 13, 3) := by decide +kernel
theorem d_M_set_50 : decode prog_14_method_19_code 50 = .ok (.iload_n 2, 1) := by decide +kernel
theorem d_M_set_51 : decode prog_14_method_19_code 51 = .ok (.aload_n 0, 1) := by decide +kernel
theorem d_M_set_52 : decode prog_14_method_19_code 52 = .ok (.getfield 72, 3) := by decide +kernel
theorem d_M_set_55 : decode prog_14_method_19_code 55 = .ok (.iload_n 1, 1) := by decide +kernel
theorem d_M_set_56 : decode prog_14_method_19_code 56 = .ok (.iaload, 1) := by decide +kernel
theorem d_M_set_57 : decode prog_14_method_19_code 57 = .ok (.if_icmp .lt 10, 3) := by decide +kernel
theorem d_M_set_60 : decode prog_14_method_19_code 60 = .ok (.aload_n 0, 1) := by decide +kernel
theorem d_M_set_61 : decode prog_14_method_19_code 61 = .ok (.bipush (-5), 2) := by decide +kernel
theorem d_M_set_63 : decode prog_14_method_19_code 63 = .ok (.invokevirtual 161, 3) := by decide +kernel
theorem d_M_set_66 : decode prog_14_method_19_code 66 = .ok (.ireturn, 1) := by decide +kernel
theorem d_M_set_67 : decode prog_14_method_19_code 67 = .ok (.aload_n 0, 1) := by decide +kernel
theorem d_M_set_68 : decode prog_14_method_19_code 68 = .ok (.getfield 78, 3) := by decide +kernel
theorem d_M_set_71 : decode prog_14_method_19_code 71 = .ok (.bipush 60, 2) := by decide +kernel
theorem d_M_set_73 : decode prog_14_method_19_code 73 = .ok (.iload_n 1, 1) := by decide +kernel
theorem d_M_set_74 : decode prog_14_method_19_code 74 = .ok (.imul, 1) := by decide +kernel
theorem d_M_set_75 : decode prog_14_method_19_code 75 = .ok (.iload_n 2, 1) := by decide +kernel
theorem d_M_set_76 : decode prog_14_method_19_code 76 = .ok (.iadd, 1) := by decide +kernel
theorem d_M_set_77 : decode prog_14_method_19_code 77 = .ok (.aload_n 0, 1) := by decide +kernel
theorem d_M_set_78 : decode prog_14_method_19_code 78 = .ok (.getfield 69, 3) := by decide +kernel
theorem d_M_set_81 : decode prog_14_method_19_code 81 = .ok (.iload_n 1, 1) := by decide +kernel
theorem d_M_set_82 : decode prog_14_method_19_code 82 = .ok (.iaload, 1) := by decide +kernel
theorem d_M_set_83 : decode prog_14_method_19_code 83 = .ok (.ifCond .ne 10, 3) := by decide +kernel
theorem d_M_set_86 : decode prog_14_method_19_code 86 = .ok (.lload_n 3, 1) := by decide +kernel
theorem d_M_set_87 : decode prog_14_method_19_code 87 = .ok (.l2i, 1) := by decide +kernel
theorem d_M_set_88 : decode prog_14_method_19_code 88 = .ok (.i2b, 1) := by decide +kernel
theorem d_M_set_89 : decode prog_14_method_19_code 89 = .ok (.i2l, 1) := by decide +kernel
theorem d_M_set_90 : decode prog_14_method_19_code 90 = .ok (.goto 37, 3) := by decide +kernel
theorem d_M_set_93 : decode prog_14_method_19_code 93 = .ok (.aload_n 0, 1) := by decide +kernel
theorem d_M_set_94 : decode prog_14_method_19_code 94 = .ok (.getfield 69, 3) := by decide +kernel
theorem d_M_set_97 : decode prog_14_method_19_code 97 = .ok (.iload_n 1, 1) := by decide +kernel
theorem d_M_set_98 : decode prog_14_method_19_code 98 = .ok (.iaload, 1) := by decide +kernel
theorem d_M_set_99 : decode prog_14_method_19_code 99 = .ok (.iconst 1, 1) := by decide +kernel
theorem d_M_set_100 : decode prog_14_method_19_code 100 = .ok (.if_icmp .ne 10, 3) := by decide +kernel
theorem d_M_set_103 : decode prog_14_method_19_code 103 = .ok (.lload_n 3, 1) := by decide +kernel
theorem d_M_set_104 : decode prog_14_method_19_code 104 = .ok (.l2i, 1) := by decide +kernel
theorem d_M_set_105 : decode prog_14_method_19_code 105 = .ok (.i2s, 1) := by decide +kernel
theorem d_M_set_106 : decode prog_14_method_19_code 106 = .ok (.i2l, 1) := by decide +kernel
theorem d_M_set_107 : decode prog_14_method_19_code 107 = .ok (.goto 20, 3) := by decide +kernel
theorem d_M_set_110 : decode prog_14_method_19_code 110 = .ok (.aload_n 0, 1) := by decide +kernel
theorem d_M_set_111 : decode prog_14_method_19_code 111 = .ok (.getfield 69, 3) := by decide +kernel
theorem d_M_set_114 : decode prog_14_method_19_code 114 = .ok (.iload_n 1, 1) := by decide +kernel
theorem d_M_set_115 : decode prog_14_method_19_code 115 = .ok (.iaload, 1) := by decide +kernel
theorem d_M_set_116 : decode prog_14_method_19_code 116 = .ok (.iconst 2, 1) := by decide +kernel
theorem d_M_set_117 : decode prog_14_method_19_code 117 = .ok (.if_icmp .ne 9, 3) := by decide +kernel
theorem d_M_set_120 : decode prog_14_method_19_code 120 = .ok (.lload_n 3, 1) := by decide +kernel
theorem d_M_set_121 : decode prog_14_method_19_code 121 = .ok (.l2i, 1) := by decide +kernel
theorem d_M_set_122 : decode prog_14_method_19_code 122 = .ok (.i2l, 1) := by decide +kernel
theorem d_M_set_123 : decode prog_14_method_19_code 123 = .ok (.goto 4, 3) := by decide +kernel
theorem d_M_set_126 : decode prog_14_method_19_code 126 = .ok (.lload_n 3, 1) := by decide +kernel
theorem d_M_set_127 : decode prog_14_method_19_code 127 = .ok (.lastore, 1) := by decide +kernel
theorem d_M_set_128 : decode prog_14_method_19_code 128 = .ok (.iconst 1, 1) := by decide +kernel
theorem d_M_set_129 : decode prog_14_method_19_code 129 = .ok (.ireturn, 1) := by decide +kernel
theorem d_M_copy_0 : decode prog_14_method_20_code 0 = .ok (.iload_n 1, 1) := by decide +kernel
theorem d_M_copy_1 : decode prog_14_method_20_code 1 = .ok (.invokestatic 190, 3) := by decide +kernel
theorem d_M_copy_4 : decode prog_14_method_20_code 4 = .ok (.ifCond .eq 10, 3) := by decide +kernel
theorem d_M_copy_7 : decode prog_14_method_20_code 7 = .ok (.iload_n 2, 1) := by decide +kernel
theorem d_M_copy_8 : decode prog_14_method_20_code 8 = .ok (.invokestatic 190, 3) := by decide +kernel
theorem d_M_copy_11 : decode prog_14_method_20_code 11 = .ok (.ifCond .ne 9, 3) := by decide +kernel
theorem d_M_copy_14 : decode prog_14_method_20_code 14 = .ok (.aload_n 0, 1) := by decide +kernel
theorem d_M_copy_15 : decode prog_14_method_20_code 15 = .ok (.iconst (-1), 1) := by decide +kernel
theorem d_M_copy_16 : decode prog_14_method_20_code 16 = .ok (.invokevirtual 161, 3) := by decide +kernel
theorem d_M_copy_19 : decode prog_14_method_20_code 19 = .ok (.ireturn, 1) := by decide +kernel
theorem d_M_copy_20 : decode prog_14_method_20_code 20 = .ok (.aload_n 0, 1) := by decide +kernel
theorem d_M_copy_21 : decode prog_14_method_20_code 21 = .ok (.getfield 66, 3) := by decide +kernel
theorem d_M_copy_24 : decode prog_14_method_20_code 24 = .ok (.iload_n 1, 1) := by decide +kernel
theorem d_M_copy_25 : decode prog_14_method_20_code 25 = .ok (.iaload, 1) := by decide +kernel
theorem d_M_copy_26 : decode prog_14_method_20_code 26 = .ok (.iconst 2, 1) := by decide +kernel
theorem d_M_copy_27 : decode prog_14_method_20_code 27 = .ok (.if_icmp .eq 48, 3) := by decide +kernel
theorem d_M_copy_30 : decode prog_14_method_20_code 30 = .ok (.aload_n 0, 1) := by decide +kernel
theorem d_M_copy_31 : decode prog_14_method_20_code 31 = .ok (.getfield 66, 3) := by decide +kernel
theorem d_M_copy_34 : decode prog_14_method_20_code 34 = .ok (.iload_n 2, 1) := by decide +kernel
theorem d_M_copy_35 : decode prog_14_method_20_code 35 = .ok (.iaload, 1) := by decide +kernel
theorem d_M_copy_36 : decode prog_14_method_20_code 36 = .ok (.iconst 2, 1) := by decide +kernel
theorem d_M_copy_37 : decode prog_14_method_20_code 37 = .ok (.if_icmp .eq 38, 3) := by decide +kernel
theorem d_M_copy_40 : decode prog_14_method_20_code 40 = .ok (.aload_n 0, 1) := by decide +kernel
theorem d_M_copy_41 : decode prog_14_method_20_code 41 = .ok (.getfield 66, 3) := by decide +kernel
theorem d_M_copy_44 : decode prog_14_method_20_code 44 = .ok (.iload_n 1, 1) := by decide +kernel
theorem d_M_copy_45 : decode prog_14_method_20_code 45 = .ok (.iaload, 1) := by decide +kernel
theorem d_M_copy_46 : decode prog_14_method_20_code 46 = .ok (.iconst 1, 1) := by decide +kernel
theorem d_M_copy_47 : decode prog_14_method_20_code 47 = .ok (.if_icmp .ne 35, 3) := by decide +kernel
theorem d_M_copy_50 : decode prog_14_method_20_code 50 = .ok (.aload_n 0, 1) := by decide +kernel
theorem d_M_copy_51 : decode prog_14_method_20_code 51 = .ok (.getfield 66, 3) := by decide +kernel
theorem d_M_copy_54 : decode prog_14_method_20_code 54 = .ok (.iload_n 2, 1) := by decide +kernel
theorem d_M_copy_55 : decode prog_14_method_20_code 55 = .ok (.iaload, 1) := by decide +kernel
theorem d_M_copy_56 : decode prog_14_method_20_code 56 = .ok (.iconst 1, 1) := by decide +kernel
theorem d_M_copy_57 : decode prog_14_method_20_code 57 = .ok (.if_icmp .ne 25, 3) := by decide +kernel
theorem d_M_copy_60 : decode prog_14_method_20_code 60 = .ok (.aload_n 0, 1) := by decide +kernel
theorem d_M_copy_61 : decode prog_14_method_20_code 61 = .ok (.getfield 69, 3) := by decide +kernel
theorem d_M_copy_64 : decode prog_14_method_20_code 64 = .ok (.iload_n 1, 1) := by decide +kernel
theorem d_M_copy_65 : decode prog_14_method_20_code 65 = .ok (.iaload, 1) := by decide +kernel
theorem d_M_copy_66 : decode prog_14_method_20_code 66 = .ok (.aload_n 0, 1) := by decide +kernel
theorem d_M_copy_67 : decode prog_14_method_20_code 67 = .ok (.getfield 69, 3) := by decide +kernel
theorem d_M_copy_70 : decode prog_14_method_20_code 70 = .ok (.iload_n 2, 1) := by decide +kernel
theorem d_M_copy_71 : decode prog_14_method_20_code 71 = .ok (.iaload, 1) := by decide +kernel
theorem d_M_copy_72 : decode prog_14_method_20_code 72 = .ok (.if_icmp .eq 10, 3) := by decide +kernel
theorem d_M_copy_75 : decode prog_14_method_20_code 75 = .ok (.aload_n 0, 1) := by decide +kernel
theorem d_M_copy_76 : decode prog_14_method_20_code 76 = .ok (.bipush (-2), 2) := by decide +kernel
theorem d_M_copy_78 : decode prog_14_method_20_code 78 = .ok (.invokevirtual 161, 3) := by decide +kernel
theorem d_M_copy_81 : decode prog_14_method_20_code 81 = .ok (.ireturn, 1) := by decide +kernel
theorem d_M_copy_82 : decode prog_14_method_20_code 82 = .ok (.aload_n 0, 1) := by decide +kernel
theorem d_M_copy_83 : decode prog_14_method_20_code 83 = .ok (.getfield 66, 3) := by decide +kernel
theorem d_M_copy_86 : decode prog_14_method_20_code 86 = .ok (.iload_n 1, 1) := by decide +kernel
theorem d_M_copy_87 : decode prog_14_method_20_code 87 = .ok (.iaload, 1) := by decide +kernel
theorem d_M_copy_88 : decode prog_14_method_20_code 88 = .ok (.ifCond .eq 12, 3) := by decide +kernel
theorem d_M_copy_91 : decode prog_14_method_20_code 91 = .ok (.aload_n 0, 1) := by decide +kernel
theorem d_M_copy_92 : decode prog_14_method_20_code 92 = .ok (.getfield 66, 3) := by decide +kernel
theorem d_M_copy_95 : decode prog_14_method_20_code 95 = .ok (.iload_n 2, 1) := by decide +kernel
theorem d_M_copy_96 : decode prog_14_method_20_code 96 = .ok (.iaload, 1) := by decide +kernel
theorem d_M_copy_97 : decode prog_14_method_20_code 97 = .ok (.ifCond .ne 10, 3) := by decide +kernel
theorem d_M_copy_100 : decode prog_14_method_20_code 100 = .ok (.aload_n 0, 1) := by decide +kernel
theorem d_M_copy_101 : decode prog_14_method_20_code 101 = .ok (.bipush (-3), 2) := by decide +kernel
theorem d_M_copy_103 : decode prog_14_method_20_code 103 = .ok (.invokevirtual 161, 3) := by decide +kernel
theorem d_M_copy_106 : decode prog_14_method_20_code 106 = .ok (.ireturn, 1) := by decide +kernel
theorem d_M_copy_107 : decode prog_14_method_20_code 107 = .ok (.iload 5, 2) := by decide +kernel
theorem d_M_copy_109 : decode prog_14_method_20_code 109 = .ok (.ifCond .ge 10, 3) := by decide +kernel
theorem d_M_copy_112 : decode prog_14_method_20_code 112 = .ok (.aload_n 0, 1) := by decide +kernel
theorem d_M_copy_113 : decode prog_14_method_20_code 113 = .ok (.bipush (-4), 2) := by decide +kernel
theorem d_M_copy_115 : decode prog_14_method_20_code 115 = .ok (.invokevirtual 161, 3) := by decide +kernel
theorem d_M_copy_118 : decode prog_14_method_20_code 118 = .ok (.ireturn, 1) := by decide +kernel
theorem d_M_copy_119 : decode prog_14_method_20_code 119 = .ok (.iload_n 3, 1) := by decide +kernel
theorem d_M_copy_120 : decode prog_14_method_20_code 120 = .ok (.ifCond .lt 35, 3) := by decide +kernel
theorem d_M_copy_123 : decode prog_14_method_20_code 123 = .ok (.iload 4, 2) := by decide +kernel
theorem d_M_copy_125 : decode prog_14_method_20_code 125 = .ok (.ifCond .lt 30, 3) := by decide +kernel
theorem d_M_copy_128 : decode prog_14_method_20_code 128 = .ok (.iload_n 3, 1) := by decide +kernel
theorem d_M_copy_129 : decode prog_14_method_20_code 129 = .ok (.aload_n 0, 1) := by decide +kernel
theorem d_M_copy_130 : decode prog_14_method_20_code 130 = .ok (.getfield 72, 3) := by decide +kernel
theorem d_M_copy_133 : decode prog_14_method_20_code 133 = .ok (.iload_n 1, 1) := by decide +kernel
theorem d_M_copy_134 : decode prog_14_method_20_code 134 = .ok (.iaload, 1) := by decide +kernel
theorem d_M_copy_135 : decode prog_14_method_20_code 135 = .ok (.iload 5, 2) := by decide +kernel
theorem d_M_copy_137 : decode prog_14_method_20_code 137 = .ok (.isub, 1) := by decide +kernel
theorem d_M_copy_138 : decode prog_14_method_20_code 138 = .ok (.if_icmp .gt 17, 3) := by decide +kernel
theorem d_M_copy_141 : decode prog_14_method_20_code 141 = .ok (.iload 4, 2) := by decide +kernel
theorem d_M_copy_143 : decode prog_14_method_20_code 143 = .ok (.aload_n 0, 1) := by decide +kernel
theorem d_M_copy_144 : decode prog_14_method_20_code 144 = .ok (.getfield 72, 3) := by decide +kernel
theorem d_M_copy_147 : decode prog_14_method_20_code 147 = .ok (.iload_n 2, 1) := by decide +kernel
theorem d_M_copy_148 : decode prog_14_method_20_code 148 = .ok (.iaload, 1) := by decide +kernel
theorem d_M_copy_149 : decode prog_14_method_20_code 149 = .ok (.iload 5, 2) := by decide +kernel
theorem d_M_copy_151 : decode prog_14_method_20_code 151 = .ok (.isub, 1) := by decide +kernel
theorem d_M_copy_152 : decode prog_14_method_20_code 152 = .ok (.if_icmp .le 10, 3) := by decide +kernel
theorem d_M_copy_155 : decode prog_14_method_20_code 155 = .ok (.aload_n 0, 1) := by decide +kernel
theorem d_M_copy_156 : decode prog_14_method_20_code 156 = .ok (.bipush (-5), 2) := by decide +kernel
theorem d_M_copy_158 : decode prog_14_method_20_code 158 = .ok (.invokevirtual 161, 3) := by decide +kernel
theorem d_M_copy_161 : decode prog_14_method_20_code 161 = .ok (.ireturn, 1) := by decide +kernel
theorem d_M_copy_162 : decode prog_14_method_20_code 162 = .ok (.iconst 0, 1) := by decide +kernel
theorem d_M_copy_163 : decode prog_14_method_20_code 163 = .ok (.istore 6, 2) := by decide +kernel
theorem d_M_copy_165 : decode prog_14_method_20_code 165 = .ok (.iload 6, 2) := by decide +kernel
theorem d_M_copy_167 : decode prog_14_method_20_code 167 = .ok (.iload 5, 2) := by decide +kernel
theorem d_M_copy_169 : decode prog_14_method_20_code 169 = .ok (.if_icmp .ge 30, 3) := by decide +kernel
theorem d_M_copy_172 : decode prog_14_method_20_code 172 = .ok (.aload_n 0, 1) := by decide +kernel
theorem d_M_copy_173 : decode prog_14_method_20_code 173 = .ok (.getfield 148, 3) := by decide +kernel
theorem d_M_copy_176 : decode prog_14_method_20_code 176 = .ok (.iload 6, 2) := by decide +kernel
theorem d_M_copy_178 : decode prog_14_method_20_code 178 = .ok (.aload_n 0, 1) := by decide +kernel
theorem d_M_copy_179 : decode prog_14_method_20_code 179 = .ok (.getfield 78, 3) := by decide +kernel
theorem d_M_copy_182 : decode prog_14_method_20_code 182 = .ok (.bipush 60, 2) := by decide +kernel
theorem d_M_copy_184 : decode prog_14_method_20_code 184 = .ok (.iload_n 1, 1) := by decide +kernel
theorem d_M_copy_185 : decode prog_14_method_20_code 185 = .ok (.imul, 1) := by decide +kernel
theorem d_M_copy_186 : decode prog_14_method_20_code 186 = .ok (.iload_n 3, 1) := by decide +kernel
theorem d_M_copy_187 : decode prog_14_method_20_code 187 = .ok (.iadd, 1) := by decide +kernel
theorem d_M_copy_188 : decode prog_14_method_20_code 188 = .ok (.iload 6, 2) := by decide +kernel
theorem d_M_copy_190 : decode prog_14_method_20_code 190 = .ok (.iadd, 1) := by decide +kernel
theorem d_M_copy_191 : decode prog_14_method_20_code 191 = .ok (.laload, 1) := by decide +kernel
theorem d_M_copy_192 : decode prog_14_method_20_code 192 = .ok (.lastore, 1) := by decide +kernel
theorem d_M_copy_193 : decode prog_14_method_20_code 193 = .ok (.iinc 6 1, 3) := by decide +kernel
theorem d_M_copy_196 : decode prog_14_method_20_code 196 = .ok (.goto (-31), 3) := by decide +kernel
theorem d_M_copy_199 : decode prog_14_method_20_code 199 = .ok (.iconst 0, 1) := by decide +kernel
theorem d_M_copy_200 : decode prog_14_method_20_code 200 = .ok (.istore 6, 2) := by decide +kernel
theorem d_M_copy_202 : decode prog_14_method_20_code 202 = .ok (.iload 6, 2) := by decide +kernel
theorem d_M_copy_204 : decode prog_14_method_20_code 204 = .ok (.iload 5, 2) := by decide +kernel
theorem d_M_copy_206 : decode prog_14_method_20_code 206 = .ok (.if_icmp .ge 31, 3) := by decide +kernel
theorem d_M_copy_209 : decode prog_14_method_20_code 209 = .ok (.aload_n 0, 1) := by decide +kernel
theorem d_M_copy_210 : decode prog_14_method_20_code 210 = .ok (.getfield 78, 3) := by decide +kernel
theorem d_M_copy_213 : decode prog_14_method_20_code 213 = .ok (.bipush 60, 2) := by decide +kernel
theorem d_M_copy_215 : decode prog_14_method_20_code 215 = .ok (.iload_n 2, 1) := by decide +kernel
theorem d_M_copy_216 : decode prog_14_method_20_code 216 = .ok (.imul, 1) := by decide +kernel
theorem d_M_copy_217 : decode prog_14_method_20_code 217 = .ok (.iload 4, 2) := by decide +kernel
theorem d_M_copy_219 : decode prog_14_method_20_code 219 = .ok (.iadd, 1) := by decide +kernel
theorem d_M_copy_220 : decode prog_14_method_20_code 220 = .ok (.iload 6, 2) := by decide +kernel
theorem d_M_copy_222 : decode prog_14_method_20_code 222 = .ok (.iadd, 1) := by decide +kernel
theorem d_M_copy_223 : decode prog_14_method_20_code 223 = .ok (.aload_n 0, 1) := by decide +kernel
theorem d_M_copy_224 : decode prog_14_method_20_code 224 = .ok (.getfield 148, 3) := by decide +kernel
theorem d_M_copy_227 : decode prog_14_method_20_code 227 = .ok (.iload 6, 2) := by decide +kernel
theorem d_M_copy_229 : decode prog_14_method_20_code 229 = .ok (.laload, 1) := by decide +kernel
theorem d_M_copy_230 : decode prog_14_method_20_code 230 = .ok (.lastore, 1) := by decide +kernel
theorem d_M_copy_231 : decode prog_14_method_20_code 231 = .ok (.iinc 6 1, 3) := by decide +kernel
theorem d_M_copy_234 : decode prog_14_method_20_code 234 = .ok (.goto (-32), 3) := by decide +kernel
theorem d_M_copy_237 : decode prog_14_method_20_code 237 = .ok (.iconst 1, 1) := by decide +kernel
theorem d_M_copy_238 : decode prog_14_method_20_code 238 = .ok (.ireturn, 1) := by decide +kernel
theorem d_M_element_0 : decode prog_14_method_21_code 0 = .ok (.iload_n 1, 1) := by decide +kernel
theorem d_M_element_1 : decode prog_14_method_21_code 1 = .ok (.invokestatic 190, 3) := by decide +kernel
theorem d_M_element_4 : decode prog_14_method_21_code 4 = .ok (.ifCond .eq 41, 3) := by decide +kernel
theorem d_M_element_7 : decode prog_14_method_21_code 7 = .ok (.aload_n 0, 1) := by decide +kernel
theorem d_M_element_8 : decode prog_14_method_21_code 8 = .ok (.getfield 66, 3) := by decide +kernel
theorem d_M_element_11 : decode prog_14_method_21_code 11 = .ok (.iload_n 1, 1) := by decide +kernel
theorem d_M_element_12 : decode prog_14_method_21_code 12 = .ok (.iaload, 1) := by decide +kernel
theorem d_M_element_13 : decode prog_14_method_21_code 13 = .ok (.iconst 1, 1) := by decide +kernel
theorem d_M_element_14 : decode prog_14_method_21_code 14 = .ok (.if_icmp .ne 31, 3) := by decide +kernel
theorem d_M_element_17 : decode prog_14_method_21_code 17 = .ok (.iload_n 2, 1) := by decide +kernel
theorem d_M_element_18 : decode prog_14_method_21_code 18 = .ok (.ifCond .lt 27, 3) := by decide +kernel
theorem d_M_element_21 : decode prog_14_method_21_code 21 = .ok (.iload_n 2, 1) := by decide +kernel
theorem d_M_element_22 : decode prog_14_method_21_code 22 = .ok (.aload_n 0, 1) := by decide +kernel
theorem d_M_element_23 : decode prog_14_method_21_code 23 = .ok (.getfield 72, 3) := by decide +kernel
theorem d_M_element_26 : decode prog_14_method_21_code 26 = .ok (.iload_n 1, 1) := by decide +kernel
theorem d_M_element_27 : decode prog_14_method_21_code 27 = .ok (.iaload, 1) := by decide +kernel
theorem d_M_element_28 : decode prog_14_method_21_code 28 = .ok (.if_icmp .ge 17, 3) := by decide +kernel
theorem d_M_element_31 : decode prog_14_method_21_code 31 = .ok (.aload_n 0, 1) := by decide +kernel
theorem d_M_element_32 : decode prog_14_method_21_code 32 = .ok (.getfield 78, 3) := by decide +kernel
theorem d_M_element_35 : decode prog_14_method_21_code 35 = .ok (.bipush 60, 2) := by decide +kernel
theorem d_M_element_37 : decode prog_14_method_21_code 37 = .ok (.iload_n 1, 1) := by decide +kernel
theorem d_M_element_38 : decode prog_14_method_21_code 38 = .ok (.imul, 1) := by decide +kernel
theorem d_M_element_39 : decode prog_14_method_21_code 39 = .ok (.iload_n 2, 1) := by decide +kernel
theorem d_M_element_40 : decode prog_14_method_21_code 40 = .ok (.iadd, 1) := by decide +kernel
theorem d_M_element_41 : decode prog_14_method_21_code 41 = .ok (.laload, 1) := by decide +kernel
theorem d_M_element_42 : decode prog_14_method_21_code 42 = .ok (.goto 4, 3) := by decide +kernel
theorem d_M_element_45 : decode prog_14_method_21_code 45 = .ok (.lconst 0, 1) := by decide +kernel
theorem d_M_element_46 : decode prog_14_method_21_code 46 = .ok (.lreturn, 1) := by decide +kernel
theorem d_M_show_0 : decode prog_14_method_22_code 0 = .ok (.iload_n 1, 1) := by decide +kernel
theorem d_M_show_1 : decode prog_14_method_22_code 1 = .ok (.invokestatic 190, 3) := by decide +kernel
theorem d_M_show_4 : decode prog_14_method_22_code 4 = .ok (.ifCond .eq 16, 3) := by decide +kernel
theorem d_M_show_7 : decode prog_14_method_22_code 7 = .ok (.iload_n 2, 1) := by decide +kernel
theorem d_M_show_8 : decode prog_14_method_22_code 8 = .ok (.iconst (-1), 1) := by decide +kernel
theorem d_M_show_9 : decode prog_14_method_22_code 9 = .ok (.if_icmp .eq 17, 3) := by decide +kernel
theorem d_M_show_12 : decode prog_14_method_22_code 12 = .ok (.aload_n 0, 1) := by decide +kernel
theorem d_M_show_13 : decode prog_14_method_22_code 13 = .ok (.iload_n 2, 1) := by decide +kernel
theorem d_M_show_14 : decode prog_14_method_22_code 14 = .ok (.invokevirtual 204, 3) := by decide +kernel
theorem d_M_show_17 : decode prog_14_method_22_code 17 = .ok (.ifCond .ne 9, 3) := by decide +kernel
theorem d_M_show_20 : decode prog_14_method_22_code 20 = .ok (.aload_n 0, 1) := by decide +kernel
theorem d_M_show_21 : decode prog_14_method_22_code 21 = .ok (.iconst (-1), 1) := by decide +kernel
theorem d_M_show_22 : decode prog_14_method_22_code 22 = .ok (.invokevirtual 161, 3) := by decide +kernel
theorem d_M_show_25 : decode prog_14_method_22_code 25 = .ok (.ireturn, 1) := by decide +kernel
theorem d_M_show_26 : decode prog_14_method_22_code 26 = .ok (.aload_n 0, 1) := by decide +kernel
theorem d_M_show_27 : decode prog_14_method_22_code 27 = .ok (.getfield 66, 3) := by decide +kernel
theorem d_M_show_30 : decode prog_14_method_22_code 30 = .ok (.iload_n 1, 1) := by decide +kernel
theorem d_M_show_31 : decode prog_14_method_22_code 31 = .ok (.iload_n 2, 1) := by decide +kernel
theorem d_M_show_32 : decode prog_14_method_22_code 32 = .ok (.iconst (-1), 1) := by decide +kernel
theorem d_M_show_33 : decode prog_14_method_22_code 33 = .ok (.if_icmp .ne 7, 3) := by decide +kernel
theorem d_M_show_36 : decode prog_14_method_22_code 36 = .ok (.iconst 0, 1) := by decide +kernel
theorem d_M_show_37 : decode prog_14_method_22_code 37 = .ok (.goto 4, 3) := by decide +kernel
theorem d_M_show_40 : decode prog_14_method_22_code 40 = .ok (.iconst 2, 1) := by decide +kernel
theorem d_M_show_41 : decode prog_14_method_22_code 41 = .ok (.iastore, 1) := by decide +kernel
theorem d_M_show_42 : decode prog_14_method_22_code 42 = .ok (.aload_n 0, 1) := by decide +kernel
theorem d_M_show_43 : decode prog_14_method_22_code 43 = .ok (.getfield 75, 3) := by decide +kernel
theorem d_M_show_46 : decode prog_14_method_22_code 46 = .ok (.iload_n 1, 1) := by decide +kernel
theorem d_M_show_47 : decode prog_14_method_22_code 47 = .ok (.iload_n 2, 1) := by decide +kernel
theorem d_M_show_48 : decode prog_14_method_22_code 48 = .ok (.iastore, 1) := by decide +kernel
theorem d_M_show_49 : decode prog_14_method_22_code 49 = .ok (.iload_n 2, 1) := by decide +kernel
theorem d_M_show_50 : decode prog_14_method_22_code 50 = .ok (.iconst (-1), 1) := by decide +kernel
theorem d_M_show_51 : decode prog_14_method_22_code 51 = .ok (.if_icmp .ne 7, 3) := by decide +kernel
theorem d_M_show_54 : decode prog_14_method_22_code 54 = .ok (.iconst 0, 1) := by decide +kernel
theorem d_M_show_55 : decode prog_14_method_22_code 55 = .ok (.goto 4, 3) := by decide +kernel
theorem d_M_show_58 : decode prog_14_method_22_code 58 = .ok (.iconst 1, 1) := by decide +kernel
theorem d_M_show_59 : decode prog_14_method_22_code 59 = .ok (.ireturn, 1) := by decide +kernel
theorem d_M_holds_0 : decode prog_14_method_23_code 0 = .ok (.iload_n 1, 1) := by decide +kernel
theorem d_M_holds_1 : decode prog_14_method_23_code 1 = .ok (.invokestatic 190, 3) := by decide +kernel
theorem d_M_holds_4 : decode prog_14_method_23_code 4 = .ok (.ifCond .eq 12, 3) := by decide +kernel
theorem d_M_holds_7 : decode prog_14_method_23_code 7 = .ok (.aload_n 0, 1) := by decide +kernel
theorem d_M_holds_8 : decode prog_14_method_23_code 8 = .ok (.getfield 66, 3) := by decide +kernel
theorem d_M_holds_11 : decode prog_14_method_23_code 11 = .ok (.iload_n 1, 1) := by decide +kernel
theorem d_M_holds_12 : decode prog_14_method_23_code 12 = .ok (.iaload, 1) := by decide +kernel
theorem d_M_holds_13 : decode prog_14_method_23_code 13 = .ok (.ifCond .ne 5, 3) := by decide +kernel
theorem d_M_holds_16 : decode prog_14_method_23_code 16 = .ok (.iconst (-1), 1) := by decide +kernel
theorem d_M_holds_17 : decode prog_14_method_23_code 17 = .ok (.ireturn, 1) := by decide +kernel
theorem d_M_holds_18 : decode prog_14_method_23_code 18 = .ok (.aload_n 0, 1) := by decide +kernel
theorem d_M_holds_19 : decode prog_14_method_23_code 19 = .ok (.getfield 66, 3) := by decide +kernel
theorem d_M_holds_22 : decode prog_14_method_23_code 22 = .ok (.iload_n 1, 1) := by decide +kernel
theorem d_M_holds_23 : decode prog_14_method_23_code 23 = .ok (.iaload, 1) := by decide +kernel
theorem d_M_holds_24 : decode prog_14_method_23_code 24 = .ok (.iconst 1, 1) := by decide +kernel
theorem d_M_holds_25 : decode prog_14_method_23_code 25 = .ok (.if_icmp .ne 15, 3) := by decide +kernel
theorem d_M_holds_28 : decode prog_14_method_23_code 28 = .ok (.bipush 100, 2) := by decide +kernel
theorem d_M_holds_30 : decode prog_14_method_23_code 30 = .ok (.aload_n 0, 1) := by decide +kernel
theorem d_M_holds_31 : decode prog_14_method_23_code 31 = .ok (.getfield 69, 3) := by decide +kernel
theorem d_M_holds_34 : decode prog_14_method_23_code 34 = .ok (.iload_n 1, 1) := by decide +kernel
theorem d_M_holds_35 : decode prog_14_method_23_code 35 = .ok (.iaload, 1) := by decide +kernel
theorem d_M_holds_36 : decode prog_14_method_23_code 36 = .ok (.iadd, 1) := by decide +kernel
theorem d_M_holds_37 : decode prog_14_method_23_code 37 = .ok (.goto 9, 3) := by decide +kernel
theorem d_M_holds_40 : decode prog_14_method_23_code 40 = .ok (.aload_n 0, 1) := by decide +kernel
theorem d_M_holds_41 : decode prog_14_method_23_code 41 = .ok (.getfield 75, 3) := by decide +kernel
theorem d_M_holds_44 : decode prog_14_method_23_code 44 = .ok (.iload_n 1, 1) := by decide +kernel
theorem d_M_holds_45 : decode prog_14_method_23_code 45 = .ok (.iaload, 1) := by decide +kernel
theorem d_M_holds_46 : decode prog_14_method_23_code 46 = .ok (.ireturn, 1) := by decide +kernel
theorem d_M_worthIn_0 : decode prog_14_method_24_code 0 = .ok (.iload_n 1, 1) := by decide +kernel
theorem d_M_worthIn_1 : decode prog_14_method_24_code 1 = .ok (.invokestatic 190, 3) := by decide +kernel
theorem d_M_worthIn_4 : decode prog_14_method_24_code 4 = .ok (.ifCond .ne 9, 3) := by decide +kernel
theorem d_M_worthIn_7 : decode prog_14_method_24_code 7 = .ok (.aload_n 0, 1) := by decide +kernel
theorem d_M_worthIn_8 : decode prog_14_method_24_code 8 = .ok (.iconst (-1), 1) := by decide +kernel
theorem d_M_worthIn_9 : decode prog_14_method_24_code 9 = .ok (.invokevirtual 161, 3) := by decide +kernel
theorem d_M_worthIn_12 : decode prog_14_method_24_code 12 = .ok (.ireturn, 1) := by decide +kernel
theorem d_M_worthIn_13 : decode prog_14_method_24_code 13 = .ok (.aload_n 0, 1) := by decide +kernel
theorem d_M_worthIn_14 : decode prog_14_method_24_code 14 = .ok (.getfield 66, 3) := by decide +kernel
theorem d_M_worthIn_17 : decode prog_14_method_24_code 17 = .ok (.iload_n 1, 1) := by decide +kernel
theorem d_M_worthIn_18 : decode prog_14_method_24_code 18 = .ok (.iaload, 1) := by decide +kernel
theorem d_M_worthIn_19 : decode prog_14_method_24_code 19 = .ok (.iconst 1, 1) := by decide +kernel
theorem d_M_worthIn_20 : decode prog_14_method_24_code 20 = .ok (.if_icmp .ne 10, 3) := by decide +kernel
theorem d_M_worthIn_23 : decode prog_14_method_24_code 23 = .ok (.aload_n 0, 1) := by decide +kernel
theorem d_M_worthIn_24 : decode prog_14_method_24_code 24 = .ok (.bipush (-2), 2) := by decide +kernel
theorem d_M_worthIn_26 : decode prog_14_method_24_code 26 = .ok (.invokevirtual 161, 3) := by decide +kernel
theorem d_M_worthIn_29 : decode prog_14_method_24_code 29 = .ok (.ireturn, 1) := by decide +kernel
theorem d_M_worthIn_30 : decode prog_14_method_24_code 30 = .ok (.aload_n 0, 1) := by decide +kernel
theorem d_M_worthIn_31 : decode prog_14_method_24_code 31 = .ok (.getfield 66, 3) := by decide +kernel
theorem d_M_worthIn_34 : decode prog_14_method_24_code 34 = .ok (.iload_n 1, 1) := by decide +kernel
theorem d_M_worthIn_35 : decode prog_14_method_24_code 35 = .ok (.iaload, 1) := by decide +kernel
theorem d_M_worthIn_36 : decode prog_14_method_24_code 36 = .ok (.ifCond .ne 12, 3) := by decide +kernel
theorem d_M_worthIn_39 : decode prog_14_method_24_code 39 = .ok (.aload_n 0, 1) := by decide +kernel
theorem d_M_worthIn_40 : decode prog_14_method_24_code 40 = .ok (.bipush (-3), 2) := by decide +kernel
theorem d_M_worthIn_42 : decode prog_14_method_24_code 42 = .ok (.invokevirtual 161, 3) := by decide +kernel
theorem d_M_worthIn_45 : decode prog_14_method_24_code 45 = .ok (.goto 14, 3) := by decide +kernel
theorem d_M_worthIn_48 : decode prog_14_method_24_code 48 = .ok (.aload_n 0, 1) := by decide +kernel
theorem d_M_worthIn_49 : decode prog_14_method_24_code 49 = .ok (.getfield 36, 3) := by decide +kernel
theorem d_M_worthIn_52 : decode prog_14_method_24_code 52 = .ok (.aload_n 0, 1) := by decide +kernel
theorem d_M_worthIn_53 : decode prog_14_method_24_code 53 = .ok (.getfield 75, 3) := by decide +kernel
theorem d_M_worthIn_56 : decode prog_14_method_24_code 56 = .ok (.iload_n 1, 1) := by decide +kernel
theorem d_M_worthIn_57 : decode prog_14_method_24_code 57 = .ok (.iaload, 1) := by decide +kernel
theorem d_M_worthIn_58 : decode prog_14_method_24_code 58 = .ok (.iaload, 1) := by decide +kernel
theorem d_M_worthIn_59 : decode prog_14_method_24_code 59 = .ok (.ireturn, 1) := by decide +kernel
theorem d_M_isInRoom_0 : decode prog_14_method_25_code 0 = .ok (.aload_n 0, 1) := by decide +kernel
theorem d_M_isInRoom_1 : decode prog_14_method_25_code 1 = .ok (.getfield 45, 3) := by decide +kernel
theorem d_M_isInRoom_4 : decode prog_14_method_25_code 4 = .ok (.iload_n 1, 1) := by decide +kernel
theorem d_M_isInRoom_5 : decode prog_14_method_25_code 5 = .ok (.iaload, 1) := by decide +kernel
theorem d_M_isInRoom_6 : decode prog_14_method_25_code 6 = .ok (.bipush 100, 2) := by decide +kernel
theorem d_M_isInRoom_8 : decode prog_14_method_25_code 8 = .ok (.if_icmp .lt 19, 3) := by decide +kernel
theorem d_M_isInRoom_11 : decode prog_14_method_25_code 11 = .ok (.aload_n 0, 1) := by decide +kernel
theorem d_M_isInRoom_12 : decode prog_14_method_25_code 12 = .ok (.getfield 45, 3) := by decide +kernel
theorem d_M_isInRoom_15 : decode prog_14_method_25_code 15 = .ok (.iload_n 1, 1) := by decide +kernel
theorem d_M_isInRoom_16 : decode prog_14_method_25_code 16 = .ok (.iaload, 1) := by decide +kernel
theorem d_M_isInRoom_17 : decode prog_14_method_25_code 17 = .ok (.sipush 200, 3) := by decide +kernel
theorem d_M_isInRoom_20 : decode prog_14_method_25_code 20 = .ok (.if_icmp .ge 7, 3) := by decide +kernel
theorem d_M_isInRoom_23 : decode prog_14_method_25_code 23 = .ok (.iconst 1, 1) := by decide +kernel
theorem d_M_isInRoom_24 : decode prog_14_method_25_code 24 = .ok (.goto 4, 3) := by decide +kernel
theorem d_M_isInRoom_27 : decode prog_14_method_25_code 27 = .ok (.iconst 0, 1) := by decide +kernel
theorem d_M_isInRoom_28 : decode prog_14_method_25_code 28 = .ok (.ireturn, 1) := by decide +kernel
theorem d_M_farOf_0 : decode prog_14_method_26_code 0 = .ok (.aload_n 0, 1) := by decide +kernel
theorem d_M_farOf_1 : decode prog_14_method_26_code 1 = .ok (.getfield 30, 3) := by decide +kernel
theorem d_M_farOf_4 : decode prog_14_method_26_code 4 = .ok (.aload_n 0, 1) := by decide +kernel
theorem d_M_farOf_5 : decode prog_14_method_26_code 5 = .ok (.getfield 45, 3) := by decide +kernel
theorem d_M_farOf_8 : decode prog_14_method_26_code 8 = .ok (.iload_n 1, 1) := by decide +kernel
theorem d_M_farOf_9 : decode prog_14_method_26_code 9 = .ok (.iaload, 1) := by decide +kernel
theorem d_M_farOf_10 : decode prog_14_method_26_code 10 = .ok (.bipush 100, 2) := by decide +kernel
theorem d_M_farOf_12 : decode prog_14_method_26_code 12 = .ok (.isub, 1) := by decide +kernel
theorem d_M_farOf_13 : decode prog_14_method_26_code 13 = .ok (.iaload, 1) := by decide +kernel
theorem d_M_farOf_14 : decode prog_14_method_26_code 14 = .ok (.ireturn, 1) := by decide +kernel
theorem d_M_length_0 : decode prog_14_method_27_code 0 = .ok (.iconst 2, 1) := by decide +kernel
theorem d_M_length_1 : decode prog_14_method_27_code 1 = .ok (.aload_n 0, 1) := by decide +kernel
theorem d_M_length_2 : decode prog_14_method_27_code 2 = .ok (.iload_n 1, 1) := by decide +kernel
theorem d_M_length_3 : decode prog_14_method_27_code 3 = .ok (.invokevirtual 207, 3) := by decide +kernel
theorem d_M_length_6 : decode prog_14_method_27_code 6 = .ok (.imul, 1) := by decide +kernel
theorem d_M_length_7 : decode prog_14_method_27_code 7 = .ok (.aload_n 0, 1) := by decide +kernel
theorem d_M_length_8 : decode prog_14_method_27_code 8 = .ok (.getfield 42, 3) := by decide +kernel
theorem d_M_length_11 : decode prog_14_method_27_code 11 = .ok (.iload_n 1, 1) := by decide +kernel
theorem d_M_length_12 : decode prog_14_method_27_code 12 = .ok (.iaload, 1) := by decide +kernel
theorem d_M_length_13 : decode prog_14_method_27_code 13 = .ok (.iadd, 1) := by decide +kernel
theorem d_M_length_14 : decode prog_14_method_27_code 14 = .ok (.istore_n 2, 1) := by decide +kernel
theorem d_M_length_15 : decode prog_14_method_27_code 15 = .ok (.iload_n 2, 1) := by decide +kernel
theorem d_M_length_16 : decode prog_14_method_27_code 16 = .ok (.iconst 1, 1) := by decide +kernel
theorem d_M_length_17 : decode prog_14_method_27_code 17 = .ok (.if_icmp .ge 7, 3) := by decide +kernel
theorem d_M_length_20 : decode prog_14_method_27_code 20 = .ok (.iconst 1, 1) := by decide +kernel
theorem d_M_length_21 : decode prog_14_method_27_code 21 = .ok (.goto 4, 3) := by decide +kernel
theorem d_M_length_24 : decode prog_14_method_27_code 24 = .ok (.iload_n 2, 1) := by decide +kernel
theorem d_M_length_25 : decode prog_14_method_27_code 25 = .ok (.ireturn, 1) := by decide +kernel
theorem d_M_latest_0 : decode prog_14_method_28_code 0 = .ok (.aload_n 0, 1) := by decide +kernel
theorem d_M_latest_1 : decode prog_14_method_28_code 1 = .ok (.getfield 210, 3) := by decide +kernel
theorem d_M_latest_4 : decode prog_14_method_28_code 4 = .ok (.aload_n 0, 1) := by decide +kernel
theorem d_M_latest_5 : decode prog_14_method_28_code 5 = .ok (.iload_n 1, 1) := by decide +kernel
theorem d_M_latest_6 : decode prog_14_method_28_code 6 = .ok (.invokevirtual 213, 3) := by decide +kernel
theorem d_M_latest_9 : decode prog_14_method_28_code 9 = .ok (.isub, 1) := by decide +kernel
theorem d_M_latest_10 : decode prog_14_method_28_code 10 = .ok (.istore_n 2, 1) := by decide +kernel
theorem d_M_latest_11 : decode prog_14_method_28_code 11 = .ok (.aload_n 0, 1) := by decide +kernel
theorem d_M_latest_12 : decode prog_14_method_28_code 12 = .ok (.getfield 27, 3) := by decide +kernel
theorem d_M_latest_15 : decode prog_14_method_28_code 15 = .ok (.aload_n 0, 1) := by decide +kernel
theorem d_M_latest_16 : decode prog_14_method_28_code 16 = .ok (.getfield 45, 3) := by decide +kernel
theorem d_M_latest_19 : decode prog_14_method_28_code 19 = .ok (.iload_n 1, 1) := by decide +kernel
theorem d_M_latest_20 : decode prog_14_method_28_code 20 = .ok (.iaload, 1) := by decide +kernel
theorem d_M_latest_21 : decode prog_14_method_28_code 21 = .ok (.bipush 100, 2) := by decide +kernel
theorem d_M_latest_23 : decode prog_14_method_28_code 23 = .ok (.isub, 1) := by decide +kernel
theorem d_M_latest_24 : decode prog_14_method_28_code 24 = .ok (.iaload, 1) := by decide +kernel
theorem d_M_latest_25 : decode prog_14_method_28_code 25 = .ok (.istore_n 3, 1) := by decide +kernel
theorem d_M_latest_26 : decode prog_14_method_28_code 26 = .ok (.iload_n 3, 1) := by decide +kernel
theorem d_M_latest_27 : decode prog_14_method_28_code 27 = .ok (.iconst (-1), 1) := by decide +kernel
theorem d_M_latest_28 : decode prog_14_method_28_code 28 = .ok (.if_icmp .eq 26, 3) := by decide +kernel
theorem d_M_latest_31 : decode prog_14_method_28_code 31 = .ok (.iload_n 3, 1) := by decide +kernel
theorem d_M_latest_32 : decode prog_14_method_28_code 32 = .ok (.aload_n 0, 1) := by decide +kernel
theorem d_M_latest_33 : decode prog_14_method_28_code 33 = .ok (.iload_n 1, 1) := by decide +kernel
theorem d_M_latest_34 : decode prog_14_method_28_code 34 = .ok (.invokevirtual 207, 3) := by decide +kernel
theorem d_M_latest_37 : decode prog_14_method_28_code 37 = .ok (.isub, 1) := by decide +kernel
theorem d_M_latest_38 : decode prog_14_method_28_code 38 = .ok (.iconst 1, 1) := by decide +kernel
theorem d_M_latest_39 : decode prog_14_method_28_code 39 = .ok (.isub, 1) := by decide +kernel
theorem d_M_latest_40 : decode prog_14_method_28_code 40 = .ok (.iload_n 2, 1) := by decide +kernel
theorem d_M_latest_41 : decode prog_14_method_28_code 41 = .ok (.if_icmp .ge 13, 3) := by decide +kernel
theorem d_M_latest_44 : decode prog_14_method_28_code 44 = .ok (.iload_n 3, 1) := by decide +kernel
theorem d_M_latest_45 : decode prog_14_method_28_code 45 = .ok (.aload_n 0, 1) := by decide +kernel
theorem d_M_latest_46 : decode prog_14_method_28_code 46 = .ok (.iload_n 1, 1) := by decide +kernel
theorem d_M_latest_47 : decode prog_14_method_28_code 47 = .ok (.invokevirtual 207, 3) := by decide +kernel
theorem d_M_latest_50 : decode prog_14_method_28_code 50 = .ok (.isub, 1) := by decide +kernel
theorem d_M_latest_51 : decode prog_14_method_28_code 51 = .ok (.iconst 1, 1) := by decide +kernel
theorem d_M_latest_52 : decode prog_14_method_28_code 52 = .ok (.isub, 1) := by decide +kernel
theorem d_M_latest_53 : decode prog_14_method_28_code 53 = .ok (.istore_n 2, 1) := by decide +kernel
theorem d_M_latest_54 : decode prog_14_method_28_code 54 = .ok (.iload_n 2, 1) := by decide +kernel
theorem d_M_latest_55 : decode prog_14_method_28_code 55 = .ok (.ireturn, 1) := by decide +kernel
theorem d_M_due_0 : decode prog_14_method_29_code 0 = .ok (.aload_n 0, 1) := by decide +kernel
theorem d_M_due_1 : decode prog_14_method_29_code 1 = .ok (.iload_n 1, 1) := by decide +kernel
theorem d_M_due_2 : decode prog_14_method_29_code 2 = .ok (.invokevirtual 216, 3) := by decide +kernel
theorem d_M_due_5 : decode prog_14_method_29_code 5 = .ok (.aload_n 0, 1) := by decide +kernel
theorem d_M_due_6 : decode prog_14_method_29_code 6 = .ok (.iload_n 1, 1) := by decide +kernel
theorem d_M_due_7 : decode prog_14_method_29_code 7 = .ok (.invokevirtual 213, 3) := by decide +kernel
theorem d_M_due_10 : decode prog_14_method_29_code 10 = .ok (.iadd, 1) := by decide +kernel
theorem d_M_due_11 : decode prog_14_method_29_code 11 = .ok (.ireturn, 1) := by decide +kernel
theorem d_M_isJob_0 : decode prog_14_method_30_code 0 = .ok (.aload_n 0, 1) := by decide +kernel
theorem d_M_isJob_1 : decode prog_14_method_30_code 1 = .ok (.iload_n 1, 1) := by decide +kernel
theorem d_M_isJob_2 : decode prog_14_method_30_code 2 = .ok (.invokevirtual 219, 3) := by decide +kernel
theorem d_M_isJob_5 : decode prog_14_method_30_code 5 = .ok (.ifCond .eq 31, 3) := by decide +kernel
theorem d_M_isJob_8 : decode prog_14_method_30_code 8 = .ok (.aload_n 0, 1) := by decide +kernel
theorem d_M_isJob_9 : decode prog_14_method_30_code 9 = .ok (.iload_n 1, 1) := by decide +kernel
theorem d_M_isJob_10 : decode prog_14_method_30_code 10 = .ok (.invokevirtual 207, 3) := by decide +kernel
theorem d_M_isJob_13 : decode prog_14_method_30_code 13 = .ok (.iconst (-1), 1) := by decide +kernel
theorem d_M_isJob_14 : decode prog_14_method_30_code 14 = .ok (.if_icmp .eq 22, 3) := by decide +kernel
theorem d_M_isJob_17 : decode prog_14_method_30_code 17 = .ok (.aload_n 0, 1) := by decide +kernel
theorem d_M_isJob_18 : decode prog_14_method_30_code 18 = .ok (.getfield 39, 3) := by decide +kernel
theorem d_M_isJob_21 : decode prog_14_method_30_code 21 = .ok (.iload_n 1, 1) := by decide +kernel
theorem d_M_isJob_22 : decode prog_14_method_30_code 22 = .ok (.iaload, 1) := by decide +kernel
theorem d_M_isJob_23 : decode prog_14_method_30_code 23 = .ok (.aload_n 0, 1) := by decide +kernel
theorem d_M_isJob_24 : decode prog_14_method_30_code 24 = .ok (.getfield 57, 3) := by decide +kernel
theorem d_M_isJob_27 : decode prog_14_method_30_code 27 = .ok (.iload_n 2, 1) := by decide +kernel
theorem d_M_isJob_28 : decode prog_14_method_30_code 28 = .ok (.iaload, 1) := by decide +kernel
theorem d_M_isJob_29 : decode prog_14_method_30_code 29 = .ok (.if_icmp .gt 7, 3) := by decide +kernel
theorem d_M_isJob_32 : decode prog_14_method_30_code 32 = .ok (.iconst 1, 1) := by decide +kernel
theorem d_M_isJob_33 : decode prog_14_method_30_code 33 = .ok (.goto 4, 3) := by decide +kernel
theorem d_M_isJob_36 : decode prog_14_method_30_code 36 = .ok (.iconst 0, 1) := by decide +kernel
theorem d_M_isJob_37 : decode prog_14_method_30_code 37 = .ok (.ireturn, 1) := by decide +kernel
theorem d_M_freeOf_0 : decode prog_14_method_31_code 0 = .ok (.aload_n 0, 1) := by decide +kernel
theorem d_M_freeOf_1 : decode prog_14_method_31_code 1 = .ok (.getfield 60, 3) := by decide +kernel
theorem d_M_freeOf_4 : decode prog_14_method_31_code 4 = .ok (.iload_n 1, 1) := by decide +kernel
theorem d_M_freeOf_5 : decode prog_14_method_31_code 5 = .ok (.iaload, 1) := by decide +kernel
theorem d_M_freeOf_6 : decode prog_14_method_31_code 6 = .ok (.aload_n 0, 1) := by decide +kernel
theorem d_M_freeOf_7 : decode prog_14_method_31_code 7 = .ok (.getfield 197, 3) := by decide +kernel
theorem d_M_freeOf_10 : decode prog_14_method_31_code 10 = .ok (.if_icmp .le 12, 3) := by decide +kernel
theorem d_M_freeOf_13 : decode prog_14_method_31_code 13 = .ok (.aload_n 0, 1) := by decide +kernel
theorem d_M_freeOf_14 : decode prog_14_method_31_code 14 = .ok (.getfield 60, 3) := by decide +kernel
theorem d_M_freeOf_17 : decode prog_14_method_31_code 17 = .ok (.iload_n 1, 1) := by decide +kernel
theorem d_M_freeOf_18 : decode prog_14_method_31_code 18 = .ok (.iaload, 1) := by decide +kernel
theorem d_M_freeOf_19 : decode prog_14_method_31_code 19 = .ok (.goto 7, 3) := by decide +kernel
theorem d_M_freeOf_22 : decode prog_14_method_31_code 22 = .ok (.aload_n 0, 1) := by decide +kernel
theorem d_M_freeOf_23 : decode prog_14_method_31_code 23 = .ok (.getfield 197, 3) := by decide +kernel
theorem d_M_freeOf_26 : decode prog_14_method_31_code 26 = .ok (.ireturn, 1) := by decide +kernel
theorem d_M_lines_0 : decode prog_14_method_32_code 0 = .ok (.iconst 0, 1) := by decide +kernel
theorem d_M_lines_1 : decode prog_14_method_32_code 1 = .ok (.istore_n 3, 1) := by decide +kernel
theorem d_M_lines_2 : decode prog_14_method_32_code 2 = .ok (.iconst 0, 1) := by decide +kernel
theorem d_M_lines_3 : decode prog_14_method_32_code 3 = .ok (.istore 4, 2) := by decide +kernel
theorem d_M_lines_5 : decode prog_14_method_32_code 5 = .ok (.iload 4, 2) := by decide +kernel
theorem d_M_lines_7 : decode prog_14_method_32_code 7 = .ok (.aload_n 0, 1) := by decide +kernel
theorem d_M_lines_8 : decode prog_14_method_32_code 8 = .ok (.getfield 151, 3) := by decide +kernel
theorem d_M_lines_11 : decode prog_14_method_32_code 11 = .ok (.if_icmp .ge 93, 3) := by decide +kernel
theorem d_M_lines_14 : decode prog_14_method_32_code 14 = .ok (.aload_n 2, 1) := by decide +kernel
theorem d_M_lines_15 : decode prog_14_method_32_code 15 = .ok (.iload 4, 2) := by decide +kernel
theorem d_M_lines_17 : decode prog_14_method_32_code 17 = .ok (.iaload, 1) := by decide +kernel
theorem d_M_lines_18 : decode prog_14_method_32_code 18 = .ok (.iload_n 1, 1) := by decide +kernel
theorem d_M_lines_19 : decode prog_14_method_32_code 19 = .ok (.if_icmp .ne 79, 3) := by decide +kernel
theorem d_M_lines_22 : decode prog_14_method_32_code 22 = .ok (.aload_n 0, 1) := by decide +kernel
theorem d_M_lines_23 : decode prog_14_method_32_code 23 = .ok (.iload 4, 2) := by decide +kernel
theorem d_M_lines_25 : decode prog_14_method_32_code 25 = .ok (.invokevirtual 219, 3) := by decide +kernel
theorem d_M_lines_28 : decode prog_14_method_32_code 28 = .ok (.ifCond .ne 6, 3) := by decide +kernel
theorem d_M_lines_31 : decode prog_14_method_32_code 31 = .ok (.goto 67, 3) := by decide +kernel
theorem d_M_lines_34 : decode prog_14_method_32_code 34 = .ok (.iload_n 3, 1) := by decide +kernel
theorem d_M_lines_35 : decode prog_14_method_32_code 35 = .ok (.iinc 3 1, 3) := by decide +kernel
theorem d_M_lines_38 : decode prog_14_method_32_code 38 = .ok (.istore 5, 2) := by decide +kernel
theorem d_M_lines_40 : decode prog_14_method_32_code 40 = .ok (.iload 5, 2) := by decide +kernel
theorem d_M_lines_42 : decode prog_14_method_32_code 42 = .ok (.ifCond .le 47, 3) := by decide +kernel
theorem d_M_lines_45 : decode prog_14_method_32_code 45 = .ok (.aload_n 0, 1) := by decide +kernel
theorem d_M_lines_46 : decode prog_14_method_32_code 46 = .ok (.aload_n 0, 1) := by decide +kernel
theorem d_M_lines_47 : decode prog_14_method_32_code 47 = .ok (.getfield 133, 3) := by decide +kernel
theorem d_M_lines_50 : decode prog_14_method_32_code 50 = .ok (.iload 5, 2) := by decide +kernel
theorem d_M_lines_52 : decode prog_14_method_32_code 52 = .ok (.iconst 1, 1) := by decide +kernel
theorem d_M_lines_53 : decode prog_14_method_32_code 53 = .ok (.isub, 1) := by decide +kernel
theorem d_M_lines_54 : decode prog_14_method_32_code 54 = .ok (.iaload, 1) := by decide +kernel
theorem d_M_lines_55 : decode prog_14_method_32_code 55 = .ok (.invokevirtual 222, 3) := by decide +kernel
theorem d_M_lines_58 : decode prog_14_method_32_code 58 = .ok (.aload_n 0, 1) := by decide +kernel
theorem d_M_lines_59 : decode prog_14_method_32_code 59 = .ok (.iload 4, 2) := by decide +kernel
theorem d_M_lines_61 : decode prog_14_method_32_code 61 = .ok (.invokevirtual 222, 3) := by decide +kernel
theorem d_M_lines_64 : decode prog_14_method_32_code 64 = .ok (.if_icmp .le 25, 3) := by decide +kernel
theorem d_M_lines_67 : decode prog_14_method_32_code 67 = .ok (.aload_n 0, 1) := by decide +kernel
theorem d_M_lines_68 : decode prog_14_method_32_code 68 = .ok (.getfield 133, 3) := by decide +kernel
theorem d_M_lines_71 : decode prog_14_method_32_code 71 = .ok (.iload 5, 2) := by decide +kernel
theorem d_M_lines_73 : decode prog_14_method_32_code 73 = .ok (.aload_n 0, 1) := by decide +kernel
theorem d_M_lines_74 : decode prog_14_method_32_code 74 = .ok (.getfield 133, 3) := by decide +kernel
theorem d_M_lines_77 : decode prog_14_method_32_code 77 = .ok (.iload 5, 2) := by decide +kernel
theorem d_M_lines_79 : decode prog_14_method_32_code 79 = .ok (.iconst 1, 1) := by decide +kernel
theorem d_M_lines_80 : decode prog_14_method_32_code 80 = .ok (.isub, 1) := by decide +kernel
theorem d_M_lines_81 : decode prog_14_method_32_code 81 = .ok (.iaload, 1) := by decide +kernel
theorem d_M_lines_82 : decode prog_14_method_32_code 82 = .ok (.iastore, 1) := by decide +kernel
theorem d_M_lines_83 : decode prog_14_method_32_code 83 = .ok (.iinc 5 (-1), 3) := by decide +kernel
theorem d_M_lines_86 : decode prog_14_method_32_code 86 = .ok (.goto (-46), 3) := by decide +kernel
theorem d_M_lines_89 : decode prog_14_method_32_code 89 = .ok (.aload_n 0, 1) := by decide +kernel
theorem d_M_lines_90 : decode prog_14_method_32_code 90 = .ok (.getfield 133, 3) := by decide +kernel
theorem d_M_lines_93 : decode prog_14_method_32_code 93 = .ok (.iload 5, 2) := by decide +kernel
theorem d_M_lines_95 : decode prog_14_method_32_code 95 = .ok (.iload 4, 2) := by decide +kernel
theorem d_M_lines_97 : decode prog_14_method_32_code 97 = .ok (.iastore, 1) := by decide +kernel
theorem d_M_lines_98 : decode prog_14_method_32_code 98 = .ok (.iinc 4 1, 3) := by decide +kernel
theorem d_M_lines_101 : decode prog_14_method_32_code 101 = .ok (.goto (-96), 3) := by decide +kernel
theorem d_M_lines_104 : decode prog_14_method_32_code 104 = .ok (.iload_n 3, 1) := by decide +kernel
theorem d_M_lines_105 : decode prog_14_method_32_code 105 = .ok (.ireturn, 1) := by decide +kernel
theorem d_M_isDoing_0 : decode prog_14_method_33_code 0 = .ok (.iconst 0, 1) := by decide +kernel
theorem d_M_isDoing_1 : decode prog_14_method_33_code 1 = .ok (.istore_n 3, 1) := by decide +kernel
theorem d_M_isDoing_2 : decode prog_14_method_33_code 2 = .ok (.iload_n 3, 1) := by decide +kernel
theorem d_M_isDoing_3 : decode prog_14_method_33_code 3 = .ok (.aload_n 0, 1) := by decide +kernel
theorem d_M_isDoing_4 : decode prog_14_method_33_code 4 = .ok (.getfield 151, 3) := by decide +kernel
theorem d_M_isDoing_7 : decode prog_14_method_33_code 7 = .ok (.if_icmp .ge 35, 3) := by decide +kernel
theorem d_M_isDoing_10 : decode prog_14_method_33_code 10 = .ok (.aload_n 2, 1) := by decide +kernel
theorem d_M_isDoing_11 : decode prog_14_method_33_code 11 = .ok (.iload_n 3, 1) := by decide +kernel
theorem d_M_isDoing_12 : decode prog_14_method_33_code 12 = .ok (.iaload, 1) := by decide +kernel
theorem d_M_isDoing_13 : decode prog_14_method_33_code 13 = .ok (.iload_n 1, 1) := by decide +kernel
theorem d_M_isDoing_14 : decode prog_14_method_33_code 14 = .ok (.if_icmp .ne 22, 3) := by decide +kernel
theorem d_M_isDoing_17 : decode prog_14_method_33_code 17 = .ok (.aload_n 0, 1) := by decide +kernel
theorem d_M_isDoing_18 : decode prog_14_method_33_code 18 = .ok (.iload_n 3, 1) := by decide +kernel
theorem d_M_isDoing_19 : decode prog_14_method_33_code 19 = .ok (.invokevirtual 219, 3) := by decide +kernel
theorem d_M_isDoing_22 : decode prog_14_method_33_code 22 = .ok (.ifCond .eq 14, 3) := by decide +kernel
theorem d_M_isDoing_25 : decode prog_14_method_33_code 25 = .ok (.aload_n 0, 1) := by decide +kernel
theorem d_M_isDoing_26 : decode prog_14_method_33_code 26 = .ok (.iload_n 3, 1) := by decide +kernel
theorem d_M_isDoing_27 : decode prog_14_method_33_code 27 = .ok (.iload_n 1, 1) := by decide +kernel
theorem d_M_isDoing_28 : decode prog_14_method_33_code 28 = .ok (.invokevirtual 225, 3) := by decide +kernel
theorem d_M_isDoing_31 : decode prog_14_method_33_code 31 = .ok (.ifCond .ne 5, 3) := by decide +kernel
theorem d_M_isDoing_34 : decode prog_14_method_33_code 34 = .ok (.iconst 0, 1) := by decide +kernel
theorem d_M_isDoing_35 : decode prog_14_method_33_code 35 = .ok (.ireturn, 1) := by decide +kernel
theorem d_M_isDoing_36 : decode prog_14_method_33_code 36 = .ok (.iinc 3 1, 3) := by decide +kernel
theorem d_M_isDoing_39 : decode prog_14_method_33_code 39 = .ok (.goto (-37), 3) := by decide +kernel
theorem d_M_isDoing_42 : decode prog_14_method_33_code 42 = .ok (.aload_n 0, 1) := by decide +kernel
theorem d_M_isDoing_43 : decode prog_14_method_33_code 43 = .ok (.iload_n 1, 1) := by decide +kernel
theorem d_M_isDoing_44 : decode prog_14_method_33_code 44 = .ok (.aload_n 2, 1) := by decide +kernel
theorem d_M_isDoing_45 : decode prog_14_method_33_code 45 = .ok (.invokevirtual 229, 3) := by decide +kernel
theorem d_M_isDoing_48 : decode prog_14_method_33_code 48 = .ok (.istore_n 3, 1) := by decide +kernel
theorem d_M_isDoing_49 : decode prog_14_method_33_code 49 = .ok (.aload_n 0, 1) := by decide +kernel
theorem d_M_isDoing_50 : decode prog_14_method_33_code 50 = .ok (.iload_n 1, 1) := by decide +kernel
theorem d_M_isDoing_51 : decode prog_14_method_33_code 51 = .ok (.invokevirtual 233, 3) := by decide +kernel
theorem d_M_isDoing_54 : decode prog_14_method_33_code 54 = .ok (.istore 4, 2) := by decide +kernel
theorem d_M_isDoing_56 : decode prog_14_method_33_code 56 = .ok (.iconst 0, 1) := by decide +kernel
theorem d_M_isDoing_57 : decode prog_14_method_33_code 57 = .ok (.istore 5, 2) := by decide +kernel
theorem d_M_isDoing_59 : decode prog_14_method_33_code 59 = .ok (.iload 5, 2) := by decide +kernel
theorem d_M_isDoing_61 : decode prog_14_method_33_code 61 = .ok (.iload_n 3, 1) := by decide +kernel
theorem d_M_isDoing_62 : decode prog_14_method_33_code 62 = .ok (.if_icmp .ge 43, 3) := by decide +kernel
theorem d_M_isDoing_65 : decode prog_14_method_33_code 65 = .ok (.iload 4, 2) := by decide +kernel
theorem d_M_isDoing_67 : decode prog_14_method_33_code 67 = .ok (.aload_n 0, 1) := by decide +kernel
theorem d_M_isDoing_68 : decode prog_14_method_33_code 68 = .ok (.aload_n 0, 1) := by decide +kernel
theorem d_M_isDoing_69 : decode prog_14_method_33_code 69 = .ok (.getfield 133, 3) := by decide +kernel
theorem d_M_isDoing_72 : decode prog_14_method_33_code 72 = .ok (.iload 5, 2) := by decide +kernel
theorem d_M_isDoing_74 : decode prog_14_method_33_code 74 = .ok (.iaload, 1) := by decide +kernel
theorem d_M_isDoing_75 : decode prog_14_method_33_code 75 = .ok (.invokevirtual 216, 3) := by decide +kernel
theorem d_M_isDoing_78 : decode prog_14_method_33_code 78 = .ok (.if_icmp .le 5, 3) := by decide +kernel
theorem d_M_isDoing_81 : decode prog_14_method_33_code 81 = .ok (.iconst 0, 1) := by decide +kernel
theorem d_M_isDoing_82 : decode prog_14_method_33_code 82 = .ok (.ireturn, 1) := by decide +kernel
theorem d_M_isDoing_83 : decode prog_14_method_33_code 83 = .ok (.iload 4, 2) := by decide +kernel
theorem d_M_isDoing_85 : decode prog_14_method_33_code 85 = .ok (.aload_n 0, 1) := by decide +kernel
theorem d_M_isDoing_86 : decode prog_14_method_33_code 86 = .ok (.aload_n 0, 1) := by decide +kernel
theorem d_M_isDoing_87 : decode prog_14_method_33_code 87 = .ok (.getfield 133, 3) := by decide +kernel
theorem d_M_isDoing_90 : decode prog_14_method_33_code 90 = .ok (.iload 5, 2) := by decide +kernel
theorem d_M_isDoing_92 : decode prog_14_method_33_code 92 = .ok (.iaload, 1) := by decide +kernel
theorem d_M_isDoing_93 : decode prog_14_method_33_code 93 = .ok (.invokevirtual 213, 3) := by decide +kernel
theorem d_M_isDoing_96 : decode prog_14_method_33_code 96 = .ok (.iadd, 1) := by decide +kernel
theorem d_M_isDoing_97 : decode prog_14_method_33_code 97 = .ok (.istore 4, 2) := by decide +kernel
theorem d_M_isDoing_99 : decode prog_14_method_33_code 99 = .ok (.iinc 5 1, 3) := by decide +kernel
theorem d_M_isDoing_102 : decode prog_14_method_33_code 102 = .ok (.goto (-43), 3) := by decide +kernel
theorem d_M_isDoing_105 : decode prog_14_method_33_code 105 = .ok (.iconst 1, 1) := by decide +kernel
theorem d_M_isDoing_106 : decode prog_14_method_33_code 106 = .ok (.ireturn, 1) := by decide +kernel
theorem d_M_ends_0 : decode prog_14_method_34_code 0 = .ok (.aload_n 0, 1) := by decide +kernel
theorem d_M_ends_1 : decode prog_14_method_34_code 1 = .ok (.iload_n 1, 1) := by decide +kernel
theorem d_M_ends_2 : decode prog_14_method_34_code 2 = .ok (.invokevirtual 233, 3) := by decide +kernel
theorem d_M_ends_5 : decode prog_14_method_34_code 5 = .ok (.istore_n 3, 1) := by decide +kernel
theorem d_M_ends_6 : decode prog_14_method_34_code 6 = .ok (.iconst 0, 1) := by decide +kernel
theorem d_M_ends_7 : decode prog_14_method_34_code 7 = .ok (.istore 4, 2) := by decide +kernel
theorem d_M_ends_9 : decode prog_14_method_34_code 9 = .ok (.iload 4, 2) := by decide +kernel
theorem d_M_ends_11 : decode prog_14_method_34_code 11 = .ok (.aload_n 0, 1) := by decide +kernel
theorem d_M_ends_12 : decode prog_14_method_34_code 12 = .ok (.getfield 151, 3) := by decide +kernel
theorem d_M_ends_15 : decode prog_14_method_34_code 15 = .ok (.if_icmp .ge 35, 3) := by decide +kernel
theorem d_M_ends_18 : decode prog_14_method_34_code 18 = .ok (.aload_n 2, 1) := by decide +kernel
theorem d_M_ends_19 : decode prog_14_method_34_code 19 = .ok (.iload 4, 2) := by decide +kernel
theorem d_M_ends_21 : decode prog_14_method_34_code 21 = .ok (.iaload, 1) := by decide +kernel
theorem d_M_ends_22 : decode prog_14_method_34_code 22 = .ok (.iload_n 1, 1) := by decide +kernel
theorem d_M_ends_23 : decode prog_14_method_34_code 23 = .ok (.if_icmp .ne 21, 3) := by decide +kernel
theorem d_M_ends_26 : decode prog_14_method_34_code 26 = .ok (.aload_n 0, 1) := by decide +kernel
theorem d_M_ends_27 : decode prog_14_method_34_code 27 = .ok (.iload 4, 2) := by decide +kernel
theorem d_M_ends_29 : decode prog_14_method_34_code 29 = .ok (.invokevirtual 219, 3) := by decide +kernel
theorem d_M_ends_32 : decode prog_14_method_34_code 32 = .ok (.ifCond .eq 12, 3) := by decide +kernel
theorem d_M_ends_35 : decode prog_14_method_34_code 35 = .ok (.iload_n 3, 1) := by decide +kernel
theorem d_M_ends_36 : decode prog_14_method_34_code 36 = .ok (.aload_n 0, 1) := by decide +kernel
theorem d_M_ends_37 : decode prog_14_method_34_code 37 = .ok (.iload 4, 2) := by decide +kernel
theorem d_M_ends_39 : decode prog_14_method_34_code 39 = .ok (.invokevirtual 213, 3) := by decide +kernel
theorem d_M_ends_42 : decode prog_14_method_34_code 42 = .ok (.iadd, 1) := by decide +kernel
theorem d_M_ends_43 : decode prog_14_method_34_code 43 = .ok (.istore_n 3, 1) := by decide +kernel
theorem d_M_ends_44 : decode prog_14_method_34_code 44 = .ok (.iinc 4 1, 3) := by decide +kernel
theorem d_M_ends_47 : decode prog_14_method_34_code 47 = .ok (.goto (-38), 3) := by decide +kernel
theorem d_M_ends_50 : decode prog_14_method_34_code 50 = .ok (.iload_n 3, 1) := by decide +kernel
theorem d_M_ends_51 : decode prog_14_method_34_code 51 = .ok (.ireturn, 1) := by decide +kernel
theorem d_M_inRooms_0 : decode prog_14_method_35_code 0 = .ok (.iconst 0, 1) := by decide +kernel
theorem d_M_inRooms_1 : decode prog_14_method_35_code 1 = .ok (.istore_n 1, 1) := by decide +kernel
theorem d_M_inRooms_2 : decode prog_14_method_35_code 2 = .ok (.iconst 0, 1) := by decide +kernel
theorem d_M_inRooms_3 : decode prog_14_method_35_code 3 = .ok (.istore_n 2, 1) := by decide +kernel
theorem d_M_inRooms_4 : decode prog_14_method_35_code 4 = .ok (.iload_n 2, 1) := by decide +kernel
theorem d_M_inRooms_5 : decode prog_14_method_35_code 5 = .ok (.aload_n 0, 1) := by decide +kernel
theorem d_M_inRooms_6 : decode prog_14_method_35_code 6 = .ok (.getfield 151, 3) := by decide +kernel
theorem d_M_inRooms_9 : decode prog_14_method_35_code 9 = .ok (.if_icmp .ge 20, 3) := by decide +kernel
theorem d_M_inRooms_12 : decode prog_14_method_35_code 12 = .ok (.aload_n 0, 1) := by decide +kernel
theorem d_M_inRooms_13 : decode prog_14_method_35_code 13 = .ok (.iload_n 2, 1) := by decide +kernel
theorem d_M_inRooms_14 : decode prog_14_method_35_code 14 = .ok (.invokevirtual 219, 3) := by decide +kernel
theorem d_M_inRooms_17 : decode prog_14_method_35_code 17 = .ok (.ifCond .eq 6, 3) := by decide +kernel
theorem d_M_inRooms_20 : decode prog_14_method_35_code 20 = .ok (.iinc 1 1, 3) := by decide +kernel
theorem d_M_inRooms_23 : decode prog_14_method_35_code 23 = .ok (.iinc 2 1, 3) := by decide +kernel
theorem d_M_inRooms_26 : decode prog_14_method_35_code 26 = .ok (.goto (-22), 3) := by decide +kernel
theorem d_M_inRooms_29 : decode prog_14_method_35_code 29 = .ok (.iload_n 1, 1) := by decide +kernel
theorem d_M_inRooms_30 : decode prog_14_method_35_code 30 = .ok (.ireturn, 1) := by decide +kernel
theorem d_M_byRule_0 : decode prog_14_method_36_code 0 = .ok (.iconst 0, 1) := by decide +kernel
theorem d_M_byRule_1 : decode prog_14_method_36_code 1 = .ok (.istore_n 1, 1) := by decide +kernel
theorem d_M_byRule_2 : decode prog_14_method_36_code 2 = .ok (.iconst 0, 1) := by decide +kernel
theorem d_M_byRule_3 : decode prog_14_method_36_code 3 = .ok (.istore_n 2, 1) := by decide +kernel
theorem d_M_byRule_4 : decode prog_14_method_36_code 4 = .ok (.iload_n 2, 1) := by decide +kernel
theorem d_M_byRule_5 : decode prog_14_method_36_code 5 = .ok (.aload_n 0, 1) := by decide +kernel
theorem d_M_byRule_6 : decode prog_14_method_36_code 6 = .ok (.getfield 151, 3) := by decide +kernel
theorem d_M_byRule_9 : decode prog_14_method_36_code 9 = .ok (.if_icmp .ge 130, 3) := by decide +kernel
theorem d_M_byRule_12 : decode prog_14_method_36_code 12 = .ok (.aload_n 0, 1) := by decide +kernel
theorem d_M_byRule_13 : decode prog_14_method_36_code 13 = .ok (.getfield 139, 3) := by decide +kernel
theorem d_M_byRule_16 : decode prog_14_method_36_code 16 = .ok (.iload_n 2, 1) := by decide +kernel
theorem d_M_byRule_17 : decode prog_14_method_36_code 17 = .ok (.iconst (-1), 1) := by decide +kernel
theorem d_M_byRule_18 : decode prog_14_method_36_code 18 = .ok (.iastore, 1) := by decide +kernel
theorem d_M_byRule_19 : decode prog_14_method_36_code 19 = .ok (.aload_n 0, 1) := by decide +kernel
theorem d_M_byRule_20 : decode prog_14_method_36_code 20 = .ok (.iload_n 2, 1) := by decide +kernel
theorem d_M_byRule_21 : decode prog_14_method_36_code 21 = .ok (.invokevirtual 219, 3) := by decide +kernel
theorem d_M_byRule_24 : decode prog_14_method_36_code 24 = .ok (.ifCond .eq 109, 3) := by decide +kernel
theorem d_M_byRule_27 : decode prog_14_method_36_code 27 = .ok (.aload_n 0, 1) := by decide +kernel
theorem d_M_byRule_28 : decode prog_14_method_36_code 28 = .ok (.iload_n 2, 1) := by decide +kernel
theorem d_M_byRule_29 : decode prog_14_method_36_code 29 = .ok (.invokevirtual 207, 3) := by decide +kernel
theorem d_M_byRule_32 : decode prog_14_method_36_code 32 = .ok (.iconst (-1), 1) := by decide +kernel
theorem d_M_byRule_33 : decode prog_14_method_36_code 33 = .ok (.if_icmp .ne 6, 3) := by decide +kernel
theorem d_M_byRule_36 : decode prog_14_method_36_code 36 = .ok (.goto 97, 3) := by decide +kernel
theorem d_M_byRule_39 : decode prog_14_method_36_code 39 = .ok (.aload_n 0, 1) := by decide +kernel
theorem d_M_byRule_40 : decode prog_14_method_36_code 40 = .ok (.getfield 36, 3) := by decide +kernel
theorem d_M_byRule_43 : decode prog_14_method_36_code 43 = .ok (.iload_n 2, 1) := by decide +kernel
theorem d_M_byRule_44 : decode prog_14_method_36_code 44 = .ok (.iaload, 1) := by decide +kernel
theorem d_M_byRule_45 : decode prog_14_method_36_code 45 = .ok (.sipush 1000, 3) := by decide +kernel
theorem d_M_byRule_48 : decode prog_14_method_36_code 48 = .ok (.imul, 1) := by decide +kernel
theorem d_M_byRule_49 : decode prog_14_method_36_code 49 = .ok (.aload_n 0, 1) := by decide +kernel
theorem d_M_byRule_50 : decode prog_14_method_36_code 50 = .ok (.iload_n 2, 1) := by decide +kernel
theorem d_M_byRule_51 : decode prog_14_method_36_code 51 = .ok (.invokevirtual 213, 3) := by decide +kernel
theorem d_M_byRule_54 : decode prog_14_method_36_code 54 = .ok (.idiv, 1) := by decide +kernel
theorem d_M_byRule_55 : decode prog_14_method_36_code 55 = .ok (.istore_n 3, 1) := by decide +kernel
theorem d_M_byRule_56 : decode prog_14_method_36_code 56 = .ok (.iload_n 1, 1) := by decide +kernel
theorem d_M_byRule_57 : decode prog_14_method_36_code 57 = .ok (.iinc 1 1, 3) := by decide +kernel
theorem d_M_byRule_60 : decode prog_14_method_36_code 60 = .ok (.istore 4, 2) := by decide +kernel
theorem d_M_byRule_62 : decode prog_14_method_36_code 62 = .ok (.iload 4, 2) := by decide +kernel
theorem d_M_byRule_64 : decode prog_14_method_36_code 64 = .ok (.ifCond .le 61, 3) := by decide +kernel
theorem d_M_byRule_67 : decode prog_14_method_36_code 67 = .ok (.aload_n 0, 1) := by decide +kernel
theorem d_M_byRule_68 : decode prog_14_method_36_code 68 = .ok (.getfield 36, 3) := by decide +kernel
theorem d_M_byRule_71 : decode prog_14_method_36_code 71 = .ok (.aload_n 0, 1) := by decide +kernel
theorem d_M_byRule_72 : decode prog_14_method_36_code 72 = .ok (.getfield 142, 3) := by decide +kernel
theorem d_M_byRule_75 : decode prog_14_method_36_code 75 = .ok (.iload 4, 2) := by decide +kernel
theorem d_M_byRule_77 : decode prog_14_method_36_code 77 = .ok (.iconst 1, 1) := by decide +kernel
theorem d_M_byRule_78 : decode prog_14_method_36_code 78 = .ok (.isub, 1) := by decide +kernel
theorem d_M_byRule_79 : decode prog_14_method_36_code 79 = .ok (.iaload, 1) := by decide +kernel
theorem d_M_byRule_80 : decode prog_14_method_36_code 80 = .ok (.iaload, 1) := by decide +kernel
theorem d_M_byRule_81 : decode prog_14_method_36_code 81 = .ok (.sipush 1000, 3) := by decide +kernel
theorem d_M_byRule_84 : decode prog_14_method_36_code 84 = .ok (.imul, 1) := by decide +kernel
theorem d_M_byRule_85 : decode prog_14_method_36_code 85 = .ok (.aload_n 0, 1) := by decide +kernel
theorem d_M_byRule_86 : decode prog_14_method_36_code 86 = .ok (.aload_n 0, 1) := by decide +kernel
theorem d_M_byRule_87 : decode prog_14_method_36_code 87 = .ok (.getfield 142, 3) := by decide +kernel
theorem d_M_byRule_90 : decode prog_14_method_36_code 90 = .ok (.iload 4, 2) := by decide +kernel
theorem d_M_byRule_92 : decode prog_14_method_36_code 92 = .ok (.iconst 1, 1) := by decide +kernel
theorem d_M_byRule_93 : decode prog_14_method_36_code 93 = .ok (.isub, 1) := by decide +kernel
theorem d_M_byRule_94 : decode prog_14_method_36_code 94 = .ok (.iaload, 1) := by decide +kernel
theorem d_M_byRule_95 : decode prog_14_method_36_code 95 = .ok (.invokevirtual 213, 3) := by decide +kernel
theorem d_M_byRule_98 : decode prog_14_method_36_code 98 = .ok (.idiv, 1) := by decide +kernel
theorem d_M_byRule_99 : decode prog_14_method_36_code 99 = .ok (.iload_n 3, 1) := by decide +kernel
theorem d_M_byRule_100 : decode prog_14_method_36_code 100 = .ok (.if_icmp .ge 25, 3) := by decide +kernel
theorem d_M_byRule_103 : decode prog_14_method_36_code 103 = .ok (.aload_n 0, 1) := by decide +kernel
theorem d_M_byRule_104 : decode prog_14_method_36_code 104 = .ok (.getfield 142, 3) := by decide +kernel
theorem d_M_byRule_107 : decode prog_14_method_36_code 107 = .ok (.iload 4, 2) := by decide +kernel
theorem d_M_byRule_109 : decode prog_14_method_36_code 109 = .ok (.aload_n 0, 1) := by decide +kernel
theorem d_M_byRule_110 : decode prog_14_method_36_code 110 = .ok (.getfield 142, 3) := by decide +kernel
theorem d_M_byRule_113 : decode prog_14_method_36_code 113 = .ok (.iload 4, 2) := by decide +kernel
theorem d_M_byRule_115 : decode prog_14_method_36_code 115 = .ok (.iconst 1, 1) := by decide +kernel
theorem d_M_byRule_116 : decode prog_14_method_36_code 116 = .ok (.isub, 1) := by decide +kernel
theorem d_M_byRule_117 : decode prog_14_method_36_code 117 = .ok (.iaload, 1) := by decide +kernel
theorem d_M_byRule_118 : decode prog_14_method_36_code 118 = .ok (.iastore, 1) := by decide +kernel
theorem d_M_byRule_119 : decode prog_14_method_36_code 119 = .ok (.iinc 4 (-1), 3) := by decide +kernel
theorem d_M_byRule_122 : decode prog_14_method_36_code 122 = .ok (.goto (-60), 3) := by decide +kernel
theorem d_M_byRule_125 : decode prog_14_method_36_code 125 = .ok (.aload_n 0, 1) := by decide +kernel
theorem d_M_byRule_126 : decode prog_14_method_36_code 126 = .ok (.getfield 142, 3) := by decide +kernel
theorem d_M_byRule_129 : decode prog_14_method_36_code 129 = .ok (.iload 4, 2) := by decide +kernel
theorem d_M_byRule_131 : decode prog_14_method_36_code 131 = .ok (.iload_n 2, 1) := by decide +kernel
theorem d_M_byRule_132 : decode prog_14_method_36_code 132 = .ok (.iastore, 1) := by decide +kernel
theorem d_M_byRule_133 : decode prog_14_method_36_code 133 = .ok (.iinc 2 1, 3) := by decide +kernel
theorem d_M_byRule_136 : decode prog_14_method_36_code 136 = .ok (.goto (-132), 3) := by decide +kernel
theorem d_M_byRule_139 : decode prog_14_method_36_code 139 = .ok (.iconst 0, 1) := by decide +kernel
theorem d_M_byRule_140 : decode prog_14_method_36_code 140 = .ok (.istore_n 2, 1) := by decide +kernel
theorem d_M_byRule_141 : decode prog_14_method_36_code 141 = .ok (.iconst 0, 1) := by decide +kernel
theorem d_M_byRule_142 : decode prog_14_method_36_code 142 = .ok (.istore_n 3, 1) := by decide +kernel
theorem d_M_byRule_143 : decode prog_14_method_36_code 143 = .ok (.iload_n 3, 1) := by decide +kernel
theorem d_M_byRule_144 : decode prog_14_method_36_code 144 = .ok (.iload_n 1, 1) := by decide +kernel
theorem d_M_byRule_145 : decode prog_14_method_36_code 145 = .ok (.if_icmp .ge 121, 3) := by decide +kernel
theorem d_M_byRule_148 : decode prog_14_method_36_code 148 = .ok (.aload_n 0, 1) := by decide +kernel
theorem d_M_byRule_149 : decode prog_14_method_36_code 149 = .ok (.getfield 142, 3) := by decide +kernel
theorem d_M_byRule_152 : decode prog_14_method_36_code 152 = .ok (.iload_n 3, 1) := by decide +kernel
theorem d_M_byRule_153 : decode prog_14_method_36_code 153 = .ok (.iaload, 1) := by decide +kernel
theorem d_M_byRule_154 : decode prog_14_method_36_code 154 = .ok (.istore 4, 2) := by decide +kernel
theorem d_M_byRule_156 : decode prog_14_method_36_code 156 = .ok (.iconst (-1), 1) := by decide +kernel
theorem d_M_byRule_157 : decode prog_14_method_36_code 157 = .ok (.istore 5, 2) := by decide +kernel
theorem d_M_byRule_159 : decode prog_14_method_36_code 159 = .ok (.iconst 0, 1) := by decide +kernel
theorem d_M_byRule_160 : decode prog_14_method_36_code 160 = .ok (.istore 6, 2) := by decide +kernel
theorem d_M_byRule_162 : decode prog_14_method_36_code 162 = .ok (.iconst 0, 1) := by decide +kernel
theorem d_M_byRule_163 : decode prog_14_method_36_code 163 = .ok (.istore 7, 2) := by decide +kernel
theorem d_M_byRule_165 : decode prog_14_method_36_code 165 = .ok (.iload 7, 2) := by decide +kernel
theorem d_M_byRule_167 : decode prog_14_method_36_code 167 = .ok (.aload_n 0, 1) := by decide +kernel
theorem d_M_byRule_168 : decode prog_14_method_36_code 168 = .ok (.getfield 174, 3) := by decide +kernel
theorem d_M_byRule_171 : decode prog_14_method_36_code 171 = .ok (.if_icmp .ge 64, 3) := by decide +kernel
theorem d_M_byRule_174 : decode prog_14_method_36_code 174 = .ok (.aload_n 0, 1) := by decide +kernel
theorem d_M_byRule_175 : decode prog_14_method_36_code 175 = .ok (.getfield 139, 3) := by decide +kernel
theorem d_M_byRule_178 : decode prog_14_method_36_code 178 = .ok (.iload 4, 2) := by decide +kernel
theorem d_M_byRule_180 : decode prog_14_method_36_code 180 = .ok (.iload 7, 2) := by decide +kernel
theorem d_M_byRule_182 : decode prog_14_method_36_code 182 = .ok (.iastore, 1) := by decide +kernel
theorem d_M_byRule_183 : decode prog_14_method_36_code 183 = .ok (.aload_n 0, 1) := by decide +kernel
theorem d_M_byRule_184 : decode prog_14_method_36_code 184 = .ok (.iload 7, 2) := by decide +kernel
theorem d_M_byRule_186 : decode prog_14_method_36_code 186 = .ok (.aload_n 0, 1) := by decide +kernel
theorem d_M_byRule_187 : decode prog_14_method_36_code 187 = .ok (.getfield 139, 3) := by decide +kernel
theorem d_M_byRule_190 : decode prog_14_method_36_code 190 = .ok (.invokevirtual 236, 3) := by decide +kernel
theorem d_M_byRule_193 : decode prog_14_method_36_code 193 = .ok (.ifCond .eq 36, 3) := by decide +kernel
theorem d_M_byRule_196 : decode prog_14_method_36_code 196 = .ok (.aload_n 0, 1) := by decide +kernel
theorem d_M_byRule_197 : decode prog_14_method_36_code 197 = .ok (.iload 7, 2) := by decide +kernel
theorem d_M_byRule_199 : decode prog_14_method_36_code 199 = .ok (.aload_n 0, 1) := by decide +kernel
theorem d_M_byRule_200 : decode prog_14_method_36_code 200 = .ok (.getfield 139, 3) := by decide +kernel
theorem d_M_byRule_203 : decode prog_14_method_36_code 203 = .ok (.invokevirtual 240, 3) := by decide +kernel
theorem d_M_byRule_206 : decode prog_14_method_36_code 206 = .ok (.istore 8, 2) := by decide +kernel
theorem d_M_byRule_208 : decode prog_14_method_36_code 208 = .ok (.iload 5, 2) := by decide +kernel
theorem d_M_byRule_210 : decode prog_14_method_36_code 210 = .ok (.iconst (-1), 1) := by decide +kernel
theorem d_M_byRule_211 : decode prog_14_method_36_code 211 = .ok (.if_icmp .eq 10, 3) := by decide +kernel
theorem d_M_byRule_214 : decode prog_14_method_36_code 214 = .ok (.iload 8, 2) := by decide +kernel
theorem d_M_byRule_216 : decode prog_14_method_36_code 216 = .ok (.iload 6, 2) := by decide +kernel
theorem d_M_byRule_218 : decode prog_14_method_36_code 218 = .ok (.if_icmp .ge 11, 3) := by decide +kernel
theorem d_M_byRule_221 : decode prog_14_method_36_code 221 = .ok (.iload 7, 2) := by decide +kernel
theorem d_M_byRule_223 : decode prog_14_method_36_code 223 = .ok (.istore 5, 2) := by decide +kernel
theorem d_M_byRule_225 : decode prog_14_method_36_code 225 = .ok (.iload 8, 2) := by decide +kernel
theorem d_M_byRule_227 : decode prog_14_method_36_code 227 = .ok (.istore 6, 2) := by decide +kernel
theorem d_M_byRule_229 : decode prog_14_method_36_code 229 = .ok (.iinc 7 1, 3) := by decide +kernel
theorem d_M_byRule_232 : decode prog_14_method_36_code 232 = .ok (.goto (-67), 3) := by decide +kernel
theorem d_M_byRule_235 : decode prog_14_method_36_code 235 = .ok (.aload_n 0, 1) := by decide +kernel
theorem d_M_byRule_236 : decode prog_14_method_36_code 236 = .ok (.getfield 139, 3) := by decide +kernel
theorem d_M_byRule_239 : decode prog_14_method_36_code 239 = .ok (.iload 4, 2) := by decide +kernel
theorem d_M_byRule_241 : decode prog_14_method_36_code 241 = .ok (.iload 5, 2) := by decide +kernel
theorem d_M_byRule_243 : decode prog_14_method_36_code 243 = .ok (.iastore, 1) := by decide +kernel
theorem d_M_byRule_244 : decode prog_14_method_36_code 244 = .ok (.iload 5, 2) := by decide +kernel
theorem d_M_byRule_246 : decode prog_14_method_36_code 246 = .ok (.iconst (-1), 1) := by decide +kernel
theorem d_M_byRule_247 : decode prog_14_method_36_code 247 = .ok (.if_icmp .eq 13, 3) := by decide +kernel
theorem d_M_byRule_250 : decode prog_14_method_36_code 250 = .ok (.iload_n 2, 1) := by decide +kernel
theorem d_M_byRule_251 : decode prog_14_method_36_code 251 = .ok (.aload_n 0, 1) := by decide +kernel
theorem d_M_byRule_252 : decode prog_14_method_36_code 252 = .ok (.getfield 36, 3) := by decide +kernel
theorem d_M_byRule_255 : decode prog_14_method_36_code 255 = .ok (.iload 4, 2) := by decide +kernel
theorem d_M_byRule_257 : decode prog_14_method_36_code 257 = .ok (.iaload, 1) := by decide +kernel
theorem d_M_byRule_258 : decode prog_14_method_36_code 258 = .ok (.iadd, 1) := by decide +kernel
theorem d_M_byRule_259 : decode prog_14_method_36_code 259 = .ok (.istore_n 2, 1) := by decide +kernel
theorem d_M_byRule_260 : decode prog_14_method_36_code 260 = .ok (.iinc 3 1, 3) := by decide +kernel
theorem d_M_byRule_263 : decode prog_14_method_36_code 263 = .ok (.goto (-120), 3) := by decide +kernel
theorem d_M_byRule_266 : decode prog_14_method_36_code 266 = .ok (.iload_n 2, 1) := by decide +kernel
theorem d_M_byRule_267 : decode prog_14_method_36_code 267 = .ok (.ireturn, 1) := by decide +kernel
theorem d_M_byAll_0 : decode prog_14_method_37_code 0 = .ok (.iconst 0, 1) := by decide +kernel
theorem d_M_byAll_1 : decode prog_14_method_37_code 1 = .ok (.istore_n 1, 1) := by decide +kernel
theorem d_M_byAll_2 : decode prog_14_method_37_code 2 = .ok (.iconst 0, 1) := by decide +kernel
theorem d_M_byAll_3 : decode prog_14_method_37_code 3 = .ok (.istore_n 2, 1) := by decide +kernel
theorem d_M_byAll_4 : decode prog_14_method_37_code 4 = .ok (.iconst 0, 1) := by decide +kernel
theorem d_M_byAll_5 : decode prog_14_method_37_code 5 = .ok (.istore_n 3, 1) := by decide +kernel
theorem d_M_byAll_6 : decode prog_14_method_37_code 6 = .ok (.iload_n 3, 1) := by decide +kernel
theorem d_M_byAll_7 : decode prog_14_method_37_code 7 = .ok (.aload_n 0, 1) := by decide +kernel
theorem d_M_byAll_8 : decode prog_14_method_37_code 8 = .ok (.getfield 151, 3) := by decide +kernel
theorem d_M_byAll_11 : decode prog_14_method_37_code 11 = .ok (.if_icmp .ge 50, 3) := by decide +kernel
theorem d_M_byAll_14 : decode prog_14_method_37_code 14 = .ok (.aload_n 0, 1) := by decide +kernel
theorem d_M_byAll_15 : decode prog_14_method_37_code 15 = .ok (.getfield 139, 3) := by decide +kernel
theorem d_M_byAll_18 : decode prog_14_method_37_code 18 = .ok (.iload_n 3, 1) := by decide +kernel
theorem d_M_byAll_19 : decode prog_14_method_37_code 19 = .ok (.iconst (-1), 1) := by decide +kernel
theorem d_M_byAll_20 : decode prog_14_method_37_code 20 = .ok (.iastore, 1) := by decide +kernel
theorem d_M_byAll_21 : decode prog_14_method_37_code 21 = .ok (.aload_n 0, 1) := by decide +kernel
theorem d_M_byAll_22 : decode prog_14_method_37_code 22 = .ok (.getfield 136, 3) := by decide +kernel
theorem d_M_byAll_25 : decode prog_14_method_37_code 25 = .ok (.iload_n 3, 1) := by decide +kernel
theorem d_M_byAll_26 : decode prog_14_method_37_code 26 = .ok (.iconst (-1), 1) := by decide +kernel
theorem d_M_byAll_27 : decode prog_14_method_37_code 27 = .ok (.iastore, 1) := by decide +kernel
theorem d_M_byAll_28 : decode prog_14_method_37_code 28 = .ok (.aload_n 0, 1) := by decide +kernel
theorem d_M_byAll_29 : decode prog_14_method_37_code 29 = .ok (.iload_n 3, 1) := by decide +kernel
theorem d_M_byAll_30 : decode prog_14_method_37_code 30 = .ok (.invokevirtual 219, 3) := by decide +kernel
theorem d_M_byAll_33 : decode prog_14_method_37_code 33 = .ok (.ifCond .eq 22, 3) := by decide +kernel
theorem d_M_byAll_36 : decode prog_14_method_37_code 36 = .ok (.aload_n 0, 1) := by decide +kernel
theorem d_M_byAll_37 : decode prog_14_method_37_code 37 = .ok (.getfield 142, 3) := by decide +kernel
theorem d_M_byAll_40 : decode prog_14_method_37_code 40 = .ok (.iload_n 1, 1) := by decide +kernel
theorem d_M_byAll_41 : decode prog_14_method_37_code 41 = .ok (.iinc 1 1, 3) := by decide +kernel
theorem d_M_byAll_44 : decode prog_14_method_37_code 44 = .ok (.iload_n 3, 1) := by decide +kernel
theorem d_M_byAll_45 : decode prog_14_method_37_code 45 = .ok (.iastore, 1) := by decide +kernel
theorem d_M_byAll_46 : decode prog_14_method_37_code 46 = .ok (.iload_n 2, 1) := by decide +kernel
theorem d_M_byAll_47 : decode prog_14_method_37_code 47 = .ok (.aload_n 0, 1) := by decide +kernel
theorem d_M_byAll_48 : decode prog_14_method_37_code 48 = .ok (.getfield 36, 3) := by decide +kernel
theorem d_M_byAll_51 : decode prog_14_method_37_code 51 = .ok (.iload_n 3, 1) := by decide +kernel
theorem d_M_byAll_52 : decode prog_14_method_37_code 52 = .ok (.iaload, 1) := by decide +kernel
theorem d_M_byAll_53 : decode prog_14_method_37_code 53 = .ok (.iadd, 1) := by decide +kernel
theorem d_M_byAll_54 : decode prog_14_method_37_code 54 = .ok (.istore_n 2, 1) := by decide +kernel
theorem d_M_byAll_55 : decode prog_14_method_37_code 55 = .ok (.iinc 3 1, 3) := by decide +kernel
theorem d_M_byAll_58 : decode prog_14_method_37_code 58 = .ok (.goto (-52), 3) := by decide +kernel
theorem d_M_byAll_61 : decode prog_14_method_37_code 61 = .ok (.iconst (-1), 1) := by decide +kernel
theorem d_M_byAll_62 : decode prog_14_method_37_code 62 = .ok (.istore_n 3, 1) := by decide +kernel
theorem d_M_byAll_63 : decode prog_14_method_37_code 63 = .ok (.iconst 0, 1) := by decide +kernel
theorem d_M_byAll_64 : decode prog_14_method_37_code 64 = .ok (.istore 4, 2) := by decide +kernel
theorem d_M_byAll_66 : decode prog_14_method_37_code 66 = .ok (.iconst 0, 1) := by decide +kernel
theorem d_M_byAll_67 : decode prog_14_method_37_code 67 = .ok (.istore 5, 2) := by decide +kernel
theorem d_M_byAll_69 : decode prog_14_method_37_code 69 = .ok (.iconst 0, 1) := by decide +kernel
theorem d_M_byAll_70 : decode prog_14_method_37_code 70 = .ok (.istore 6, 2) := by decide +kernel
theorem d_M_byAll_72 : decode prog_14_method_37_code 72 = .ok (.iload 6, 2) := by decide +kernel
theorem d_M_byAll_74 : decode prog_14_method_37_code 74 = .ok (.iload_n 1, 1) := by decide +kernel
theorem d_M_byAll_75 : decode prog_14_method_37_code 75 = .ok (.if_icmp .ge 17, 3) := by decide +kernel
theorem d_M_byAll_78 : decode prog_14_method_37_code 78 = .ok (.aload_n 0, 1) := by decide +kernel
theorem d_M_byAll_79 : decode prog_14_method_37_code 79 = .ok (.getfield 145, 3) := by decide +kernel
theorem d_M_byAll_82 : decode prog_14_method_37_code 82 = .ok (.iload 6, 2) := by decide +kernel
theorem d_M_byAll_84 : decode prog_14_method_37_code 84 = .ok (.iconst (-1), 1) := by decide +kernel
theorem d_M_byAll_85 : decode prog_14_method_37_code 85 = .ok (.iastore, 1) := by decide +kernel
theorem d_M_byAll_86 : decode prog_14_method_37_code 86 = .ok (.iinc 6 1, 3) := by decide +kernel
theorem d_M_byAll_89 : decode prog_14_method_37_code 89 = .ok (.goto (-17), 3) := by decide +kernel
theorem d_M_byAll_92 : decode prog_14_method_37_code 92 = .ok (.iload 5, 2) := by decide +kernel
theorem d_M_byAll_94 : decode prog_14_method_37_code 94 = .ok (.ifCond .lt 302, 3) := by decide +kernel
theorem d_M_byAll_97 : decode prog_14_method_37_code 97 = .ok (.iload 5, 2) := by decide +kernel
theorem d_M_byAll_99 : decode prog_14_method_37_code 99 = .ok (.iload_n 1, 1) := by decide +kernel
theorem d_M_byAll_100 : decode prog_14_method_37_code 100 = .ok (.if_icmp .ne 50, 3) := by decide +kernel
theorem d_M_byAll_103 : decode prog_14_method_37_code 103 = .ok (.iload 4, 2) := by decide +kernel
theorem d_M_byAll_105 : decode prog_14_method_37_code 105 = .ok (.iload_n 3, 1) := by decide +kernel
theorem d_M_byAll_106 : decode prog_14_method_37_code 106 = .ok (.if_icmp .le 38, 3) := by decide +kernel
theorem d_M_byAll_109 : decode prog_14_method_37_code 109 = .ok (.iload 4, 2) := by decide +kernel
theorem d_M_byAll_111 : decode prog_14_method_37_code 111 = .ok (.istore_n 3, 1) := by decide +kernel
theorem d_M_byAll_112 : decode prog_14_method_37_code 112 = .ok (.iconst 0, 1) := by decide +kernel
theorem d_M_byAll_113 : decode prog_14_method_37_code 113 = .ok (.istore 6, 2) := by decide +kernel
theorem d_M_byAll_115 : decode prog_14_method_37_code 115 = .ok (.iload 6, 2) := by decide +kernel
theorem d_M_byAll_117 : decode prog_14_method_37_code 117 = .ok (.aload_n 0, 1) := by decide +kernel
theorem d_M_byAll_118 : decode prog_14_method_37_code 118 = .ok (.getfield 151, 3) := by decide +kernel
theorem d_M_byAll_121 : decode prog_14_method_37_code 121 = .ok (.if_icmp .ge 23, 3) := by decide +kernel
theorem d_M_byAll_124 : decode prog_14_method_37_code 124 = .ok (.aload_n 0, 1) := by decide +kernel
theorem d_M_byAll_125 : decode prog_14_method_37_code 125 = .ok (.getfield 139, 3) := by decide +kernel
theorem d_M_byAll_128 : decode prog_14_method_37_code 128 = .ok (.iload 6, 2) := by decide +kernel
theorem d_M_byAll_130 : decode prog_14_method_37_code 130 = .ok (.aload_n 0, 1) := by decide +kernel
theorem d_M_byAll_131 : decode prog_14_method_37_code 131 = .ok (.getfield 136, 3) := by decide +kernel
theorem d_M_byAll_134 : decode prog_14_method_37_code 134 = .ok (.iload 6, 2) := by decide +kernel
theorem d_M_byAll_136 : decode prog_14_method_37_code 136 = .ok (.iaload, 1) := by decide +kernel
theorem d_M_byAll_137 : decode prog_14_method_37_code 137 = .ok (.iastore, 1) := by decide +kernel
theorem d_M_byAll_138 : decode prog_14_method_37_code 138 = .ok (.iinc 6 1, 3) := by decide +kernel
theorem d_M_byAll_141 : decode prog_14_method_37_code 141 = .ok (.goto (-26), 3) := by decide +kernel
theorem d_M_byAll_144 : decode prog_14_method_37_code 144 = .ok (.iinc 5 (-1), 3) := by decide +kernel
theorem d_M_byAll_147 : decode prog_14_method_37_code 147 = .ok (.goto (-55), 3) := by decide +kernel
theorem d_M_byAll_150 : decode prog_14_method_37_code 150 = .ok (.aload_n 0, 1) := by decide +kernel
theorem d_M_byAll_151 : decode prog_14_method_37_code 151 = .ok (.getfield 142, 3) := by decide +kernel
theorem d_M_byAll_154 : decode prog_14_method_37_code 154 = .ok (.iload 5, 2) := by decide +kernel
theorem d_M_byAll_156 : decode prog_14_method_37_code 156 = .ok (.iaload, 1) := by decide +kernel
theorem d_M_byAll_157 : decode prog_14_method_37_code 157 = .ok (.istore 6, 2) := by decide +kernel
theorem d_M_byAll_159 : decode prog_14_method_37_code 159 = .ok (.aload_n 0, 1) := by decide +kernel
theorem d_M_byAll_160 : decode prog_14_method_37_code 160 = .ok (.getfield 145, 3) := by decide +kernel
theorem d_M_byAll_163 : decode prog_14_method_37_code 163 = .ok (.iload 5, 2) := by decide +kernel
theorem d_M_byAll_165 : decode prog_14_method_37_code 165 = .ok (.iaload, 1) := by decide +kernel
theorem d_M_byAll_166 : decode prog_14_method_37_code 166 = .ok (.iconst (-1), 1) := by decide +kernel
theorem d_M_byAll_167 : decode prog_14_method_37_code 167 = .ok (.if_icmp .ne 13, 3) := by decide +kernel
theorem d_M_byAll_170 : decode prog_14_method_37_code 170 = .ok (.iload_n 2, 1) := by decide +kernel
theorem d_M_byAll_171 : decode prog_14_method_37_code 171 = .ok (.aload_n 0, 1) := by decide +kernel
theorem d_M_byAll_172 : decode prog_14_method_37_code 172 = .ok (.getfield 36, 3) := by decide +kernel
theorem d_M_byAll_175 : decode prog_14_method_37_code 175 = .ok (.iload 6, 2) := by decide +kernel
theorem d_M_byAll_177 : decode prog_14_method_37_code 177 = .ok (.iaload, 1) := by decide +kernel
theorem d_M_byAll_178 : decode prog_14_method_37_code 178 = .ok (.isub, 1) := by decide +kernel
theorem d_M_byAll_179 : decode prog_14_method_37_code 179 = .ok (.istore_n 2, 1) := by decide +kernel
theorem d_M_byAll_180 : decode prog_14_method_37_code 180 = .ok (.aload_n 0, 1) := by decide +kernel
theorem d_M_byAll_181 : decode prog_14_method_37_code 181 = .ok (.getfield 136, 3) := by decide +kernel
theorem d_M_byAll_184 : decode prog_14_method_37_code 184 = .ok (.iload 6, 2) := by decide +kernel
theorem d_M_byAll_186 : decode prog_14_method_37_code 186 = .ok (.iaload, 1) := by decide +kernel
theorem d_M_byAll_187 : decode prog_14_method_37_code 187 = .ok (.iconst (-1), 1) := by decide +kernel
theorem d_M_byAll_188 : decode prog_14_method_37_code 188 = .ok (.if_icmp .eq 23, 3) := by decide +kernel
theorem d_M_byAll_191 : decode prog_14_method_37_code 191 = .ok (.iload 4, 2) := by decide +kernel
theorem d_M_byAll_193 : decode prog_14_method_37_code 193 = .ok (.aload_n 0, 1) := by decide +kernel
theorem d_M_byAll_194 : decode prog_14_method_37_code 194 = .ok (.getfield 36, 3) := by decide +kernel
theorem d_M_byAll_197 : decode prog_14_method_37_code 197 = .ok (.iload 6, 2) := by decide +kernel
theorem d_M_byAll_199 : decode prog_14_method_37_code 199 = .ok (.iaload, 1) := by decide +kernel
theorem d_M_byAll_200 : decode prog_14_method_37_code 200 = .ok (.isub, 1) := by decide +kernel
theorem d_M_byAll_201 : decode prog_14_method_37_code 201 = .ok (.istore 4, 2) := by decide +kernel
theorem d_M_byAll_203 : decode prog_14_method_37_code 203 = .ok (.aload_n 0, 1) := by decide +kernel
theorem d_M_byAll_204 : decode prog_14_method_37_code 204 = .ok (.getfield 136, 3) := by decide +kernel
theorem d_M_byAll_207 : decode prog_14_method_37_code 207 = .ok (.iload 6, 2) := by decide +kernel
theorem d_M_byAll_209 : decode prog_14_method_37_code 209 = .ok (.iconst (-1), 1) := by decide +kernel
theorem d_M_byAll_210 : decode prog_14_method_37_code 210 = .ok (.iastore, 1) := by decide +kernel
theorem d_M_byAll_211 : decode prog_14_method_37_code 211 = .ok (.iconst 0, 1) := by decide +kernel
theorem d_M_byAll_212 : decode prog_14_method_37_code 212 = .ok (.istore 7, 2) := by decide +kernel
theorem d_M_byAll_214 : decode prog_14_method_37_code 214 = .ok (.iload 7, 2) := by decide +kernel
theorem d_M_byAll_216 : decode prog_14_method_37_code 216 = .ok (.ifCond .ne 145, 3) := by decide +kernel
theorem d_M_byAll_219 : decode prog_14_method_37_code 219 = .ok (.aload_n 0, 1) := by decide +kernel
theorem d_M_byAll_220 : decode prog_14_method_37_code 220 = .ok (.getfield 145, 3) := by decide +kernel
theorem d_M_byAll_223 : decode prog_14_method_37_code 223 = .ok (.iload 5, 2) := by decide +kernel
theorem d_M_byAll_225 : decode prog_14_method_37_code 225 = .ok (.iaload, 1) := by decide +kernel
theorem d_M_byAll_226 : decode prog_14_method_37_code 226 = .ok (.iconst 3, 1) := by decide +kernel
theorem d_M_byAll_227 : decode prog_14_method_37_code 227 = .ok (.if_icmp .ge 134, 3) := by decide +kernel
theorem d_M_byAll_230 : decode prog_14_method_37_code 230 = .ok (.aload_n 0, 1) := by decide +kernel
theorem d_M_byAll_231 : decode prog_14_method_37_code 231 = .ok (.getfield 145, 3) := by decide +kernel
theorem d_M_byAll_234 : decode prog_14_method_37_code 234 = .ok (.iload 5, 2) := by decide +kernel
theorem d_M_byAll_236 : decode prog_14_method_37_code 236 = .ok (.dup2, 1) := by decide +kernel
theorem d_M_byAll_237 : decode prog_14_method_37_code 237 = .ok (.iaload, 1) := by decide +kernel
theorem d_M_byAll_238 : decode prog_14_method_37_code 238 = .ok (.iconst 1, 1) := by decide +kernel
theorem d_M_byAll_239 : decode prog_14_method_37_code 239 = .ok (.iadd, 1) := by decide +kernel
theorem d_M_byAll_240 : decode prog_14_method_37_code 240 = .ok (.iastore, 1) := by decide +kernel
theorem d_M_byAll_241 : decode prog_14_method_37_code 241 = .ok (.aload_n 0, 1) := by decide +kernel
theorem d_M_byAll_242 : decode prog_14_method_37_code 242 = .ok (.getfield 145, 3) := by decide +kernel
theorem d_M_byAll_245 : decode prog_14_method_37_code 245 = .ok (.iload 5, 2) := by decide +kernel
theorem d_M_byAll_247 : decode prog_14_method_37_code 247 = .ok (.iaload, 1) := by decide +kernel
theorem d_M_byAll_248 : decode prog_14_method_37_code 248 = .ok (.iconst 3, 1) := by decide +kernel
theorem d_M_byAll_249 : decode prog_14_method_37_code 249 = .ok (.if_icmp .ne 21, 3) := by decide +kernel
theorem d_M_byAll_252 : decode prog_14_method_37_code 252 = .ok (.iload 4, 2) := by decide +kernel
theorem d_M_byAll_254 : decode prog_14_method_37_code 254 = .ok (.iload_n 2, 1) := by decide +kernel
theorem d_M_byAll_255 : decode prog_14_method_37_code 255 = .ok (.iadd, 1) := by decide +kernel
theorem d_M_byAll_256 : decode prog_14_method_37_code 256 = .ok (.iload_n 3, 1) := by decide +kernel
theorem d_M_byAll_257 : decode prog_14_method_37_code 257 = .ok (.if_icmp .le 7, 3) := by decide +kernel
theorem d_M_byAll_260 : decode prog_14_method_37_code 260 = .ok (.iconst 1, 1) := by decide +kernel
theorem d_M_byAll_261 : decode prog_14_method_37_code 261 = .ok (.goto 4, 3) := by decide +kernel
theorem d_M_byAll_264 : decode prog_14_method_37_code 264 = .ok (.iconst 0, 1) := by decide +kernel
theorem d_M_byAll_265 : decode prog_14_method_37_code 265 = .ok (.istore 7, 2) := by decide +kernel
theorem d_M_byAll_267 : decode prog_14_method_37_code 267 = .ok (.goto (-53), 3) := by decide +kernel
theorem d_M_byAll_270 : decode prog_14_method_37_code 270 = .ok (.aload_n 0, 1) := by decide +kernel
theorem d_M_byAll_271 : decode prog_14_method_37_code 271 = .ok (.getfield 145, 3) := by decide +kernel
theorem d_M_byAll_274 : decode prog_14_method_37_code 274 = .ok (.iload 5, 2) := by decide +kernel
theorem d_M_byAll_276 : decode prog_14_method_37_code 276 = .ok (.iaload, 1) := by decide +kernel
theorem d_M_byAll_277 : decode prog_14_method_37_code 277 = .ok (.aload_n 0, 1) := by decide +kernel
theorem d_M_byAll_278 : decode prog_14_method_37_code 278 = .ok (.getfield 174, 3) := by decide +kernel
theorem d_M_byAll_281 : decode prog_14_method_37_code 281 = .ok (.if_icmp .ge (-67), 3) := by decide +kernel
theorem d_M_byAll_284 : decode prog_14_method_37_code 284 = .ok (.iload 4, 2) := by decide +kernel
theorem d_M_byAll_286 : decode prog_14_method_37_code 286 = .ok (.aload_n 0, 1) := by decide +kernel
theorem d_M_byAll_287 : decode prog_14_method_37_code 287 = .ok (.getfield 36, 3) := by decide +kernel
theorem d_M_byAll_290 : decode prog_14_method_37_code 290 = .ok (.iload 6, 2) := by decide +kernel
theorem d_M_byAll_292 : decode prog_14_method_37_code 292 = .ok (.iaload, 1) := by decide +kernel
theorem d_M_byAll_293 : decode prog_14_method_37_code 293 = .ok (.iadd, 1) := by decide +kernel
theorem d_M_byAll_294 : decode prog_14_method_37_code 294 = .ok (.iload_n 2, 1) := by decide +kernel
theorem d_M_byAll_295 : decode prog_14_method_37_code 295 = .ok (.iadd, 1) := by decide +kernel
theorem d_M_byAll_296 : decode prog_14_method_37_code 296 = .ok (.iload_n 3, 1) := by decide +kernel
theorem d_M_byAll_297 : decode prog_14_method_37_code 297 = .ok (.if_icmp .le (-83), 3) := by decide +kernel
theorem d_M_byAll_300 : decode prog_14_method_37_code 300 = .ok (.aload_n 0, 1) := by decide +kernel
theorem d_M_byAll_301 : decode prog_14_method_37_code 301 = .ok (.getfield 136, 3) := by decide +kernel
theorem d_M_byAll_304 : decode prog_14_method_37_code 304 = .ok (.iload 6, 2) := by decide +kernel
theorem d_M_byAll_306 : decode prog_14_method_37_code 306 = .ok (.aload_n 0, 1) := by decide +kernel
theorem d_M_byAll_307 : decode prog_14_method_37_code 307 = .ok (.getfield 145, 3) := by decide +kernel
theorem d_M_byAll_310 : decode prog_14_method_37_code 310 = .ok (.iload 5, 2) := by decide +kernel
theorem d_M_byAll_312 : decode prog_14_method_37_code 312 = .ok (.iaload, 1) := by decide +kernel
theorem d_M_byAll_313 : decode prog_14_method_37_code 313 = .ok (.iastore, 1) := by decide +kernel
theorem d_M_byAll_314 : decode prog_14_method_37_code 314 = .ok (.aload_n 0, 1) := by decide +kernel
theorem d_M_byAll_315 : decode prog_14_method_37_code 315 = .ok (.aload_n 0, 1) := by decide +kernel
theorem d_M_byAll_316 : decode prog_14_method_37_code 316 = .ok (.getfield 145, 3) := by decide +kernel
theorem d_M_byAll_319 : decode prog_14_method_37_code 319 = .ok (.iload 5, 2) := by decide +kernel
theorem d_M_byAll_321 : decode prog_14_method_37_code 321 = .ok (.iaload, 1) := by decide +kernel
theorem d_M_byAll_322 : decode prog_14_method_37_code 322 = .ok (.aload_n 0, 1) := by decide +kernel
theorem d_M_byAll_323 : decode prog_14_method_37_code 323 = .ok (.getfield 136, 3) := by decide +kernel
theorem d_M_byAll_326 : decode prog_14_method_37_code 326 = .ok (.invokevirtual 236, 3) := by decide +kernel
theorem d_M_byAll_329 : decode prog_14_method_37_code 329 = .ok (.ifCond .eq 21, 3) := by decide +kernel
theorem d_M_byAll_332 : decode prog_14_method_37_code 332 = .ok (.iload 4, 2) := by decide +kernel
theorem d_M_byAll_334 : decode prog_14_method_37_code 334 = .ok (.aload_n 0, 1) := by decide +kernel
theorem d_M_byAll_335 : decode prog_14_method_37_code 335 = .ok (.getfield 36, 3) := by decide +kernel
theorem d_M_byAll_338 : decode prog_14_method_37_code 338 = .ok (.iload 6, 2) := by decide +kernel
theorem d_M_byAll_340 : decode prog_14_method_37_code 340 = .ok (.iaload, 1) := by decide +kernel
theorem d_M_byAll_341 : decode prog_14_method_37_code 341 = .ok (.iadd, 1) := by decide +kernel
theorem d_M_byAll_342 : decode prog_14_method_37_code 342 = .ok (.istore 4, 2) := by decide +kernel
theorem d_M_byAll_344 : decode prog_14_method_37_code 344 = .ok (.iconst 1, 1) := by decide +kernel
theorem d_M_byAll_345 : decode prog_14_method_37_code 345 = .ok (.istore 7, 2) := by decide +kernel
theorem d_M_byAll_347 : decode prog_14_method_37_code 347 = .ok (.goto (-133), 3) := by decide +kernel
theorem d_M_byAll_350 : decode prog_14_method_37_code 350 = .ok (.aload_n 0, 1) := by decide +kernel
theorem d_M_byAll_351 : decode prog_14_method_37_code 351 = .ok (.getfield 136, 3) := by decide +kernel
theorem d_M_byAll_354 : decode prog_14_method_37_code 354 = .ok (.iload 6, 2) := by decide +kernel
theorem d_M_byAll_356 : decode prog_14_method_37_code 356 = .ok (.iconst (-1), 1) := by decide +kernel
theorem d_M_byAll_357 : decode prog_14_method_37_code 357 = .ok (.iastore, 1) := by decide +kernel
theorem d_M_byAll_358 : decode prog_14_method_37_code 358 = .ok (.goto (-144), 3) := by decide +kernel
theorem d_M_byAll_361 : decode prog_14_method_37_code 361 = .ok (.iload 7, 2) := by decide +kernel
theorem d_M_byAll_363 : decode prog_14_method_37_code 363 = .ok (.ifCond .eq 9, 3) := by decide +kernel
theorem d_M_byAll_366 : decode prog_14_method_37_code 366 = .ok (.iinc 5 1, 3) := by decide +kernel
theorem d_M_byAll_369 : decode prog_14_method_37_code 369 = .ok (.goto 24, 3) := by decide +kernel
theorem d_M_byAll_372 : decode prog_14_method_37_code 372 = .ok (.aload_n 0, 1) := by decide +kernel
theorem d_M_byAll_373 : decode prog_14_method_37_code 373 = .ok (.getfield 145, 3) := by decide +kernel
theorem d_M_byAll_376 : decode prog_14_method_37_code 376 = .ok (.iload 5, 2) := by decide +kernel
theorem d_M_byAll_378 : decode prog_14_method_37_code 378 = .ok (.iconst (-1), 1) := by decide +kernel
theorem d_M_byAll_379 : decode prog_14_method_37_code 379 = .ok (.iastore, 1) := by decide +kernel
theorem d_M_byAll_380 : decode prog_14_method_37_code 380 = .ok (.iload_n 2, 1) := by decide +kernel
theorem d_M_byAll_381 : decode prog_14_method_37_code 381 = .ok (.aload_n 0, 1) := by decide +kernel
theorem d_M_byAll_382 : decode prog_14_method_37_code 382 = .ok (.getfield 36, 3) := by decide +kernel
theorem d_M_byAll_385 : decode prog_14_method_37_code 385 = .ok (.iload 6, 2) := by decide +kernel
theorem d_M_byAll_387 : decode prog_14_method_37_code 387 = .ok (.iaload, 1) := by decide +kernel
theorem d_M_byAll_388 : decode prog_14_method_37_code 388 = .ok (.iadd, 1) := by decide +kernel
theorem d_M_byAll_389 : decode prog_14_method_37_code 389 = .ok (.istore_n 2, 1) := by decide +kernel
theorem d_M_byAll_390 : decode prog_14_method_37_code 390 = .ok (.iinc 5 (-1), 3) := by decide +kernel
theorem d_M_byAll_393 : decode prog_14_method_37_code 393 = .ok (.goto (-301), 3) := by decide +kernel
theorem d_M_byAll_396 : decode prog_14_method_37_code 396 = .ok (.iload_n 3, 1) := by decide +kernel
theorem d_M_byAll_397 : decode prog_14_method_37_code 397 = .ok (.ireturn, 1) := by decide +kernel
theorem d_M_plans_0 : decode prog_14_method_38_code 0 = .ok (.aload_n 0, 1) := by decide +kernel
theorem d_M_plans_1 : decode prog_14_method_38_code 1 = .ok (.getfield 243, 3) := by decide +kernel
theorem d_M_plans_4 : decode prog_14_method_38_code 4 = .ok (.ifCond .eq 19, 3) := by decide +kernel
theorem d_M_plans_7 : decode prog_14_method_38_code 7 = .ok (.aload_n 0, 1) := by decide +kernel
theorem d_M_plans_8 : decode prog_14_method_38_code 8 = .ok (.invokevirtual 247, 3) := by decide +kernel
theorem d_M_plans_11 : decode prog_14_method_38_code 11 = .ok (.bipush 8, 2) := by decide +kernel
theorem d_M_plans_13 : decode prog_14_method_38_code 13 = .ok (.if_icmp .gt 10, 3) := by decide +kernel
theorem d_M_plans_16 : decode prog_14_method_38_code 16 = .ok (.aload_n 0, 1) := by decide +kernel
theorem d_M_plans_17 : decode prog_14_method_38_code 17 = .ok (.invokevirtual 250, 3) := by decide +kernel
theorem d_M_plans_20 : decode prog_14_method_38_code 20 = .ok (.goto 7, 3) := by decide +kernel
theorem d_M_plans_23 : decode prog_14_method_38_code 23 = .ok (.aload_n 0, 1) := by decide +kernel
theorem d_M_plans_24 : decode prog_14_method_38_code 24 = .ok (.invokevirtual 253, 3) := by decide +kernel
theorem d_M_plans_27 : decode prog_14_method_38_code 27 = .ok (.istore_n 1, 1) := by decide +kernel
theorem d_M_plans_28 : decode prog_14_method_38_code 28 = .ok (.iconst 0, 1) := by decide +kernel
theorem d_M_plans_29 : decode prog_14_method_38_code 29 = .ok (.istore_n 2, 1) := by decide +kernel
theorem d_M_plans_30 : decode prog_14_method_38_code 30 = .ok (.iload_n 2, 1) := by decide +kernel
theorem d_M_plans_31 : decode prog_14_method_38_code 31 = .ok (.aload_n 0, 1) := by decide +kernel
theorem d_M_plans_32 : decode prog_14_method_38_code 32 = .ok (.getfield 151, 3) := by decide +kernel
theorem d_M_plans_35 : decode prog_14_method_38_code 35 = .ok (.if_icmp .ge 29, 3) := by decide +kernel
theorem d_M_plans_38 : decode prog_14_method_38_code 38 = .ok (.aload_n 0, 1) := by decide +kernel
theorem d_M_plans_39 : decode prog_14_method_38_code 39 = .ok (.iload_n 2, 1) := by decide +kernel
theorem d_M_plans_40 : decode prog_14_method_38_code 40 = .ok (.invokevirtual 219, 3) := by decide +kernel
theorem d_M_plans_43 : decode prog_14_method_38_code 43 = .ok (.ifCond .eq 15, 3) := by decide +kernel
theorem d_M_plans_46 : decode prog_14_method_38_code 46 = .ok (.aload_n 0, 1) := by decide +kernel
theorem d_M_plans_47 : decode prog_14_method_38_code 47 = .ok (.getfield 54, 3) := by decide +kernel
theorem d_M_plans_50 : decode prog_14_method_38_code 50 = .ok (.iload_n 2, 1) := by decide +kernel
theorem d_M_plans_51 : decode prog_14_method_38_code 51 = .ok (.aload_n 0, 1) := by decide +kernel
theorem d_M_plans_52 : decode prog_14_method_38_code 52 = .ok (.getfield 139, 3) := by decide +kernel
theorem d_M_plans_55 : decode prog_14_method_38_code 55 = .ok (.iload_n 2, 1) := by decide +kernel
theorem d_M_plans_56 : decode prog_14_method_38_code 56 = .ok (.iaload, 1) := by decide +kernel
theorem d_M_plans_57 : decode prog_14_method_38_code 57 = .ok (.iastore, 1) := by decide +kernel
theorem d_M_plans_58 : decode prog_14_method_38_code 58 = .ok (.iinc 2 1, 3) := by decide +kernel
theorem d_M_plans_61 : decode prog_14_method_38_code 61 = .ok (.goto (-31), 3) := by decide +kernel
theorem d_M_plans_64 : decode prog_14_method_38_code 64 = .ok (.iload_n 1, 1) := by decide +kernel
theorem d_M_plans_65 : decode prog_14_method_38_code 65 = .ok (.ireturn, 1) := by decide +kernel
theorem d_M_alarm_0 : decode prog_14_method_39_code 0 = .ok (.iload_n 1, 1) := by decide +kernel
theorem d_M_alarm_1 : decode prog_14_method_39_code 1 = .ok (.iconst 1, 1) := by decide +kernel
theorem d_M_alarm_2 : decode prog_14_method_39_code 2 = .ok (.if_icmp .lt 17, 3) := by decide +kernel
theorem d_M_alarm_5 : decode prog_14_method_39_code 5 = .ok (.iload_n 1, 1) := by decide +kernel
theorem d_M_alarm_6 : decode prog_14_method_39_code 6 = .ok (.sipush 240, 3) := by decide +kernel
theorem d_M_alarm_9 : decode prog_14_method_39_code 9 = .ok (.if_icmp .gt 10, 3) := by decide +kernel
theorem d_M_alarm_12 : decode prog_14_method_39_code 12 = .ok (.aload_n 0, 1) := by decide +kernel
theorem d_M_alarm_13 : decode prog_14_method_39_code 13 = .ok (.getfield 165, 3) := by decide +kernel
theorem d_M_alarm_16 : decode prog_14_method_39_code 16 = .ok (.ifCond .eq 10, 3) := by decide +kernel
theorem d_M_alarm_19 : decode prog_14_method_39_code 19 = .ok (.aload_n 0, 1) := by decide +kernel
theorem d_M_alarm_20 : decode prog_14_method_39_code 20 = .ok (.bipush (-6), 2) := by decide +kernel
theorem d_M_alarm_22 : decode prog_14_method_39_code 22 = .ok (.invokevirtual 161, 3) := by decide +kernel
theorem d_M_alarm_25 : decode prog_14_method_39_code 25 = .ok (.ireturn, 1) := by decide +kernel
theorem d_M_alarm_26 : decode prog_14_method_39_code 26 = .ok (.aload_n 0, 1) := by decide +kernel
theorem d_M_alarm_27 : decode prog_14_method_39_code 27 = .ok (.iload_n 1, 1) := by decide +kernel
theorem d_M_alarm_28 : decode prog_14_method_39_code 28 = .ok (.putfield 210, 3) := by decide +kernel
theorem d_M_alarm_31 : decode prog_14_method_39_code 31 = .ok (.aload_n 0, 1) := by decide +kernel
theorem d_M_alarm_32 : decode prog_14_method_39_code 32 = .ok (.iconst 1, 1) := by decide +kernel
theorem d_M_alarm_33 : decode prog_14_method_39_code 33 = .ok (.putfield 165, 3) := by decide +kernel
theorem d_M_alarm_36 : decode prog_14_method_39_code 36 = .ok (.aload_n 0, 1) := by decide +kernel
theorem d_M_alarm_37 : decode prog_14_method_39_code 37 = .ok (.invokevirtual 171, 3) := by decide +kernel
theorem d_M_alarm_40 : decode prog_14_method_39_code 40 = .ok (.aload_n 0, 1) := by decide +kernel
theorem d_M_alarm_41 : decode prog_14_method_39_code 41 = .ok (.invokevirtual 200, 3) := by decide +kernel
theorem d_M_alarm_44 : decode prog_14_method_39_code 44 = .ok (.ireturn, 1) := by decide +kernel
theorem d_M_plan_0 : decode prog_14_method_40_code 0 = .ok (.aload_n 0, 1) := by decide +kernel
theorem d_M_plan_1 : decode prog_14_method_40_code 1 = .ok (.getfield 165, 3) := by decide +kernel
theorem d_M_plan_4 : decode prog_14_method_40_code 4 = .ok (.iconst 1, 1) := by decide +kernel
theorem d_M_plan_5 : decode prog_14_method_40_code 5 = .ok (.if_icmp .eq 10, 3) := by decide +kernel
theorem d_M_plan_8 : decode prog_14_method_40_code 8 = .ok (.aload_n 0, 1) := by decide +kernel
theorem d_M_plan_9 : decode prog_14_method_40_code 9 = .ok (.bipush (-6), 2) := by decide +kernel
theorem d_M_plan_11 : decode prog_14_method_40_code 11 = .ok (.invokevirtual 161, 3) := by decide +kernel
theorem d_M_plan_14 : decode prog_14_method_40_code 14 = .ok (.ireturn, 1) := by decide +kernel
theorem d_M_plan_15 : decode prog_14_method_40_code 15 = .ok (.iload_n 1, 1) := by decide +kernel
theorem d_M_plan_16 : decode prog_14_method_40_code 16 = .ok (.ifCond .eq 19, 3) := by decide +kernel
theorem d_M_plan_19 : decode prog_14_method_40_code 19 = .ok (.aload_n 0, 1) := by decide +kernel
theorem d_M_plan_20 : decode prog_14_method_40_code 20 = .ok (.invokevirtual 247, 3) := by decide +kernel
theorem d_M_plan_23 : decode prog_14_method_40_code 23 = .ok (.bipush 8, 2) := by decide +kernel
theorem d_M_plan_25 : decode prog_14_method_40_code 25 = .ok (.if_icmp .le 10, 3) := by decide +kernel
theorem d_M_plan_28 : decode prog_14_method_40_code 28 = .ok (.aload_n 0, 1) := by decide +kernel
theorem d_M_plan_29 : decode prog_14_method_40_code 29 = .ok (.bipush (-7), 2) := by decide +kernel
theorem d_M_plan_31 : decode prog_14_method_40_code 31 = .ok (.invokevirtual 161, 3) := by decide +kernel
theorem d_M_plan_34 : decode prog_14_method_40_code 34 = .ok (.ireturn, 1) := by decide +kernel
theorem d_M_plan_35 : decode prog_14_method_40_code 35 = .ok (.aload_n 0, 1) := by decide +kernel
theorem d_M_plan_36 : decode prog_14_method_40_code 36 = .ok (.iload_n 1, 1) := by decide +kernel
theorem d_M_plan_37 : decode prog_14_method_40_code 37 = .ok (.putfield 243, 3) := by decide +kernel
theorem d_M_plan_40 : decode prog_14_method_40_code 40 = .ok (.aload_n 0, 1) := by decide +kernel
theorem d_M_plan_41 : decode prog_14_method_40_code 41 = .ok (.invokevirtual 200, 3) := by decide +kernel
theorem d_M_plan_44 : decode prog_14_method_40_code 44 = .ok (.ireturn, 1) := by decide +kernel
theorem d_M_gap_0 : decode prog_14_method_41_code 0 = .ok (.aload_n 0, 1) := by decide +kernel
theorem d_M_gap_1 : decode prog_14_method_41_code 1 = .ok (.getfield 165, 3) := by decide +kernel
theorem d_M_gap_4 : decode prog_14_method_41_code 4 = .ok (.iconst 1, 1) := by decide +kernel
theorem d_M_gap_5 : decode prog_14_method_41_code 5 = .ok (.if_icmp .eq 10, 3) := by decide +kernel
theorem d_M_gap_8 : decode prog_14_method_41_code 8 = .ok (.aload_n 0, 1) := by decide +kernel
theorem d_M_gap_9 : decode prog_14_method_41_code 9 = .ok (.bipush (-6), 2) := by decide +kernel
theorem d_M_gap_11 : decode prog_14_method_41_code 11 = .ok (.invokevirtual 161, 3) := by decide +kernel
theorem d_M_gap_14 : decode prog_14_method_41_code 14 = .ok (.ireturn, 1) := by decide +kernel
theorem d_M_gap_15 : decode prog_14_method_41_code 15 = .ok (.aload_n 0, 1) := by decide +kernel
theorem d_M_gap_16 : decode prog_14_method_41_code 16 = .ok (.invokevirtual 247, 3) := by decide +kernel
theorem d_M_gap_19 : decode prog_14_method_41_code 19 = .ok (.bipush 8, 2) := by decide +kernel
theorem d_M_gap_21 : decode prog_14_method_41_code 21 = .ok (.if_icmp .le 10, 3) := by decide +kernel
theorem d_M_gap_24 : decode prog_14_method_41_code 24 = .ok (.aload_n 0, 1) := by decide +kernel
theorem d_M_gap_25 : decode prog_14_method_41_code 25 = .ok (.bipush (-7), 2) := by decide +kernel
theorem d_M_gap_27 : decode prog_14_method_41_code 27 = .ok (.invokevirtual 161, 3) := by decide +kernel
theorem d_M_gap_30 : decode prog_14_method_41_code 30 = .ok (.ireturn, 1) := by decide +kernel
theorem d_M_gap_31 : decode prog_14_method_41_code 31 = .ok (.aload_n 0, 1) := by decide +kernel
theorem d_M_gap_32 : decode prog_14_method_41_code 32 = .ok (.invokevirtual 250, 3) := by decide +kernel
theorem d_M_gap_35 : decode prog_14_method_41_code 35 = .ok (.istore_n 1, 1) := by decide +kernel
theorem d_M_gap_36 : decode prog_14_method_41_code 36 = .ok (.iload_n 1, 1) := by decide +kernel
theorem d_M_gap_37 : decode prog_14_method_41_code 37 = .ok (.aload_n 0, 1) := by decide +kernel
theorem d_M_gap_38 : decode prog_14_method_41_code 38 = .ok (.invokevirtual 253, 3) := by decide +kernel
theorem d_M_gap_41 : decode prog_14_method_41_code 41 = .ok (.isub, 1) := by decide +kernel
theorem d_M_gap_42 : decode prog_14_method_41_code 42 = .ok (.ireturn, 1) := by decide +kernel
theorem d_M_block_0 : decode prog_14_method_42_code 0 = .ok (.iload_n 1, 1) := by decide +kernel
theorem d_M_block_1 : decode prog_14_method_42_code 1 = .ok (.ifCond .lt 11, 3) := by decide +kernel
theorem d_M_block_4 : decode prog_14_method_42_code 4 = .ok (.iload_n 1, 1) := by decide +kernel
theorem d_M_block_5 : decode prog_14_method_42_code 5 = .ok (.aload_n 0, 1) := by decide +kernel
theorem d_M_block_6 : decode prog_14_method_42_code 6 = .ok (.getfield 168, 3) := by decide +kernel
theorem d_M_block_9 : decode prog_14_method_42_code 9 = .ok (.if_icmp .lt 9, 3) := by decide +kernel
theorem d_M_block_12 : decode prog_14_method_42_code 12 = .ok (.aload_n 0, 1) := by decide +kernel
theorem d_M_block_13 : decode prog_14_method_42_code 13 = .ok (.iconst (-1), 1) := by decide +kernel
theorem d_M_block_14 : decode prog_14_method_42_code 14 = .ok (.invokevirtual 161, 3) := by decide +kernel
theorem d_M_block_17 : decode prog_14_method_42_code 17 = .ok (.ireturn, 1) := by decide +kernel
theorem d_M_block_18 : decode prog_14_method_42_code 18 = .ok (.aload_n 0, 1) := by decide +kernel
theorem d_M_block_19 : decode prog_14_method_42_code 19 = .ok (.getfield 165, 3) := by decide +kernel
theorem d_M_block_22 : decode prog_14_method_42_code 22 = .ok (.iconst 2, 1) := by decide +kernel
theorem d_M_block_23 : decode prog_14_method_42_code 23 = .ok (.if_icmp .eq 12, 3) := by decide +kernel
theorem d_M_block_26 : decode prog_14_method_42_code 26 = .ok (.aload_n 0, 1) := by decide +kernel
theorem d_M_block_27 : decode prog_14_method_42_code 27 = .ok (.getfield 23, 3) := by decide +kernel
theorem d_M_block_30 : decode prog_14_method_42_code 30 = .ok (.iload_n 1, 1) := by decide +kernel
theorem d_M_block_31 : decode prog_14_method_42_code 31 = .ok (.baload, 1) := by decide +kernel
theorem d_M_block_32 : decode prog_14_method_42_code 32 = .ok (.ifCond .eq 10, 3) := by decide +kernel
theorem d_M_block_35 : decode prog_14_method_42_code 35 = .ok (.aload_n 0, 1) := by decide +kernel
theorem d_M_block_36 : decode prog_14_method_42_code 36 = .ok (.bipush (-6), 2) := by decide +kernel
theorem d_M_block_38 : decode prog_14_method_42_code 38 = .ok (.invokevirtual 161, 3) := by decide +kernel
theorem d_M_block_41 : decode prog_14_method_42_code 41 = .ok (.ireturn, 1) := by decide +kernel
theorem d_M_block_42 : decode prog_14_method_42_code 42 = .ok (.aload_n 0, 1) := by decide +kernel
theorem d_M_block_43 : decode prog_14_method_42_code 43 = .ok (.getfield 23, 3) := by decide +kernel
theorem d_M_block_46 : decode prog_14_method_42_code 46 = .ok (.iload_n 1, 1) := by decide +kernel
theorem d_M_block_47 : decode prog_14_method_42_code 47 = .ok (.iconst 1, 1) := by decide +kernel
theorem d_M_block_48 : decode prog_14_method_42_code 48 = .ok (.bastore, 1) := by decide +kernel
theorem d_M_block_49 : decode prog_14_method_42_code 49 = .ok (.aload_n 0, 1) := by decide +kernel
theorem d_M_block_50 : decode prog_14_method_42_code 50 = .ok (.invokevirtual 171, 3) := by decide +kernel
theorem d_M_block_53 : decode prog_14_method_42_code 53 = .ok (.aload_n 0, 1) := by decide +kernel
theorem d_M_block_54 : decode prog_14_method_42_code 54 = .ok (.getfield 165, 3) := by decide +kernel
theorem d_M_block_57 : decode prog_14_method_42_code 57 = .ok (.ifCond .ne 7, 3) := by decide +kernel
theorem d_M_block_60 : decode prog_14_method_42_code 60 = .ok (.iconst 0, 1) := by decide +kernel
theorem d_M_block_61 : decode prog_14_method_42_code 61 = .ok (.goto 7, 3) := by decide +kernel
theorem d_M_block_64 : decode prog_14_method_42_code 64 = .ok (.aload_n 0, 1) := by decide +kernel
theorem d_M_block_65 : decode prog_14_method_42_code 65 = .ok (.invokevirtual 200, 3) := by decide +kernel
theorem d_M_block_68 : decode prog_14_method_42_code 68 = .ok (.ireturn, 1) := by decide +kernel
theorem d_M_late_0 : decode prog_14_method_43_code 0 = .ok (.iload_n 1, 1) := by decide +kernel
theorem d_M_late_1 : decode prog_14_method_43_code 1 = .ok (.ifCond .lt 11, 3) := by decide +kernel
theorem d_M_late_4 : decode prog_14_method_43_code 4 = .ok (.iload_n 1, 1) := by decide +kernel
theorem d_M_late_5 : decode prog_14_method_43_code 5 = .ok (.aload_n 0, 1) := by decide +kernel
theorem d_M_late_6 : decode prog_14_method_43_code 6 = .ok (.getfield 174, 3) := by decide +kernel
theorem d_M_late_9 : decode prog_14_method_43_code 9 = .ok (.if_icmp .lt 9, 3) := by decide +kernel
theorem d_M_late_12 : decode prog_14_method_43_code 12 = .ok (.aload_n 0, 1) := by decide +kernel
theorem d_M_late_13 : decode prog_14_method_43_code 13 = .ok (.iconst (-1), 1) := by decide +kernel
theorem d_M_late_14 : decode prog_14_method_43_code 14 = .ok (.invokevirtual 161, 3) := by decide +kernel
theorem d_M_late_17 : decode prog_14_method_43_code 17 = .ok (.ireturn, 1) := by decide +kernel
theorem d_M_late_18 : decode prog_14_method_43_code 18 = .ok (.iload_n 2, 1) := by decide +kernel
theorem d_M_late_19 : decode prog_14_method_43_code 19 = .ok (.iconst 1, 1) := by decide +kernel
theorem d_M_late_20 : decode prog_14_method_43_code 20 = .ok (.if_icmp .lt 27, 3) := by decide +kernel
theorem d_M_late_23 : decode prog_14_method_43_code 23 = .ok (.iload_n 2, 1) := by decide +kernel
theorem d_M_late_24 : decode prog_14_method_43_code 24 = .ok (.bipush 60, 2) := by decide +kernel
theorem d_M_late_26 : decode prog_14_method_43_code 26 = .ok (.if_icmp .gt 21, 3) := by decide +kernel
theorem d_M_late_29 : decode prog_14_method_43_code 29 = .ok (.aload_n 0, 1) := by decide +kernel
theorem d_M_late_30 : decode prog_14_method_43_code 30 = .ok (.getfield 165, 3) := by decide +kernel
theorem d_M_late_33 : decode prog_14_method_43_code 33 = .ok (.iconst 1, 1) := by decide +kernel
theorem d_M_late_34 : decode prog_14_method_43_code 34 = .ok (.if_icmp .ne 13, 3) := by decide +kernel
theorem d_M_late_37 : decode prog_14_method_43_code 37 = .ok (.aload_n 0, 1) := by decide +kernel
theorem d_M_late_38 : decode prog_14_method_43_code 38 = .ok (.getfield 63, 3) := by decide +kernel
theorem d_M_late_41 : decode prog_14_method_43_code 41 = .ok (.iload_n 1, 1) := by decide +kernel
theorem d_M_late_42 : decode prog_14_method_43_code 42 = .ok (.iaload, 1) := by decide +kernel
theorem d_M_late_43 : decode prog_14_method_43_code 43 = .ok (.iconst (-1), 1) := by decide +kernel
theorem d_M_late_44 : decode prog_14_method_43_code 44 = .ok (.if_icmp .eq 10, 3) := by decide +kernel
theorem d_M_late_47 : decode prog_14_method_43_code 47 = .ok (.aload_n 0, 1) := by decide +kernel
theorem d_M_late_48 : decode prog_14_method_43_code 48 = .ok (.bipush (-6), 2) := by decide +kernel
theorem d_M_late_50 : decode prog_14_method_43_code 50 = .ok (.invokevirtual 161, 3) := by decide +kernel
theorem d_M_late_53 : decode prog_14_method_43_code 53 = .ok (.ireturn, 1) := by decide +kernel
theorem d_M_late_54 : decode prog_14_method_43_code 54 = .ok (.aload_n 0, 1) := by decide +kernel
theorem d_M_late_55 : decode prog_14_method_43_code 55 = .ok (.getfield 60, 3) := by decide +kernel
theorem d_M_late_58 : decode prog_14_method_43_code 58 = .ok (.iload_n 1, 1) := by decide +kernel
theorem d_M_late_59 : decode prog_14_method_43_code 59 = .ok (.aload_n 0, 1) := by decide +kernel
theorem d_M_late_60 : decode prog_14_method_43_code 60 = .ok (.iload_n 1, 1) := by decide +kernel
theorem d_M_late_61 : decode prog_14_method_43_code 61 = .ok (.invokevirtual 233, 3) := by decide +kernel
theorem d_M_late_64 : decode prog_14_method_43_code 64 = .ok (.iload_n 2, 1) := by decide +kernel
theorem d_M_late_65 : decode prog_14_method_43_code 65 = .ok (.iadd, 1) := by decide +kernel
theorem d_M_late_66 : decode prog_14_method_43_code 66 = .ok (.iastore, 1) := by decide +kernel
theorem d_M_late_67 : decode prog_14_method_43_code 67 = .ok (.aload_n 0, 1) := by decide +kernel
theorem d_M_late_68 : decode prog_14_method_43_code 68 = .ok (.invokevirtual 200, 3) := by decide +kernel
theorem d_M_late_71 : decode prog_14_method_43_code 71 = .ok (.ireturn, 1) := by decide +kernel
theorem d_M_goes_0 : decode prog_14_method_44_code 0 = .ok (.aload_n 0, 1) := by decide +kernel
theorem d_M_goes_1 : decode prog_14_method_44_code 1 = .ok (.getfield 118, 3) := by decide +kernel
theorem d_M_goes_4 : decode prog_14_method_44_code 4 = .ok (.aload_n 0, 1) := by decide +kernel
theorem d_M_goes_5 : decode prog_14_method_44_code 5 = .ok (.getfield 256, 3) := by decide +kernel
theorem d_M_goes_8 : decode prog_14_method_44_code 8 = .ok (.iload_n 1, 1) := by decide +kernel
theorem d_M_goes_9 : decode prog_14_method_44_code 9 = .ok (.iastore, 1) := by decide +kernel
theorem d_M_goes_10 : decode prog_14_method_44_code 10 = .ok (.aload_n 0, 1) := by decide +kernel
theorem d_M_goes_11 : decode prog_14_method_44_code 11 = .ok (.getfield 121, 3) := by decide +kernel
theorem d_M_goes_14 : decode prog_14_method_44_code 14 = .ok (.aload_n 0, 1) := by decide +kernel
theorem d_M_goes_15 : decode prog_14_method_44_code 15 = .ok (.getfield 256, 3) := by decide +kernel
theorem d_M_goes_18 : decode prog_14_method_44_code 18 = .ok (.aload_n 0, 1) := by decide +kernel
theorem d_M_goes_19 : decode prog_14_method_44_code 19 = .ok (.getfield 165, 3) := by decide +kernel
theorem d_M_goes_22 : decode prog_14_method_44_code 22 = .ok (.iconst 2, 1) := by decide +kernel
theorem d_M_goes_23 : decode prog_14_method_44_code 23 = .ok (.if_icmp .ne 14, 3) := by decide +kernel
theorem d_M_goes_26 : decode prog_14_method_44_code 26 = .ok (.sipush 1000, 3) := by decide +kernel
theorem d_M_goes_29 : decode prog_14_method_44_code 29 = .ok (.aload_n 0, 1) := by decide +kernel
theorem d_M_goes_30 : decode prog_14_method_44_code 30 = .ok (.getfield 259, 3) := by decide +kernel
theorem d_M_goes_33 : decode prog_14_method_44_code 33 = .ok (.iadd, 1) := by decide +kernel
theorem d_M_goes_34 : decode prog_14_method_44_code 34 = .ok (.goto 7, 3) := by decide +kernel
theorem d_M_goes_37 : decode prog_14_method_44_code 37 = .ok (.aload_n 0, 1) := by decide +kernel
theorem d_M_goes_38 : decode prog_14_method_44_code 38 = .ok (.getfield 197, 3) := by decide +kernel
theorem d_M_goes_41 : decode prog_14_method_44_code 41 = .ok (.iastore, 1) := by decide +kernel
theorem d_M_goes_42 : decode prog_14_method_44_code 42 = .ok (.aload_n 0, 1) := by decide +kernel
theorem d_M_goes_43 : decode prog_14_method_44_code 43 = .ok (.getfield 124, 3) := by decide +kernel
theorem d_M_goes_46 : decode prog_14_method_44_code 46 = .ok (.aload_n 0, 1) := by decide +kernel
theorem d_M_goes_47 : decode prog_14_method_44_code 47 = .ok (.getfield 256, 3) := by decide +kernel
theorem d_M_goes_50 : decode prog_14_method_44_code 50 = .ok (.aload_n 0, 1) := by decide +kernel
theorem d_M_goes_51 : decode prog_14_method_44_code 51 = .ok (.getfield 45, 3) := by decide +kernel
theorem d_M_goes_54 : decode prog_14_method_44_code 54 = .ok (.iload_n 1, 1) := by decide +kernel
theorem d_M_goes_55 : decode prog_14_method_44_code 55 = .ok (.iaload, 1) := by decide +kernel
theorem d_M_goes_56 : decode prog_14_method_44_code 56 = .ok (.iastore, 1) := by decide +kernel
theorem d_M_goes_57 : decode prog_14_method_44_code 57 = .ok (.aload_n 0, 1) := by decide +kernel
theorem d_M_goes_58 : decode prog_14_method_44_code 58 = .ok (.getfield 127, 3) := by decide +kernel
theorem d_M_goes_61 : decode prog_14_method_44_code 61 = .ok (.aload_n 0, 1) := by decide +kernel
theorem d_M_goes_62 : decode prog_14_method_44_code 62 = .ok (.dup, 1) := by decide +kernel
theorem d_M_goes_63 : decode prog_14_method_44_code 63 = .ok (.getfield 256, 3) := by decide +kernel
theorem d_M_goes_66 : decode prog_14_method_44_code 66 = .ok (.dup_x1, 1) := by decide +kernel
theorem d_M_goes_67 : decode prog_14_method_44_code 67 = .ok (.iconst 1, 1) := by decide +kernel
theorem d_M_goes_68 : decode prog_14_method_44_code 68 = .ok (.iadd, 1) := by decide +kernel
theorem d_M_goes_69 : decode prog_14_method_44_code 69 = .ok (.putfield 256, 3) := by decide +kernel
theorem d_M_goes_72 : decode prog_14_method_44_code 72 = .ok (.iload_n 2, 1) := by decide +kernel
theorem d_M_goes_73 : decode prog_14_method_44_code 73 = .ok (.iastore, 1) := by decide +kernel
theorem d_M_goes_74 : decode prog_14_method_44_code 74 = .ok (.aload_n 0, 1) := by decide +kernel
theorem d_M_goes_75 : decode prog_14_method_44_code 75 = .ok (.getfield 45, 3) := by decide +kernel
theorem d_M_goes_78 : decode prog_14_method_44_code 78 = .ok (.iload_n 1, 1) := by decide +kernel
theorem d_M_goes_79 : decode prog_14_method_44_code 79 = .ok (.iload_n 2, 1) := by decide +kernel
theorem d_M_goes_80 : decode prog_14_method_44_code 80 = .ok (.iastore, 1) := by decide +kernel
theorem d_M_goes_81 : decode prog_14_method_44_code 81 = .ok (.return_, 1) := by decide +kernel
theorem d_M_comes_0 : decode prog_14_method_45_code 0 = .ok (.iconst 0, 1) := by decide +kernel
theorem d_M_comes_1 : decode prog_14_method_45_code 1 = .ok (.istore_n 1, 1) := by decide +kernel
theorem d_M_comes_2 : decode prog_14_method_45_code 2 = .ok (.iload_n 1, 1) := by decide +kernel
theorem d_M_comes_3 : decode prog_14_method_45_code 3 = .ok (.aload_n 0, 1) := by decide +kernel
theorem d_M_comes_4 : decode prog_14_method_45_code 4 = .ok (.getfield 174, 3) := by decide +kernel
theorem d_M_comes_7 : decode prog_14_method_45_code 7 = .ok (.if_icmp .ge 52, 3) := by decide +kernel
theorem d_M_comes_10 : decode prog_14_method_45_code 10 = .ok (.aload_n 0, 1) := by decide +kernel
theorem d_M_comes_11 : decode prog_14_method_45_code 11 = .ok (.getfield 63, 3) := by decide +kernel
theorem d_M_comes_14 : decode prog_14_method_45_code 14 = .ok (.iload_n 1, 1) := by decide +kernel
theorem d_M_comes_15 : decode prog_14_method_45_code 15 = .ok (.iaload, 1) := by decide +kernel
theorem d_M_comes_16 : decode prog_14_method_45_code 16 = .ok (.iconst (-1), 1) := by decide +kernel
theorem d_M_comes_17 : decode prog_14_method_45_code 17 = .ok (.if_icmp .eq 36, 3) := by decide +kernel
theorem d_M_comes_20 : decode prog_14_method_45_code 20 = .ok (.aload_n 0, 1) := by decide +kernel
theorem d_M_comes_21 : decode prog_14_method_45_code 21 = .ok (.getfield 60, 3) := by decide +kernel
theorem d_M_comes_24 : decode prog_14_method_45_code 24 = .ok (.iload_n 1, 1) := by decide +kernel
theorem d_M_comes_25 : decode prog_14_method_45_code 25 = .ok (.iaload, 1) := by decide +kernel
theorem d_M_comes_26 : decode prog_14_method_45_code 26 = .ok (.aload_n 0, 1) := by decide +kernel
theorem d_M_comes_27 : decode prog_14_method_45_code 27 = .ok (.getfield 197, 3) := by decide +kernel
theorem d_M_comes_30 : decode prog_14_method_45_code 30 = .ok (.if_icmp .ne 23, 3) := by decide +kernel
theorem d_M_comes_33 : decode prog_14_method_45_code 33 = .ok (.aload_n 0, 1) := by decide +kernel
theorem d_M_comes_34 : decode prog_14_method_45_code 34 = .ok (.aload_n 0, 1) := by decide +kernel
theorem d_M_comes_35 : decode prog_14_method_45_code 35 = .ok (.getfield 63, 3) := by decide +kernel
theorem d_M_comes_38 : decode prog_14_method_45_code 38 = .ok (.iload_n 1, 1) := by decide +kernel
theorem d_M_comes_39 : decode prog_14_method_45_code 39 = .ok (.iaload, 1) := by decide +kernel
theorem d_M_comes_40 : decode prog_14_method_45_code 40 = .ok (.sipush 300, 3) := by decide +kernel
theorem d_M_comes_43 : decode prog_14_method_45_code 43 = .ok (.invokevirtual 262, 3) := by decide +kernel
theorem d_M_comes_46 : decode prog_14_method_45_code 46 = .ok (.aload_n 0, 1) := by decide +kernel
theorem d_M_comes_47 : decode prog_14_method_45_code 47 = .ok (.getfield 63, 3) := by decide +kernel
theorem d_M_comes_50 : decode prog_14_method_45_code 50 = .ok (.iload_n 1, 1) := by decide +kernel
theorem d_M_comes_51 : decode prog_14_method_45_code 51 = .ok (.iconst (-1), 1) := by decide +kernel
theorem d_M_comes_52 : decode prog_14_method_45_code 52 = .ok (.iastore, 1) := by decide +kernel
theorem d_M_comes_53 : decode prog_14_method_45_code 53 = .ok (.iinc 1 1, 3) := by decide +kernel
theorem d_M_comes_56 : decode prog_14_method_45_code 56 = .ok (.goto (-54), 3) := by decide +kernel
theorem d_M_comes_59 : decode prog_14_method_45_code 59 = .ok (.return_, 1) := by decide +kernel
theorem d_M_begin_0 : decode prog_14_method_46_code 0 = .ok (.iconst 0, 1) := by decide +kernel
theorem d_M_begin_1 : decode prog_14_method_46_code 1 = .ok (.istore_n 1, 1) := by decide +kernel
theorem d_M_begin_2 : decode prog_14_method_46_code 2 = .ok (.iload_n 1, 1) := by decide +kernel
theorem d_M_begin_3 : decode prog_14_method_46_code 3 = .ok (.aload_n 0, 1) := by decide +kernel
theorem d_M_begin_4 : decode prog_14_method_46_code 4 = .ok (.getfield 174, 3) := by decide +kernel
theorem d_M_begin_7 : decode prog_14_method_46_code 7 = .ok (.if_icmp .ge 87, 3) := by decide +kernel
theorem d_M_begin_10 : decode prog_14_method_46_code 10 = .ok (.aload_n 0, 1) := by decide +kernel
theorem d_M_begin_11 : decode prog_14_method_46_code 11 = .ok (.getfield 63, 3) := by decide +kernel
theorem d_M_begin_14 : decode prog_14_method_46_code 14 = .ok (.iload_n 1, 1) := by decide +kernel
theorem d_M_begin_15 : decode prog_14_method_46_code 15 = .ok (.iaload, 1) := by decide +kernel
theorem d_M_begin_16 : decode prog_14_method_46_code 16 = .ok (.iconst (-1), 1) := by decide +kernel
theorem d_M_begin_17 : decode prog_14_method_46_code 17 = .ok (.if_icmp .ne 71, 3) := by decide +kernel
theorem d_M_begin_20 : decode prog_14_method_46_code 20 = .ok (.aload_n 0, 1) := by decide +kernel
theorem d_M_begin_21 : decode prog_14_method_46_code 21 = .ok (.getfield 60, 3) := by decide +kernel
theorem d_M_begin_24 : decode prog_14_method_46_code 24 = .ok (.iload_n 1, 1) := by decide +kernel
theorem d_M_begin_25 : decode prog_14_method_46_code 25 = .ok (.iaload, 1) := by decide +kernel
theorem d_M_begin_26 : decode prog_14_method_46_code 26 = .ok (.aload_n 0, 1) := by decide +kernel
theorem d_M_begin_27 : decode prog_14_method_46_code 27 = .ok (.getfield 197, 3) := by decide +kernel
theorem d_M_begin_30 : decode prog_14_method_46_code 30 = .ok (.if_icmp .gt 58, 3) := by decide +kernel
theorem d_M_begin_33 : decode prog_14_method_46_code 33 = .ok (.aload_n 0, 1) := by decide +kernel
theorem d_M_begin_34 : decode prog_14_method_46_code 34 = .ok (.iload_n 1, 1) := by decide +kernel
theorem d_M_begin_35 : decode prog_14_method_46_code 35 = .ok (.aload_n 0, 1) := by decide +kernel
theorem d_M_begin_36 : decode prog_14_method_46_code 36 = .ok (.getfield 54, 3) := by decide +kernel
theorem d_M_begin_39 : decode prog_14_method_46_code 39 = .ok (.invokevirtual 229, 3) := by decide +kernel
theorem d_M_begin_42 : decode prog_14_method_46_code 42 = .ok (.ifCond .ne 6, 3) := by decide +kernel
theorem d_M_begin_45 : decode prog_14_method_46_code 45 = .ok (.goto 43, 3) := by decide +kernel
theorem d_M_begin_48 : decode prog_14_method_46_code 48 = .ok (.aload_n 0, 1) := by decide +kernel
theorem d_M_begin_49 : decode prog_14_method_46_code 49 = .ok (.getfield 133, 3) := by decide +kernel
theorem d_M_begin_52 : decode prog_14_method_46_code 52 = .ok (.iconst 0, 1) := by decide +kernel
theorem d_M_begin_53 : decode prog_14_method_46_code 53 = .ok (.iaload, 1) := by decide +kernel
theorem d_M_begin_54 : decode prog_14_method_46_code 54 = .ok (.istore_n 2, 1) := by decide +kernel
theorem d_M_begin_55 : decode prog_14_method_46_code 55 = .ok (.aload_n 0, 1) := by decide +kernel
theorem d_M_begin_56 : decode prog_14_method_46_code 56 = .ok (.getfield 60, 3) := by decide +kernel
theorem d_M_begin_59 : decode prog_14_method_46_code 59 = .ok (.iload_n 1, 1) := by decide +kernel
theorem d_M_begin_60 : decode prog_14_method_46_code 60 = .ok (.aload_n 0, 1) := by decide +kernel
theorem d_M_begin_61 : decode prog_14_method_46_code 61 = .ok (.getfield 197, 3) := by decide +kernel
theorem d_M_begin_64 : decode prog_14_method_46_code 64 = .ok (.aload_n 0, 1) := by decide +kernel
theorem d_M_begin_65 : decode prog_14_method_46_code 65 = .ok (.iload_n 2, 1) := by decide +kernel
theorem d_M_begin_66 : decode prog_14_method_46_code 66 = .ok (.invokevirtual 213, 3) := by decide +kernel
theorem d_M_begin_69 : decode prog_14_method_46_code 69 = .ok (.iadd, 1) := by decide +kernel
theorem d_M_begin_70 : decode prog_14_method_46_code 70 = .ok (.iastore, 1) := by decide +kernel
theorem d_M_begin_71 : decode prog_14_method_46_code 71 = .ok (.aload_n 0, 1) := by decide +kernel
theorem d_M_begin_72 : decode prog_14_method_46_code 72 = .ok (.getfield 63, 3) := by decide +kernel
theorem d_M_begin_75 : decode prog_14_method_46_code 75 = .ok (.iload_n 1, 1) := by decide +kernel
theorem d_M_begin_76 : decode prog_14_method_46_code 76 = .ok (.iload_n 2, 1) := by decide +kernel
theorem d_M_begin_77 : decode prog_14_method_46_code 77 = .ok (.iastore, 1) := by decide +kernel
theorem d_M_begin_78 : decode prog_14_method_46_code 78 = .ok (.aload_n 0, 1) := by decide +kernel
theorem d_M_begin_79 : decode prog_14_method_46_code 79 = .ok (.iload_n 2, 1) := by decide +kernel
theorem d_M_begin_80 : decode prog_14_method_46_code 80 = .ok (.sipush 200, 3) := by decide +kernel
theorem d_M_begin_83 : decode prog_14_method_46_code 83 = .ok (.iload_n 1, 1) := by decide +kernel
theorem d_M_begin_84 : decode prog_14_method_46_code 84 = .ok (.iadd, 1) := by decide +kernel
theorem d_M_begin_85 : decode prog_14_method_46_code 85 = .ok (.invokevirtual 262, 3) := by decide +kernel
theorem d_M_begin_88 : decode prog_14_method_46_code 88 = .ok (.iinc 1 1, 3) := by decide +kernel
theorem d_M_begin_91 : decode prog_14_method_46_code 91 = .ok (.goto (-89), 3) := by decide +kernel
theorem d_M_begin_94 : decode prog_14_method_46_code 94 = .ok (.return_, 1) := by decide +kernel
theorem d_M_minutes_0 : decode prog_14_method_47_code 0 = .ok (.iload_n 1, 1) := by decide +kernel
theorem d_M_minutes_1 : decode prog_14_method_47_code 1 = .ok (.iconst 1, 1) := by decide +kernel
theorem d_M_minutes_2 : decode prog_14_method_47_code 2 = .ok (.if_icmp .lt 18, 3) := by decide +kernel
theorem d_M_minutes_5 : decode prog_14_method_47_code 5 = .ok (.iload_n 1, 1) := by decide +kernel
theorem d_M_minutes_6 : decode prog_14_method_47_code 6 = .ok (.sipush 240, 3) := by decide +kernel
theorem d_M_minutes_9 : decode prog_14_method_47_code 9 = .ok (.if_icmp .gt 11, 3) := by decide +kernel
theorem d_M_minutes_12 : decode prog_14_method_47_code 12 = .ok (.aload_n 0, 1) := by decide +kernel
theorem d_M_minutes_13 : decode prog_14_method_47_code 13 = .ok (.getfield 165, 3) := by decide +kernel
theorem d_M_minutes_16 : decode prog_14_method_47_code 16 = .ok (.iconst 1, 1) := by decide +kernel
theorem d_M_minutes_17 : decode prog_14_method_47_code 17 = .ok (.if_icmp .eq 10, 3) := by decide +kernel
theorem d_M_minutes_20 : decode prog_14_method_47_code 20 = .ok (.aload_n 0, 1) := by decide +kernel
theorem d_M_minutes_21 : decode prog_14_method_47_code 21 = .ok (.bipush (-6), 2) := by decide +kernel
theorem d_M_minutes_23 : decode prog_14_method_47_code 23 = .ok (.invokevirtual 161, 3) := by decide +kernel
theorem d_M_minutes_26 : decode prog_14_method_47_code 26 = .ok (.ireturn, 1) := by decide +kernel
theorem d_M_minutes_27 : decode prog_14_method_47_code 27 = .ok (.iconst 0, 1) := by decide +kernel
theorem d_M_minutes_28 : decode prog_14_method_47_code 28 = .ok (.istore_n 2, 1) := by decide +kernel
theorem d_M_minutes_29 : decode prog_14_method_47_code 29 = .ok (.iload_n 2, 1) := by decide +kernel
theorem d_M_minutes_30 : decode prog_14_method_47_code 30 = .ok (.iload_n 1, 1) := by decide +kernel
theorem d_M_minutes_31 : decode prog_14_method_47_code 31 = .ok (.if_icmp .ge 38, 3) := by decide +kernel
theorem d_M_minutes_34 : decode prog_14_method_47_code 34 = .ok (.aload_n 0, 1) := by decide +kernel
theorem d_M_minutes_35 : decode prog_14_method_47_code 35 = .ok (.getfield 197, 3) := by decide +kernel
theorem d_M_minutes_38 : decode prog_14_method_47_code 38 = .ok (.aload_n 0, 1) := by decide +kernel
theorem d_M_minutes_39 : decode prog_14_method_47_code 39 = .ok (.getfield 210, 3) := by decide +kernel
theorem d_M_minutes_42 : decode prog_14_method_47_code 42 = .ok (.if_icmp .ge 27, 3) := by decide +kernel
theorem d_M_minutes_45 : decode prog_14_method_47_code 45 = .ok (.aload_n 0, 1) := by decide +kernel
theorem d_M_minutes_46 : decode prog_14_method_47_code 46 = .ok (.invokevirtual 266, 3) := by decide +kernel
theorem d_M_minutes_49 : decode prog_14_method_47_code 49 = .ok (.aload_n 0, 1) := by decide +kernel
theorem d_M_minutes_50 : decode prog_14_method_47_code 50 = .ok (.dup, 1) := by decide +kernel
theorem d_M_minutes_51 : decode prog_14_method_47_code 51 = .ok (.getfield 197, 3) := by decide +kernel
theorem d_M_minutes_54 : decode prog_14_method_47_code 54 = .ok (.iconst 1, 1) := by decide +kernel
theorem d_M_minutes_55 : decode prog_14_method_47_code 55 = .ok (.iadd, 1) := by decide +kernel
theorem d_M_minutes_56 : decode prog_14_method_47_code 56 = .ok (.putfield 197, 3) := by decide +kernel
theorem d_M_minutes_59 : decode prog_14_method_47_code 59 = .ok (.aload_n 0, 1) := by decide +kernel
theorem d_M_minutes_60 : decode prog_14_method_47_code 60 = .ok (.invokevirtual 269, 3) := by decide +kernel
theorem d_M_minutes_63 : decode prog_14_method_47_code 63 = .ok (.iinc 2 1, 3) := by decide +kernel
theorem d_M_minutes_66 : decode prog_14_method_47_code 66 = .ok (.goto (-37), 3) := by decide +kernel
theorem d_M_minutes_69 : decode prog_14_method_47_code 69 = .ok (.aload_n 0, 1) := by decide +kernel
theorem d_M_minutes_70 : decode prog_14_method_47_code 70 = .ok (.getfield 197, 3) := by decide +kernel
theorem d_M_minutes_73 : decode prog_14_method_47_code 73 = .ok (.aload_n 0, 1) := by decide +kernel
theorem d_M_minutes_74 : decode prog_14_method_47_code 74 = .ok (.getfield 210, 3) := by decide +kernel
theorem d_M_minutes_77 : decode prog_14_method_47_code 77 = .ok (.if_icmp .ne 47, 3) := by decide +kernel
theorem d_M_minutes_80 : decode prog_14_method_47_code 80 = .ok (.iconst 0, 1) := by decide +kernel
theorem d_M_minutes_81 : decode prog_14_method_47_code 81 = .ok (.istore_n 2, 1) := by decide +kernel
theorem d_M_minutes_82 : decode prog_14_method_47_code 82 = .ok (.iload_n 2, 1) := by decide +kernel
theorem d_M_minutes_83 : decode prog_14_method_47_code 83 = .ok (.aload_n 0, 1) := by decide +kernel
theorem d_M_minutes_84 : decode prog_14_method_47_code 84 = .ok (.getfield 151, 3) := by decide +kernel
theorem d_M_minutes_87 : decode prog_14_method_47_code 87 = .ok (.if_icmp .ge 32, 3) := by decide +kernel
theorem d_M_minutes_90 : decode prog_14_method_47_code 90 = .ok (.aload_n 0, 1) := by decide +kernel
theorem d_M_minutes_91 : decode prog_14_method_47_code 91 = .ok (.iload_n 2, 1) := by decide +kernel
theorem d_M_minutes_92 : decode prog_14_method_47_code 92 = .ok (.invokevirtual 219, 3) := by decide +kernel
theorem d_M_minutes_95 : decode prog_14_method_47_code 95 = .ok (.ifCond .eq 18, 3) := by decide +kernel
theorem d_M_minutes_98 : decode prog_14_method_47_code 98 = .ok (.aload_n 0, 1) := by decide +kernel
theorem d_M_minutes_99 : decode prog_14_method_47_code 99 = .ok (.getfield 54, 3) := by decide +kernel
theorem d_M_minutes_102 : decode prog_14_method_47_code 102 = .ok (.iload_n 2, 1) := by decide +kernel
theorem d_M_minutes_103 : decode prog_14_method_47_code 103 = .ok (.iconst (-1), 1) := by decide +kernel
theorem d_M_minutes_104 : decode prog_14_method_47_code 104 = .ok (.iastore, 1) := by decide +kernel
theorem d_M_minutes_105 : decode prog_14_method_47_code 105 = .ok (.aload_n 0, 1) := by decide +kernel
theorem d_M_minutes_106 : decode prog_14_method_47_code 106 = .ok (.iload_n 2, 1) := by decide +kernel
theorem d_M_minutes_107 : decode prog_14_method_47_code 107 = .ok (.sipush 500, 3) := by decide +kernel
theorem d_M_minutes_110 : decode prog_14_method_47_code 110 = .ok (.invokevirtual 262, 3) := by decide +kernel
theorem d_M_minutes_113 : decode prog_14_method_47_code 113 = .ok (.iinc 2 1, 3) := by decide +kernel
theorem d_M_minutes_116 : decode prog_14_method_47_code 116 = .ok (.goto (-34), 3) := by decide +kernel
theorem d_M_minutes_119 : decode prog_14_method_47_code 119 = .ok (.aload_n 0, 1) := by decide +kernel
theorem d_M_minutes_120 : decode prog_14_method_47_code 120 = .ok (.iconst 2, 1) := by decide +kernel
theorem d_M_minutes_121 : decode prog_14_method_47_code 121 = .ok (.putfield 165, 3) := by decide +kernel
theorem d_M_minutes_124 : decode prog_14_method_47_code 124 = .ok (.aload_n 0, 1) := by decide +kernel
theorem d_M_minutes_125 : decode prog_14_method_47_code 125 = .ok (.getfield 197, 3) := by decide +kernel
theorem d_M_minutes_128 : decode prog_14_method_47_code 128 = .ok (.ireturn, 1) := by decide +kernel
theorem d_M_far_0 : decode prog_14_method_48_code 0 = .ok (.iload_n 1, 1) := by decide +kernel
theorem d_M_far_1 : decode prog_14_method_48_code 1 = .ok (.invokestatic 157, 3) := by decide +kernel
theorem d_M_far_4 : decode prog_14_method_48_code 4 = .ok (.ifCond .ne 5, 3) := by decide +kernel
theorem d_M_far_7 : decode prog_14_method_48_code 7 = .ok (.iconst (-1), 1) := by decide +kernel
theorem d_M_far_8 : decode prog_14_method_48_code 8 = .ok (.ireturn, 1) := by decide +kernel
theorem d_M_far_9 : decode prog_14_method_48_code 9 = .ok (.iload_n 1, 1) := by decide +kernel
theorem d_M_far_10 : decode prog_14_method_48_code 10 = .ok (.ifCond .ne 7, 3) := by decide +kernel
theorem d_M_far_13 : decode prog_14_method_48_code 13 = .ok (.iconst 0, 1) := by decide +kernel
theorem d_M_far_14 : decode prog_14_method_48_code 14 = .ok (.goto 20, 3) := by decide +kernel
theorem d_M_far_17 : decode prog_14_method_48_code 17 = .ok (.aload_n 0, 1) := by decide +kernel
theorem d_M_far_18 : decode prog_14_method_48_code 18 = .ok (.getfield 168, 3) := by decide +kernel
theorem d_M_far_21 : decode prog_14_method_48_code 21 = .ok (.ifCond .ne 7, 3) := by decide +kernel
theorem d_M_far_24 : decode prog_14_method_48_code 24 = .ok (.iconst (-1), 1) := by decide +kernel
theorem d_M_far_25 : decode prog_14_method_48_code 25 = .ok (.goto 9, 3) := by decide +kernel
theorem d_M_far_28 : decode prog_14_method_48_code 28 = .ok (.aload_n 0, 1) := by decide +kernel
theorem d_M_far_29 : decode prog_14_method_48_code 29 = .ok (.getfield 30, 3) := by decide +kernel
theorem d_M_far_32 : decode prog_14_method_48_code 32 = .ok (.iload_n 1, 1) := by decide +kernel
theorem d_M_far_33 : decode prog_14_method_48_code 33 = .ok (.iaload, 1) := by decide +kernel
theorem d_M_far_34 : decode prog_14_method_48_code 34 = .ok (.ireturn, 1) := by decide +kernel
theorem d_M_given_0 : decode prog_14_method_49_code 0 = .ok (.aload_n 0, 1) := by decide +kernel
theorem d_M_given_1 : decode prog_14_method_49_code 1 = .ok (.iload_n 1, 1) := by decide +kernel
theorem d_M_given_2 : decode prog_14_method_49_code 2 = .ok (.invokevirtual 204, 3) := by decide +kernel
theorem d_M_given_5 : decode prog_14_method_49_code 5 = .ok (.ifCond .ne 5, 3) := by decide +kernel
theorem d_M_given_8 : decode prog_14_method_49_code 8 = .ok (.iconst (-1), 1) := by decide +kernel
theorem d_M_given_9 : decode prog_14_method_49_code 9 = .ok (.ireturn, 1) := by decide +kernel
theorem d_M_given_10 : decode prog_14_method_49_code 10 = .ok (.aload_n 0, 1) := by decide +kernel
theorem d_M_given_11 : decode prog_14_method_49_code 11 = .ok (.getfield 45, 3) := by decide +kernel
theorem d_M_given_14 : decode prog_14_method_49_code 14 = .ok (.iload_n 1, 1) := by decide +kernel
theorem d_M_given_15 : decode prog_14_method_49_code 15 = .ok (.iaload, 1) := by decide +kernel
theorem d_M_given_16 : decode prog_14_method_49_code 16 = .ok (.sipush 200, 3) := by decide +kernel
theorem d_M_given_19 : decode prog_14_method_49_code 19 = .ok (.if_icmp .lt 26, 3) := by decide +kernel
theorem d_M_given_22 : decode prog_14_method_49_code 22 = .ok (.aload_n 0, 1) := by decide +kernel
theorem d_M_given_23 : decode prog_14_method_49_code 23 = .ok (.getfield 45, 3) := by decide +kernel
theorem d_M_given_26 : decode prog_14_method_49_code 26 = .ok (.iload_n 1, 1) := by decide +kernel
theorem d_M_given_27 : decode prog_14_method_49_code 27 = .ok (.iaload, 1) := by decide +kernel
theorem d_M_given_28 : decode prog_14_method_49_code 28 = .ok (.sipush 300, 3) := by decide +kernel
theorem d_M_given_31 : decode prog_14_method_49_code 31 = .ok (.if_icmp .ge 14, 3) := by decide +kernel
theorem d_M_given_34 : decode prog_14_method_49_code 34 = .ok (.aload_n 0, 1) := by decide +kernel
theorem d_M_given_35 : decode prog_14_method_49_code 35 = .ok (.getfield 45, 3) := by decide +kernel
theorem d_M_given_38 : decode prog_14_method_49_code 38 = .ok (.iload_n 1, 1) := by decide +kernel
theorem d_M_given_39 : decode prog_14_method_49_code 39 = .ok (.iaload, 1) := by decide +kernel
theorem d_M_given_40 : decode prog_14_method_49_code 40 = .ok (.sipush 200, 3) := by decide +kernel
theorem d_M_given_43 : decode prog_14_method_49_code 43 = .ok (.isub, 1) := by decide +kernel
theorem d_M_given_44 : decode prog_14_method_49_code 44 = .ok (.ireturn, 1) := by decide +kernel
theorem d_M_given_45 : decode prog_14_method_49_code 45 = .ok (.aload_n 0, 1) := by decide +kernel
theorem d_M_given_46 : decode prog_14_method_49_code 46 = .ok (.getfield 165, 3) := by decide +kernel
theorem d_M_given_49 : decode prog_14_method_49_code 49 = .ok (.iconst 1, 1) := by decide +kernel
theorem d_M_given_50 : decode prog_14_method_49_code 50 = .ok (.if_icmp .ne 20, 3) := by decide +kernel
theorem d_M_given_53 : decode prog_14_method_49_code 53 = .ok (.aload_n 0, 1) := by decide +kernel
theorem d_M_given_54 : decode prog_14_method_49_code 54 = .ok (.iload_n 1, 1) := by decide +kernel
theorem d_M_given_55 : decode prog_14_method_49_code 55 = .ok (.invokevirtual 219, 3) := by decide +kernel
theorem d_M_given_58 : decode prog_14_method_49_code 58 = .ok (.ifCond .eq 12, 3) := by decide +kernel
theorem d_M_given_61 : decode prog_14_method_49_code 61 = .ok (.aload_n 0, 1) := by decide +kernel
theorem d_M_given_62 : decode prog_14_method_49_code 62 = .ok (.getfield 54, 3) := by decide +kernel
theorem d_M_given_65 : decode prog_14_method_49_code 65 = .ok (.iload_n 1, 1) := by decide +kernel
theorem d_M_given_66 : decode prog_14_method_49_code 66 = .ok (.iaload, 1) := by decide +kernel
theorem d_M_given_67 : decode prog_14_method_49_code 67 = .ok (.goto 4, 3) := by decide +kernel
theorem d_M_given_70 : decode prog_14_method_49_code 70 = .ok (.iconst (-1), 1) := by decide +kernel
theorem d_M_given_71 : decode prog_14_method_49_code 71 = .ok (.ireturn, 1) := by decide +kernel
theorem d_M_begins_0 : decode prog_14_method_50_code 0 = .ok (.aload_n 0, 1) := by decide +kernel
theorem d_M_begins_1 : decode prog_14_method_50_code 1 = .ok (.iload_n 1, 1) := by decide +kernel
theorem d_M_begins_2 : decode prog_14_method_50_code 2 = .ok (.invokevirtual 204, 3) := by decide +kernel
theorem d_M_begins_5 : decode prog_14_method_50_code 5 = .ok (.ifCond .eq 29, 3) := by decide +kernel
theorem d_M_begins_8 : decode prog_14_method_50_code 8 = .ok (.aload_n 0, 1) := by decide +kernel
theorem d_M_begins_9 : decode prog_14_method_50_code 9 = .ok (.getfield 165, 3) := by decide +kernel
theorem d_M_begins_12 : decode prog_14_method_50_code 12 = .ok (.iconst 1, 1) := by decide +kernel
theorem d_M_begins_13 : decode prog_14_method_50_code 13 = .ok (.if_icmp .ne 21, 3) := by decide +kernel
theorem d_M_begins_16 : decode prog_14_method_50_code 16 = .ok (.aload_n 0, 1) := by decide +kernel
theorem d_M_begins_17 : decode prog_14_method_50_code 17 = .ok (.iload_n 1, 1) := by decide +kernel
theorem d_M_begins_18 : decode prog_14_method_50_code 18 = .ok (.invokevirtual 219, 3) := by decide +kernel
theorem d_M_begins_21 : decode prog_14_method_50_code 21 = .ok (.ifCond .eq 13, 3) := by decide +kernel
theorem d_M_begins_24 : decode prog_14_method_50_code 24 = .ok (.aload_n 0, 1) := by decide +kernel
theorem d_M_begins_25 : decode prog_14_method_50_code 25 = .ok (.getfield 54, 3) := by decide +kernel
theorem d_M_begins_28 : decode prog_14_method_50_code 28 = .ok (.iload_n 1, 1) := by decide +kernel
theorem d_M_begins_29 : decode prog_14_method_50_code 29 = .ok (.iaload, 1) := by decide +kernel
theorem d_M_begins_30 : decode prog_14_method_50_code 30 = .ok (.iconst (-1), 1) := by decide +kernel
theorem d_M_begins_31 : decode prog_14_method_50_code 31 = .ok (.if_icmp .ne 5, 3) := by decide +kernel
theorem d_M_begins_34 : decode prog_14_method_50_code 34 = .ok (.iconst (-1), 1) := by decide +kernel
theorem d_M_begins_35 : decode prog_14_method_50_code 35 = .ok (.ireturn, 1) := by decide +kernel
theorem d_M_begins_36 : decode prog_14_method_50_code 36 = .ok (.aload_n 0, 1) := by decide +kernel
theorem d_M_begins_37 : decode prog_14_method_50_code 37 = .ok (.aload_n 0, 1) := by decide +kernel
theorem d_M_begins_38 : decode prog_14_method_50_code 38 = .ok (.getfield 54, 3) := by decide +kernel
theorem d_M_begins_41 : decode prog_14_method_50_code 41 = .ok (.iload_n 1, 1) := by decide +kernel
theorem d_M_begins_42 : decode prog_14_method_50_code 42 = .ok (.iaload, 1) := by decide +kernel
theorem d_M_begins_43 : decode prog_14_method_50_code 43 = .ok (.aload_n 0, 1) := by decide +kernel
theorem d_M_begins_44 : decode prog_14_method_50_code 44 = .ok (.getfield 54, 3) := by decide +kernel
theorem d_M_begins_47 : decode prog_14_method_50_code 47 = .ok (.invokevirtual 229, 3) := by decide +kernel
theorem d_M_begins_50 : decode prog_14_method_50_code 50 = .ok (.istore_n 2, 1) := by decide +kernel
theorem d_M_begins_51 : decode prog_14_method_50_code 51 = .ok (.aload_n 0, 1) := by decide +kernel
theorem d_M_begins_52 : decode prog_14_method_50_code 52 = .ok (.aload_n 0, 1) := by decide +kernel
theorem d_M_begins_53 : decode prog_14_method_50_code 53 = .ok (.getfield 54, 3) := by decide +kernel
theorem d_M_begins_56 : decode prog_14_method_50_code 56 = .ok (.iload_n 1, 1) := by decide +kernel
theorem d_M_begins_57 : decode prog_14_method_50_code 57 = .ok (.iaload, 1) := by decide +kernel
theorem d_M_begins_58 : decode prog_14_method_50_code 58 = .ok (.invokevirtual 233, 3) := by decide +kernel
theorem d_M_begins_61 : decode prog_14_method_50_code 61 = .ok (.istore_n 3, 1) := by decide +kernel
theorem d_M_begins_62 : decode prog_14_method_50_code 62 = .ok (.iconst 0, 1) := by decide +kernel
theorem d_M_begins_63 : decode prog_14_method_50_code 63 = .ok (.istore 4, 2) := by decide +kernel
theorem d_M_begins_65 : decode prog_14_method_50_code 65 = .ok (.iload 4, 2) := by decide +kernel
theorem d_M_begins_67 : decode prog_14_method_50_code 67 = .ok (.iload_n 2, 1) := by decide +kernel
theorem d_M_begins_68 : decode prog_14_method_50_code 68 = .ok (.if_icmp .ge 36, 3) := by decide +kernel
theorem d_M_begins_71 : decode prog_14_method_50_code 71 = .ok (.aload_n 0, 1) := by decide +kernel
theorem d_M_begins_72 : decode prog_14_method_50_code 72 = .ok (.getfield 133, 3) := by decide +kernel
theorem d_M_begins_75 : decode prog_14_method_50_code 75 = .ok (.iload 4, 2) := by decide +kernel
theorem d_M_begins_77 : decode prog_14_method_50_code 77 = .ok (.iaload, 1) := by decide +kernel
theorem d_M_begins_78 : decode prog_14_method_50_code 78 = .ok (.iload_n 1, 1) := by decide +kernel
theorem d_M_begins_79 : decode prog_14_method_50_code 79 = .ok (.if_icmp .ne 5, 3) := by decide +kernel
theorem d_M_begins_82 : decode prog_14_method_50_code 82 = .ok (.iload_n 3, 1) := by decide +kernel
theorem d_M_begins_83 : decode prog_14_method_50_code 83 = .ok (.ireturn, 1) := by decide +kernel
theorem d_M_begins_84 : decode prog_14_method_50_code 84 = .ok (.iload_n 3, 1) := by decide +kernel
theorem d_M_begins_85 : decode prog_14_method_50_code 85 = .ok (.aload_n 0, 1) := by decide +kernel
theorem d_M_begins_86 : decode prog_14_method_50_code 86 = .ok (.aload_n 0, 1) := by decide +kernel
theorem d_M_begins_87 : decode prog_14_method_50_code 87 = .ok (.getfield 133, 3) := by decide +kernel
theorem d_M_begins_90 : decode prog_14_method_50_code 90 = .ok (.iload 4, 2) := by decide +kernel
theorem d_M_begins_92 : decode prog_14_method_50_code 92 = .ok (.iaload, 1) := by decide +kernel
theorem d_M_begins_93 : decode prog_14_method_50_code 93 = .ok (.invokevirtual 213, 3) := by decide +kernel
theorem d_M_begins_96 : decode prog_14_method_50_code 96 = .ok (.iadd, 1) := by decide +kernel
theorem d_M_begins_97 : decode prog_14_method_50_code 97 = .ok (.istore_n 3, 1) := by decide +kernel
theorem d_M_begins_98 : decode prog_14_method_50_code 98 = .ok (.iinc 4 1, 3) := by decide +kernel
theorem d_M_begins_101 : decode prog_14_method_50_code 101 = .ok (.goto (-36), 3) := by decide +kernel
theorem d_M_begins_104 : decode prog_14_method_50_code 104 = .ok (.iconst (-1), 1) := by decide +kernel
theorem d_M_begins_105 : decode prog_14_method_50_code 105 = .ok (.ireturn, 1) := by decide +kernel
theorem d_M_place_0 : decode prog_14_method_51_code 0 = .ok (.iload_n 2, 1) := by decide +kernel
theorem d_M_place_1 : decode prog_14_method_51_code 1 = .ok (.ifCond .lt 8, 3) := by decide +kernel
theorem d_M_place_4 : decode prog_14_method_51_code 4 = .ok (.iload_n 2, 1) := by decide +kernel
theorem d_M_place_5 : decode prog_14_method_51_code 5 = .ok (.iconst 3, 1) := by decide +kernel
theorem d_M_place_6 : decode prog_14_method_51_code 6 = .ok (.if_icmp .le 9, 3) := by decide +kernel
theorem d_M_place_9 : decode prog_14_method_51_code 9 = .ok (.aload_n 0, 1) := by decide +kernel
theorem d_M_place_10 : decode prog_14_method_51_code 10 = .ok (.iconst (-1), 1) := by decide +kernel
theorem d_M_place_11 : decode prog_14_method_51_code 11 = .ok (.invokevirtual 161, 3) := by decide +kernel
theorem d_M_place_14 : decode prog_14_method_51_code 14 = .ok (.ireturn, 1) := by decide +kernel
theorem d_M_place_15 : decode prog_14_method_51_code 15 = .ok (.iload_n 1, 1) := by decide +kernel
theorem d_M_place_16 : decode prog_14_method_51_code 16 = .ok (.iconst 1, 1) := by decide +kernel
theorem d_M_place_17 : decode prog_14_method_51_code 17 = .ok (.if_icmp .lt 20, 3) := by decide +kernel
theorem d_M_place_20 : decode prog_14_method_51_code 20 = .ok (.iload_n 1, 1) := by decide +kernel
theorem d_M_place_21 : decode prog_14_method_51_code 21 = .ok (.bipush 40, 2) := by decide +kernel
theorem d_M_place_23 : decode prog_14_method_51_code 23 = .ok (.if_icmp .gt 14, 3) := by decide +kernel
theorem d_M_place_26 : decode prog_14_method_51_code 26 = .ok (.iload_n 3, 1) := by decide +kernel
theorem d_M_place_27 : decode prog_14_method_51_code 27 = .ok (.iconst 1, 1) := by decide +kernel
theorem d_M_place_28 : decode prog_14_method_51_code 28 = .ok (.if_icmp .lt 9, 3) := by decide +kernel
theorem d_M_place_31 : decode prog_14_method_51_code 31 = .ok (.iload_n 3, 1) := by decide +kernel
theorem d_M_place_32 : decode prog_14_method_51_code 32 = .ok (.bipush 9, 2) := by decide +kernel
theorem d_M_place_34 : decode prog_14_method_51_code 34 = .ok (.if_icmp .le 10, 3) := by decide +kernel
theorem d_M_place_37 : decode prog_14_method_51_code 37 = .ok (.aload_n 0, 1) := by decide +kernel
theorem d_M_place_38 : decode prog_14_method_51_code 38 = .ok (.bipush (-6), 2) := by decide +kernel
theorem d_M_place_40 : decode prog_14_method_51_code 40 = .ok (.invokevirtual 161, 3) := by decide +kernel
theorem d_M_place_43 : decode prog_14_method_51_code 43 = .ok (.ireturn, 1) := by decide +kernel
theorem d_M_place_44 : decode prog_14_method_51_code 44 = .ok (.aload_n 0, 1) := by decide +kernel
theorem d_M_place_45 : decode prog_14_method_51_code 45 = .ok (.getfield 154, 3) := by decide +kernel
theorem d_M_place_48 : decode prog_14_method_51_code 48 = .ok (.iconst 5, 1) := by decide +kernel
theorem d_M_place_49 : decode prog_14_method_51_code 49 = .ok (.if_icmp .ne 10, 3) := by decide +kernel
theorem d_M_place_52 : decode prog_14_method_51_code 52 = .ok (.aload_n 0, 1) := by decide +kernel
theorem d_M_place_53 : decode prog_14_method_51_code 53 = .ok (.bipush (-7), 2) := by decide +kernel
theorem d_M_place_55 : decode prog_14_method_51_code 55 = .ok (.invokevirtual 161, 3) := by decide +kernel
theorem d_M_place_58 : decode prog_14_method_51_code 58 = .ok (.ireturn, 1) := by decide +kernel
theorem d_M_place_59 : decode prog_14_method_51_code 59 = .ok (.aload_n 0, 1) := by decide +kernel
theorem d_M_place_60 : decode prog_14_method_51_code 60 = .ok (.getfield 82, 3) := by decide +kernel
theorem d_M_place_63 : decode prog_14_method_51_code 63 = .ok (.aload_n 0, 1) := by decide +kernel
theorem d_M_place_64 : decode prog_14_method_51_code 64 = .ok (.getfield 154, 3) := by decide +kernel
theorem d_M_place_67 : decode prog_14_method_51_code 67 = .ok (.iload_n 1, 1) := by decide +kernel
theorem d_M_place_68 : decode prog_14_method_51_code 68 = .ok (.iastore, 1) := by decide +kernel
theorem d_M_place_69 : decode prog_14_method_51_code 69 = .ok (.aload_n 0, 1) := by decide +kernel
theorem d_M_place_70 : decode prog_14_method_51_code 70 = .ok (.getfield 85, 3) := by decide +kernel
theorem d_M_place_73 : decode prog_14_method_51_code 73 = .ok (.aload_n 0, 1) := by decide +kernel
theorem d_M_place_74 : decode prog_14_method_51_code 74 = .ok (.getfield 154, 3) := by decide +kernel
theorem d_M_place_77 : decode prog_14_method_51_code 77 = .ok (.iload_n 2, 1) := by decide +kernel
theorem d_M_place_78 : decode prog_14_method_51_code 78 = .ok (.iastore, 1) := by decide +kernel
theorem d_M_place_79 : decode prog_14_method_51_code 79 = .ok (.aload_n 0, 1) := by decide +kernel
theorem d_M_place_80 : decode prog_14_method_51_code 80 = .ok (.getfield 88, 3) := by decide +kernel
theorem d_M_place_83 : decode prog_14_method_51_code 83 = .ok (.aload_n 0, 1) := by decide +kernel
theorem d_M_place_84 : decode prog_14_method_51_code 84 = .ok (.getfield 154, 3) := by decide +kernel
theorem d_M_place_87 : decode prog_14_method_51_code 87 = .ok (.iload_n 3, 1) := by decide +kernel
theorem d_M_place_88 : decode prog_14_method_51_code 88 = .ok (.iastore, 1) := by decide +kernel
theorem d_M_place_89 : decode prog_14_method_51_code 89 = .ok (.aload_n 0, 1) := by decide +kernel
theorem d_M_place_90 : decode prog_14_method_51_code 90 = .ok (.dup, 1) := by decide +kernel
theorem d_M_place_91 : decode prog_14_method_51_code 91 = .ok (.getfield 154, 3) := by decide +kernel
theorem d_M_place_94 : decode prog_14_method_51_code 94 = .ok (.dup_x1, 1) := by decide +kernel
theorem d_M_place_95 : decode prog_14_method_51_code 95 = .ok (.iconst 1, 1) := by decide +kernel
theorem d_M_place_96 : decode prog_14_method_51_code 96 = .ok (.iadd, 1) := by decide +kernel
theorem d_M_place_97 : decode prog_14_method_51_code 97 = .ok (.putfield 154, 3) := by decide +kernel
theorem d_M_place_100 : decode prog_14_method_51_code 100 = .ok (.ireturn, 1) := by decide +kernel
theorem d_M_air_0 : decode prog_14_method_52_code 0 = .ok (.aload_n 0, 1) := by decide +kernel
theorem d_M_air_1 : decode prog_14_method_52_code 1 = .ok (.iload_n 1, 1) := by decide +kernel
theorem d_M_air_2 : decode prog_14_method_52_code 2 = .ok (.invokevirtual 272, 3) := by decide +kernel
theorem d_M_air_5 : decode prog_14_method_52_code 5 = .ok (.ifCond .eq 10, 3) := by decide +kernel
theorem d_M_air_8 : decode prog_14_method_52_code 8 = .ok (.iload_n 2, 1) := by decide +kernel
theorem d_M_air_9 : decode prog_14_method_52_code 9 = .ok (.invokestatic 190, 3) := by decide +kernel
theorem d_M_air_12 : decode prog_14_method_52_code 12 = .ok (.ifCond .ne 9, 3) := by decide +kernel
theorem d_M_air_15 : decode prog_14_method_52_code 15 = .ok (.aload_n 0, 1) := by decide +kernel
theorem d_M_air_16 : decode prog_14_method_52_code 16 = .ok (.iconst (-1), 1) := by decide +kernel
theorem d_M_air_17 : decode prog_14_method_52_code 17 = .ok (.invokevirtual 161, 3) := by decide +kernel
theorem d_M_air_20 : decode prog_14_method_52_code 20 = .ok (.ireturn, 1) := by decide +kernel
theorem d_M_air_21 : decode prog_14_method_52_code 21 = .ok (.aload_n 0, 1) := by decide +kernel
theorem d_M_air_22 : decode prog_14_method_52_code 22 = .ok (.getfield 66, 3) := by decide +kernel
theorem d_M_air_25 : decode prog_14_method_52_code 25 = .ok (.iload_n 2, 1) := by decide +kernel
theorem d_M_air_26 : decode prog_14_method_52_code 26 = .ok (.iaload, 1) := by decide +kernel
theorem d_M_air_27 : decode prog_14_method_52_code 27 = .ok (.iconst 2, 1) := by decide +kernel
theorem d_M_air_28 : decode prog_14_method_52_code 28 = .ok (.if_icmp .ne 10, 3) := by decide +kernel
theorem d_M_air_31 : decode prog_14_method_52_code 31 = .ok (.aload_n 0, 1) := by decide +kernel
theorem d_M_air_32 : decode prog_14_method_52_code 32 = .ok (.bipush (-2), 2) := by decide +kernel
theorem d_M_air_34 : decode prog_14_method_52_code 34 = .ok (.invokevirtual 161, 3) := by decide +kernel
theorem d_M_air_37 : decode prog_14_method_52_code 37 = .ok (.ireturn, 1) := by decide +kernel
theorem d_M_air_38 : decode prog_14_method_52_code 38 = .ok (.aload_n 0, 1) := by decide +kernel
theorem d_M_air_39 : decode prog_14_method_52_code 39 = .ok (.getfield 66, 3) := by decide +kernel
theorem d_M_air_42 : decode prog_14_method_52_code 42 = .ok (.iload_n 2, 1) := by decide +kernel
theorem d_M_air_43 : decode prog_14_method_52_code 43 = .ok (.iaload, 1) := by decide +kernel
theorem d_M_air_44 : decode prog_14_method_52_code 44 = .ok (.ifCond .ne 10, 3) := by decide +kernel
theorem d_M_air_47 : decode prog_14_method_52_code 47 = .ok (.aload_n 0, 1) := by decide +kernel
theorem d_M_air_48 : decode prog_14_method_52_code 48 = .ok (.bipush (-3), 2) := by decide +kernel
theorem d_M_air_50 : decode prog_14_method_52_code 50 = .ok (.invokevirtual 161, 3) := by decide +kernel
theorem d_M_air_53 : decode prog_14_method_52_code 53 = .ok (.ireturn, 1) := by decide +kernel
theorem d_M_air_54 : decode prog_14_method_52_code 54 = .ok (.aload_n 0, 1) := by decide +kernel
theorem d_M_air_55 : decode prog_14_method_52_code 55 = .ok (.getfield 91, 3) := by decide +kernel
theorem d_M_air_58 : decode prog_14_method_52_code 58 = .ok (.iload_n 1, 1) := by decide +kernel
theorem d_M_air_59 : decode prog_14_method_52_code 59 = .ok (.aload_n 0, 1) := by decide +kernel
theorem d_M_air_60 : decode prog_14_method_52_code 60 = .ok (.getfield 72, 3) := by decide +kernel
theorem d_M_air_63 : decode prog_14_method_52_code 63 = .ok (.iload_n 2, 1) := by decide +kernel
theorem d_M_air_64 : decode prog_14_method_52_code 64 = .ok (.iaload, 1) := by decide +kernel
theorem d_M_air_65 : decode prog_14_method_52_code 65 = .ok (.iastore, 1) := by decide +kernel
theorem d_M_air_66 : decode prog_14_method_52_code 66 = .ok (.aload_n 0, 1) := by decide +kernel
theorem d_M_air_67 : decode prog_14_method_52_code 67 = .ok (.getfield 94, 3) := by decide +kernel
theorem d_M_air_70 : decode prog_14_method_52_code 70 = .ok (.iload_n 1, 1) := by decide +kernel
theorem d_M_air_71 : decode prog_14_method_52_code 71 = .ok (.aload_n 0, 1) := by decide +kernel
theorem d_M_air_72 : decode prog_14_method_52_code 72 = .ok (.getfield 69, 3) := by decide +kernel
theorem d_M_air_75 : decode prog_14_method_52_code 75 = .ok (.iload_n 2, 1) := by decide +kernel
theorem d_M_air_76 : decode prog_14_method_52_code 76 = .ok (.iaload, 1) := by decide +kernel
theorem d_M_air_77 : decode prog_14_method_52_code 77 = .ok (.iastore, 1) := by decide +kernel
theorem d_M_air_78 : decode prog_14_method_52_code 78 = .ok (.iconst 0, 1) := by decide +kernel
theorem d_M_air_79 : decode prog_14_method_52_code 79 = .ok (.istore_n 3, 1) := by decide +kernel
theorem d_M_air_80 : decode prog_14_method_52_code 80 = .ok (.iload_n 3, 1) := by decide +kernel
theorem d_M_air_81 : decode prog_14_method_52_code 81 = .ok (.aload_n 0, 1) := by decide +kernel
theorem d_M_air_82 : decode prog_14_method_52_code 82 = .ok (.getfield 72, 3) := by decide +kernel
theorem d_M_air_85 : decode prog_14_method_52_code 85 = .ok (.iload_n 2, 1) := by decide +kernel
theorem d_M_air_86 : decode prog_14_method_52_code 86 = .ok (.iaload, 1) := by decide +kernel
theorem d_M_air_87 : decode prog_14_method_52_code 87 = .ok (.if_icmp .ge 31, 3) := by decide +kernel
theorem d_M_air_90 : decode prog_14_method_52_code 90 = .ok (.aload_n 0, 1) := by decide +kernel
theorem d_M_air_91 : decode prog_14_method_52_code 91 = .ok (.getfield 97, 3) := by decide +kernel
theorem d_M_air_94 : decode prog_14_method_52_code 94 = .ok (.bipush 60, 2) := by decide +kernel
theorem d_M_air_96 : decode prog_14_method_52_code 96 = .ok (.iload_n 1, 1) := by decide +kernel
theorem d_M_air_97 : decode prog_14_method_52_code 97 = .ok (.imul, 1) := by decide +kernel
theorem d_M_air_98 : decode prog_14_method_52_code 98 = .ok (.iload_n 3, 1) := by decide +kernel
theorem d_M_air_99 : decode prog_14_method_52_code 99 = .ok (.iadd, 1) := by decide +kernel
theorem d_M_air_100 : decode prog_14_method_52_code 100 = .ok (.aload_n 0, 1) := by decide +kernel
theorem d_M_air_101 : decode prog_14_method_52_code 101 = .ok (.getfield 78, 3) := by decide +kernel
theorem d_M_air_104 : decode prog_14_method_52_code 104 = .ok (.bipush 60, 2) := by decide +kernel
theorem d_M_air_106 : decode prog_14_method_52_code 106 = .ok (.iload_n 2, 1) := by decide +kernel
theorem d_M_air_107 : decode prog_14_method_52_code 107 = .ok (.imul, 1) := by decide +kernel
theorem d_M_air_108 : decode prog_14_method_52_code 108 = .ok (.iload_n 3, 1) := by decide +kernel
theorem d_M_air_109 : decode prog_14_method_52_code 109 = .ok (.iadd, 1) := by decide +kernel
theorem d_M_air_110 : decode prog_14_method_52_code 110 = .ok (.laload, 1) := by decide +kernel
theorem d_M_air_111 : decode prog_14_method_52_code 111 = .ok (.lastore, 1) := by decide +kernel
theorem d_M_air_112 : decode prog_14_method_52_code 112 = .ok (.iinc 3 1, 3) := by decide +kernel
theorem d_M_air_115 : decode prog_14_method_52_code 115 = .ok (.goto (-35), 3) := by decide +kernel
theorem d_M_air_118 : decode prog_14_method_52_code 118 = .ok (.aload_n 0, 1) := by decide +kernel
theorem d_M_air_119 : decode prog_14_method_52_code 119 = .ok (.getfield 72, 3) := by decide +kernel
theorem d_M_air_122 : decode prog_14_method_52_code 122 = .ok (.iload_n 2, 1) := by decide +kernel
theorem d_M_air_123 : decode prog_14_method_52_code 123 = .ok (.iaload, 1) := by decide +kernel
theorem d_M_air_124 : decode prog_14_method_52_code 124 = .ok (.ireturn, 1) := by decide +kernel
theorem d_M_isMissing_0 : decode prog_14_method_53_code 0 = .ok (.aload_n 0, 1) := by decide +kernel
theorem d_M_isMissing_1 : decode prog_14_method_53_code 1 = .ok (.getfield 91, 3) := by decide +kernel
theorem d_M_isMissing_4 : decode prog_14_method_53_code 4 = .ok (.iload_n 1, 1) := by decide +kernel
theorem d_M_isMissing_5 : decode prog_14_method_53_code 5 = .ok (.iaload, 1) := by decide +kernel
theorem d_M_isMissing_6 : decode prog_14_method_53_code 6 = .ok (.ifCond .ne 5, 3) := by decide +kernel
theorem d_M_isMissing_9 : decode prog_14_method_53_code 9 = .ok (.iconst 1, 1) := by decide +kernel
theorem d_M_isMissing_10 : decode prog_14_method_53_code 10 = .ok (.ireturn, 1) := by decide +kernel
theorem d_M_isMissing_11 : decode prog_14_method_53_code 11 = .ok (.aload_n 0, 1) := by decide +kernel
theorem d_M_isMissing_12 : decode prog_14_method_53_code 12 = .ok (.getfield 97, 3) := by decide +kernel
theorem d_M_isMissing_15 : decode prog_14_method_53_code 15 = .ok (.bipush 60, 2) := by decide +kernel
theorem d_M_isMissing_17 : decode prog_14_method_53_code 17 = .ok (.iload_n 1, 1) := by decide +kernel
theorem d_M_isMissing_18 : decode prog_14_method_53_code 18 = .ok (.imul, 1) := by decide +kernel
theorem d_M_isMissing_19 : decode prog_14_method_53_code 19 = .ok (.iload_n 2, 1) := by decide +kernel
theorem d_M_isMissing_20 : decode prog_14_method_53_code 20 = .ok (.aload_n 0, 1) := by decide +kernel
theorem d_M_isMissing_21 : decode prog_14_method_53_code 21 = .ok (.getfield 91, 3) := by decide +kernel
theorem d_M_isMissing_24 : decode prog_14_method_53_code 24 = .ok (.iload_n 1, 1) := by decide +kernel
theorem d_M_isMissing_25 : decode prog_14_method_53_code 25 = .ok (.iaload, 1) := by decide +kernel
theorem d_M_isMissing_26 : decode prog_14_method_53_code 26 = .ok (.irem, 1) := by decide +kernel
theorem d_M_isMissing_27 : decode prog_14_method_53_code 27 = .ok (.iadd, 1) := by decide +kernel
theorem d_M_isMissing_28 : decode prog_14_method_53_code 28 = .ok (.laload, 1) := by decide +kernel
theorem d_M_isMissing_29 : decode prog_14_method_53_code 29 = .ok (.lstore_n 3, 1) := by decide +kernel
theorem d_M_isMissing_30 : decode prog_14_method_53_code 30 = .ok (.lload_n 3, 1) := by decide +kernel
theorem d_M_isMissing_31 : decode prog_14_method_53_code 31 = .ok (.aload_n 0, 1) := by decide +kernel
theorem d_M_isMissing_32 : decode prog_14_method_53_code 32 = .ok (.getfield 94, 3) := by decide +kernel
theorem d_M_isMissing_35 : decode prog_14_method_53_code 35 = .ok (.iload_n 1, 1) := by decide +kernel
theorem d_M_isMissing_36 : decode prog_14_method_53_code 36 = .ok (.iaload, 1) := by decide +kernel
theorem d_M_isMissing_37 : decode prog_14_method_53_code 37 = .ok (.ifCond .ne 9, 3) := by decide +kernel
theorem d_M_isMissing_40 : decode prog_14_method_53_code 40 = .ok (.ldc2_w 275, 3) := by decide +kernel
theorem d_M_isMissing_43 : decode prog_14_method_53_code 43 = .ok (.goto 38, 3) := by decide +kernel
theorem d_M_isMissing_46 : decode prog_14_method_53_code 46 = .ok (.aload_n 0, 1) := by decide +kernel
theorem d_M_isMissing_47 : decode prog_14_method_53_code 47 = .ok (.getfield 94, 3) := by decide +kernel
theorem d_M_isMissing_50 : decode prog_14_method_53_code 50 = .ok (.iload_n 1, 1) := by decide +kernel
theorem d_M_isMissing_51 : decode prog_14_method_53_code 51 = .ok (.iaload, 1) := by decide +kernel
theorem d_M_isMissing_52 : decode prog_14_method_53_code 52 = .ok (.iconst 1, 1) := by decide +kernel
theorem d_M_isMissing_53 : decode prog_14_method_53_code 53 = .ok (.if_icmp .ne 9, 3) := by decide +kernel
theorem d_M_isMissing_56 : decode prog_14_method_53_code 56 = .ok (.ldc2_w 277, 3) := by decide +kernel
theorem d_M_isMissing_59 : decode prog_14_method_53_code 59 = .ok (.goto 22, 3) := by decide +kernel
theorem d_M_isMissing_62 : decode prog_14_method_53_code 62 = .ok (.aload_n 0, 1) := by decide +kernel
theorem d_M_isMissing_63 : decode prog_14_method_53_code 63 = .ok (.getfield 94, 3) := by decide +kernel
theorem d_M_isMissing_66 : decode prog_14_method_53_code 66 = .ok (.iload_n 1, 1) := by decide +kernel
theorem d_M_isMissing_67 : decode prog_14_method_53_code 67 = .ok (.iaload, 1) := by decide +kernel
theorem d_M_isMissing_68 : decode prog_14_method_53_code 68 = .ok (.iconst 2, 1) := by decide +kernel
theorem d_M_isMissing_69 : decode prog_14_method_53_code 69 = .ok (.if_icmp .ne 9, 3) := by decide +kernel
theorem d_M_isMissing_72 : decode prog_14_method_53_code 72 = .ok (.ldc2_w 279, 3) := by decide +kernel
theorem d_M_isMissing_75 : decode prog_14_method_53_code 75 = .ok (.goto 6, 3) := by decide +kernel
theorem d_M_isMissing_78 : decode prog_14_method_53_code 78 = .ok (.ldc2_w 283, 3) := by decide +kernel
theorem d_M_isMissing_81 : decode prog_14_method_53_code 81 = .ok (.lcmp, 1) := by decide +kernel
theorem d_M_isMissing_82 : decode prog_14_method_53_code 82 = .ok (.ifCond .ne 7, 3) := by decide +kernel
theorem d_M_isMissing_85 : decode prog_14_method_53_code 85 = .ok (.iconst 1, 1) := by decide +kernel
theorem d_M_isMissing_86 : decode prog_14_method_53_code 86 = .ok (.goto 4, 3) := by decide +kernel
theorem d_M_isMissing_89 : decode prog_14_method_53_code 89 = .ok (.iconst 0, 1) := by decide +kernel
theorem d_M_isMissing_90 : decode prog_14_method_53_code 90 = .ok (.ireturn, 1) := by decide +kernel
theorem d_M_airAt_0 : decode prog_14_method_54_code 0 = .ok (.aload_n 0, 1) := by decide +kernel
theorem d_M_airAt_1 : decode prog_14_method_54_code 1 = .ok (.getfield 97, 3) := by decide +kernel
theorem d_M_airAt_4 : decode prog_14_method_54_code 4 = .ok (.bipush 60, 2) := by decide +kernel
theorem d_M_airAt_6 : decode prog_14_method_54_code 6 = .ok (.iload_n 1, 1) := by decide +kernel
theorem d_M_airAt_7 : decode prog_14_method_54_code 7 = .ok (.imul, 1) := by decide +kernel
theorem d_M_airAt_8 : decode prog_14_method_54_code 8 = .ok (.iload_n 2, 1) := by decide +kernel
theorem d_M_airAt_9 : decode prog_14_method_54_code 9 = .ok (.aload_n 0, 1) := by decide +kernel
theorem d_M_airAt_10 : decode prog_14_method_54_code 10 = .ok (.getfield 91, 3) := by decide +kernel
theorem d_M_airAt_13 : decode prog_14_method_54_code 13 = .ok (.iload_n 1, 1) := by decide +kernel
theorem d_M_airAt_14 : decode prog_14_method_54_code 14 = .ok (.iaload, 1) := by decide +kernel
theorem d_M_airAt_15 : decode prog_14_method_54_code 15 = .ok (.irem, 1) := by decide +kernel
theorem d_M_airAt_16 : decode prog_14_method_54_code 16 = .ok (.iadd, 1) := by decide +kernel
theorem d_M_airAt_17 : decode prog_14_method_54_code 17 = .ok (.laload, 1) := by decide +kernel
theorem d_M_airAt_18 : decode prog_14_method_54_code 18 = .ok (.l2i, 1) := by decide +kernel
theorem d_M_airAt_19 : decode prog_14_method_54_code 19 = .ok (.ireturn, 1) := by decide +kernel
theorem d_M_airIn_0 : decode prog_14_method_55_code 0 = .ok (.aload_n 0, 1) := by decide +kernel
theorem d_M_airIn_1 : decode prog_14_method_55_code 1 = .ok (.iload_n 1, 1) := by decide +kernel
theorem d_M_airIn_2 : decode prog_14_method_55_code 2 = .ok (.invokevirtual 272, 3) := by decide +kernel
theorem d_M_airIn_5 : decode prog_14_method_55_code 5 = .ok (.ifCond .eq 7, 3) := by decide +kernel
theorem d_M_airIn_8 : decode prog_14_method_55_code 8 = .ok (.iload_n 2, 1) := by decide +kernel
theorem d_M_airIn_9 : decode prog_14_method_55_code 9 = .ok (.ifCond .ge 5, 3) := by decide +kernel
theorem d_M_airIn_12 : decode prog_14_method_55_code 12 = .ok (.iconst (-1), 1) := by decide +kernel
theorem d_M_airIn_13 : decode prog_14_method_55_code 13 = .ok (.ireturn, 1) := by decide +kernel
theorem d_M_airIn_14 : decode prog_14_method_55_code 14 = .ok (.aload_n 0, 1) := by decide +kernel
theorem d_M_airIn_15 : decode prog_14_method_55_code 15 = .ok (.iload_n 1, 1) := by decide +kernel
theorem d_M_airIn_16 : decode prog_14_method_55_code 16 = .ok (.iload_n 2, 1) := by decide +kernel
theorem d_M_airIn_17 : decode prog_14_method_55_code 17 = .ok (.invokevirtual 285, 3) := by decide +kernel
theorem d_M_airIn_20 : decode prog_14_method_55_code 20 = .ok (.ifCond .eq 8, 3) := by decide +kernel
theorem d_M_airIn_23 : decode prog_14_method_55_code 23 = .ok (.bipush (-2), 2) := by decide +kernel
theorem d_M_airIn_25 : decode prog_14_method_55_code 25 = .ok (.goto 9, 3) := by decide +kernel
theorem d_M_airIn_28 : decode prog_14_method_55_code 28 = .ok (.aload_n 0, 1) := by decide +kernel
theorem d_M_airIn_29 : decode prog_14_method_55_code 29 = .ok (.iload_n 1, 1) := by decide +kernel
theorem d_M_airIn_30 : decode prog_14_method_55_code 30 = .ok (.iload_n 2, 1) := by decide +kernel
theorem d_M_airIn_31 : decode prog_14_method_55_code 31 = .ok (.invokevirtual 288, 3) := by decide +kernel
theorem d_M_airIn_34 : decode prog_14_method_55_code 34 = .ok (.ireturn, 1) := by decide +kernel
theorem d_M_band_0 : decode prog_14_method_56_code 0 = .ok (.iload_n 1, 1) := by decide +kernel
theorem d_M_band_1 : decode prog_14_method_56_code 1 = .ok (.ifCond .lt 8, 3) := by decide +kernel
theorem d_M_band_4 : decode prog_14_method_56_code 4 = .ok (.iload_n 1, 1) := by decide +kernel
theorem d_M_band_5 : decode prog_14_method_56_code 5 = .ok (.iconst 3, 1) := by decide +kernel
theorem d_M_band_6 : decode prog_14_method_56_code 6 = .ok (.if_icmp .le 9, 3) := by decide +kernel
theorem d_M_band_9 : decode prog_14_method_56_code 9 = .ok (.aload_n 0, 1) := by decide +kernel
theorem d_M_band_10 : decode prog_14_method_56_code 10 = .ok (.iconst (-1), 1) := by decide +kernel
theorem d_M_band_11 : decode prog_14_method_56_code 11 = .ok (.invokevirtual 161, 3) := by decide +kernel
theorem d_M_band_14 : decode prog_14_method_56_code 14 = .ok (.ireturn, 1) := by decide +kernel
theorem d_M_band_15 : decode prog_14_method_56_code 15 = .ok (.iload_n 2, 1) := by decide +kernel
theorem d_M_band_16 : decode prog_14_method_56_code 16 = .ok (.ifCond .lt 14, 3) := by decide +kernel
theorem d_M_band_19 : decode prog_14_method_56_code 19 = .ok (.iload_n 2, 1) := by decide +kernel
theorem d_M_band_20 : decode prog_14_method_56_code 20 = .ok (.iload_n 3, 1) := by decide +kernel
theorem d_M_band_21 : decode prog_14_method_56_code 21 = .ok (.if_icmp .gt 9, 3) := by decide +kernel
theorem d_M_band_24 : decode prog_14_method_56_code 24 = .ok (.iload_n 3, 1) := by decide +kernel
theorem d_M_band_25 : decode prog_14_method_56_code 25 = .ok (.bipush 100, 2) := by decide +kernel
theorem d_M_band_27 : decode prog_14_method_56_code 27 = .ok (.if_icmp .le 10, 3) := by decide +kernel
theorem d_M_band_30 : decode prog_14_method_56_code 30 = .ok (.aload_n 0, 1) := by decide +kernel
theorem d_M_band_31 : decode prog_14_method_56_code 31 = .ok (.bipush (-6), 2) := by decide +kernel
theorem d_M_band_33 : decode prog_14_method_56_code 33 = .ok (.invokevirtual 161, 3) := by decide +kernel
theorem d_M_band_36 : decode prog_14_method_56_code 36 = .ok (.ireturn, 1) := by decide +kernel
theorem d_M_band_37 : decode prog_14_method_56_code 37 = .ok (.aload_n 0, 1) := by decide +kernel
theorem d_M_band_38 : decode prog_14_method_56_code 38 = .ok (.getfield 100, 3) := by decide +kernel
theorem d_M_band_41 : decode prog_14_method_56_code 41 = .ok (.iload_n 1, 1) := by decide +kernel
theorem d_M_band_42 : decode prog_14_method_56_code 42 = .ok (.iload_n 2, 1) := by decide +kernel
theorem d_M_band_43 : decode prog_14_method_56_code 43 = .ok (.iastore, 1) := by decide +kernel
theorem d_M_band_44 : decode prog_14_method_56_code 44 = .ok (.aload_n 0, 1) := by decide +kernel
theorem d_M_band_45 : decode prog_14_method_56_code 45 = .ok (.getfield 103, 3) := by decide +kernel
theorem d_M_band_48 : decode prog_14_method_56_code 48 = .ok (.iload_n 1, 1) := by decide +kernel
theorem d_M_band_49 : decode prog_14_method_56_code 49 = .ok (.iload_n 3, 1) := by decide +kernel
theorem d_M_band_50 : decode prog_14_method_56_code 50 = .ok (.iastore, 1) := by decide +kernel
theorem d_M_band_51 : decode prog_14_method_56_code 51 = .ok (.iconst 1, 1) := by decide +kernel
theorem d_M_band_52 : decode prog_14_method_56_code 52 = .ok (.ireturn, 1) := by decide +kernel
theorem d_M_keep_0 : decode prog_14_method_57_code 0 = .ok (.iload_n 1, 1) := by decide +kernel
theorem d_M_keep_1 : decode prog_14_method_57_code 1 = .ok (.ifCond .lt 8, 3) := by decide +kernel
theorem d_M_keep_4 : decode prog_14_method_57_code 4 = .ok (.iload_n 1, 1) := by decide +kernel
theorem d_M_keep_5 : decode prog_14_method_57_code 5 = .ok (.iconst 3, 1) := by decide +kernel
theorem d_M_keep_6 : decode prog_14_method_57_code 6 = .ok (.if_icmp .le 9, 3) := by decide +kernel
theorem d_M_keep_9 : decode prog_14_method_57_code 9 = .ok (.aload_n 0, 1) := by decide +kernel
theorem d_M_keep_10 : decode prog_14_method_57_code 10 = .ok (.iconst (-1), 1) := by decide +kernel
theorem d_M_keep_11 : decode prog_14_method_57_code 11 = .ok (.invokevirtual 161, 3) := by decide +kernel
theorem d_M_keep_14 : decode prog_14_method_57_code 14 = .ok (.ireturn, 1) := by decide +kernel
theorem d_M_keep_15 : decode prog_14_method_57_code 15 = .ok (.iload_n 2, 1) := by decide +kernel
theorem d_M_keep_16 : decode prog_14_method_57_code 16 = .ok (.ifCond .lt 9, 3) := by decide +kernel
theorem d_M_keep_19 : decode prog_14_method_57_code 19 = .ok (.iload_n 2, 1) := by decide +kernel
theorem d_M_keep_20 : decode prog_14_method_57_code 20 = .ok (.bipush 9, 2) := by decide +kernel
theorem d_M_keep_22 : decode prog_14_method_57_code 22 = .ok (.if_icmp .le 10, 3) := by decide +kernel
theorem d_M_keep_25 : decode prog_14_method_57_code 25 = .ok (.aload_n 0, 1) := by decide +kernel
theorem d_M_keep_26 : decode prog_14_method_57_code 26 = .ok (.bipush (-6), 2) := by decide +kernel
theorem d_M_keep_28 : decode prog_14_method_57_code 28 = .ok (.invokevirtual 161, 3) := by decide +kernel
theorem d_M_keep_31 : decode prog_14_method_57_code 31 = .ok (.ireturn, 1) := by decide +kernel
theorem d_M_keep_32 : decode prog_14_method_57_code 32 = .ok (.aload_n 0, 1) := by decide +kernel
theorem d_M_keep_33 : decode prog_14_method_57_code 33 = .ok (.getfield 106, 3) := by decide +kernel
theorem d_M_keep_36 : decode prog_14_method_57_code 36 = .ok (.iload_n 1, 1) := by decide +kernel
theorem d_M_keep_37 : decode prog_14_method_57_code 37 = .ok (.iaload, 1) := by decide +kernel
theorem d_M_keep_38 : decode prog_14_method_57_code 38 = .ok (.istore_n 3, 1) := by decide +kernel
theorem d_M_keep_39 : decode prog_14_method_57_code 39 = .ok (.aload_n 0, 1) := by decide +kernel
theorem d_M_keep_40 : decode prog_14_method_57_code 40 = .ok (.getfield 106, 3) := by decide +kernel
theorem d_M_keep_43 : decode prog_14_method_57_code 43 = .ok (.iload_n 1, 1) := by decide +kernel
theorem d_M_keep_44 : decode prog_14_method_57_code 44 = .ok (.iload_n 2, 1) := by decide +kernel
theorem d_M_keep_45 : decode prog_14_method_57_code 45 = .ok (.iastore, 1) := by decide +kernel
theorem d_M_keep_46 : decode prog_14_method_57_code 46 = .ok (.iload_n 3, 1) := by decide +kernel
theorem d_M_keep_47 : decode prog_14_method_57_code 47 = .ok (.ireturn, 1) := by decide +kernel
theorem d_M_fuel_0 : decode prog_14_method_58_code 0 = .ok (.iload_n 1, 1) := by decide +kernel
theorem d_M_fuel_1 : decode prog_14_method_58_code 1 = .ok (.ifCond .lt 10, 3) := by decide +kernel
theorem d_M_fuel_4 : decode prog_14_method_58_code 4 = .ok (.iload_n 1, 1) := by decide +kernel
theorem d_M_fuel_5 : decode prog_14_method_58_code 5 = .ok (.sipush 10000, 3) := by decide +kernel
theorem d_M_fuel_8 : decode prog_14_method_58_code 8 = .ok (.if_icmp .le 10, 3) := by decide +kernel
theorem d_M_fuel_11 : decode prog_14_method_58_code 11 = .ok (.aload_n 0, 1) := by decide +kernel
theorem d_M_fuel_12 : decode prog_14_method_58_code 12 = .ok (.bipush (-6), 2) := by decide +kernel
theorem d_M_fuel_14 : decode prog_14_method_58_code 14 = .ok (.invokevirtual 161, 3) := by decide +kernel
theorem d_M_fuel_17 : decode prog_14_method_58_code 17 = .ok (.ireturn, 1) := by decide +kernel
theorem d_M_fuel_18 : decode prog_14_method_58_code 18 = .ok (.aload_n 0, 1) := by decide +kernel
theorem d_M_fuel_19 : decode prog_14_method_58_code 19 = .ok (.aload_n 0, 1) := by decide +kernel
theorem d_M_fuel_20 : decode prog_14_method_58_code 20 = .ok (.getfield 292, 3) := by decide +kernel
theorem d_M_fuel_23 : decode prog_14_method_58_code 23 = .ok (.iload_n 1, 1) := by decide +kernel
theorem d_M_fuel_24 : decode prog_14_method_58_code 24 = .ok (.iadd, 1) := by decide +kernel
theorem d_M_fuel_25 : decode prog_14_method_58_code 25 = .ok (.ldc_w 295, 3) := by decide +kernel
theorem d_M_fuel_28 : decode prog_14_method_58_code 28 = .ok (.if_icmp .le 9, 3) := by decide +kernel
theorem d_M_fuel_31 : decode prog_14_method_58_code 31 = .ok (.ldc_w 295, 3) := by decide +kernel
theorem d_M_fuel_34 : decode prog_14_method_58_code 34 = .ok (.goto 9, 3) := by decide +kernel
theorem d_M_fuel_37 : decode prog_14_method_58_code 37 = .ok (.aload_n 0, 1) := by decide +kernel
theorem d_M_fuel_38 : decode prog_14_method_58_code 38 = .ok (.getfield 292, 3) := by decide +kernel
theorem d_M_fuel_41 : decode prog_14_method_58_code 41 = .ok (.iload_n 1, 1) := by decide +kernel
theorem d_M_fuel_42 : decode prog_14_method_58_code 42 = .ok (.iadd, 1) := by decide +kernel
theorem d_M_fuel_43 : decode prog_14_method_58_code 43 = .ok (.putfield 292, 3) := by decide +kernel
theorem d_M_fuel_46 : decode prog_14_method_58_code 46 = .ok (.aload_n 0, 1) := by decide +kernel
theorem d_M_fuel_47 : decode prog_14_method_58_code 47 = .ok (.getfield 292, 3) := by decide +kernel
theorem d_M_fuel_50 : decode prog_14_method_58_code 50 = .ok (.ireturn, 1) := by decide +kernel
theorem d_M_isInPlace_0 : decode prog_14_method_59_code 0 = .ok (.aload_n 0, 1) := by decide +kernel
theorem d_M_isInPlace_1 : decode prog_14_method_59_code 1 = .ok (.getfield 45, 3) := by decide +kernel
theorem d_M_isInPlace_4 : decode prog_14_method_59_code 4 = .ok (.iload_n 1, 1) := by decide +kernel
theorem d_M_isInPlace_5 : decode prog_14_method_59_code 5 = .ok (.iaload, 1) := by decide +kernel
theorem d_M_isInPlace_6 : decode prog_14_method_59_code 6 = .ok (.sipush 400, 3) := by decide +kernel
theorem d_M_isInPlace_9 : decode prog_14_method_59_code 9 = .ok (.if_icmp .lt 19, 3) := by decide +kernel
theorem d_M_isInPlace_12 : decode prog_14_method_59_code 12 = .ok (.aload_n 0, 1) := by decide +kernel
theorem d_M_isInPlace_13 : decode prog_14_method_59_code 13 = .ok (.getfield 45, 3) := by decide +kernel
theorem d_M_isInPlace_16 : decode prog_14_method_59_code 16 = .ok (.iload_n 1, 1) := by decide +kernel
theorem d_M_isInPlace_17 : decode prog_14_method_59_code 17 = .ok (.iaload, 1) := by decide +kernel
theorem d_M_isInPlace_18 : decode prog_14_method_59_code 18 = .ok (.sipush 500, 3) := by decide +kernel
theorem d_M_isInPlace_21 : decode prog_14_method_59_code 21 = .ok (.if_icmp .ge 7, 3) := by decide +kernel
theorem d_M_isInPlace_24 : decode prog_14_method_59_code 24 = .ok (.iconst 1, 1) := by decide +kernel
theorem d_M_isInPlace_25 : decode prog_14_method_59_code 25 = .ok (.goto 4, 3) := by decide +kernel
theorem d_M_isInPlace_28 : decode prog_14_method_59_code 28 = .ok (.iconst 0, 1) := by decide +kernel
theorem d_M_isInPlace_29 : decode prog_14_method_59_code 29 = .ok (.ireturn, 1) := by decide +kernel
theorem d_M_isGood_0 : decode prog_14_method_60_code 0 = .ok (.aload_n 0, 1) := by decide +kernel
theorem d_M_isGood_1 : decode prog_14_method_60_code 1 = .ok (.iload_n 1, 1) := by decide +kernel
theorem d_M_isGood_2 : decode prog_14_method_60_code 2 = .ok (.aload_n 0, 1) := by decide +kernel
theorem d_M_isGood_3 : decode prog_14_method_60_code 3 = .ok (.getfield 259, 3) := by decide +kernel
theorem d_M_isGood_6 : decode prog_14_method_60_code 6 = .ok (.invokevirtual 285, 3) := by decide +kernel
theorem d_M_isGood_9 : decode prog_14_method_60_code 9 = .ok (.ifCond .eq 5, 3) := by decide +kernel
theorem d_M_isGood_12 : decode prog_14_method_60_code 12 = .ok (.iconst 0, 1) := by decide +kernel
theorem d_M_isGood_13 : decode prog_14_method_60_code 13 = .ok (.ireturn, 1) := by decide +kernel
theorem d_M_isGood_14 : decode prog_14_method_60_code 14 = .ok (.aload_n 0, 1) := by decide +kernel
theorem d_M_isGood_15 : decode prog_14_method_60_code 15 = .ok (.iload_n 1, 1) := by decide +kernel
theorem d_M_isGood_16 : decode prog_14_method_60_code 16 = .ok (.aload_n 0, 1) := by decide +kernel
theorem d_M_isGood_17 : decode prog_14_method_60_code 17 = .ok (.getfield 259, 3) := by decide +kernel
theorem d_M_isGood_20 : decode prog_14_method_60_code 20 = .ok (.invokevirtual 288, 3) := by decide +kernel
theorem d_M_isGood_23 : decode prog_14_method_60_code 23 = .ok (.istore_n 3, 1) := by decide +kernel
theorem d_M_isGood_24 : decode prog_14_method_60_code 24 = .ok (.iload_n 3, 1) := by decide +kernel
theorem d_M_isGood_25 : decode prog_14_method_60_code 25 = .ok (.aload_n 0, 1) := by decide +kernel
theorem d_M_isGood_26 : decode prog_14_method_60_code 26 = .ok (.getfield 100, 3) := by decide +kernel
theorem d_M_isGood_29 : decode prog_14_method_60_code 29 = .ok (.iload_n 2, 1) := by decide +kernel
theorem d_M_isGood_30 : decode prog_14_method_60_code 30 = .ok (.iaload, 1) := by decide +kernel
theorem d_M_isGood_31 : decode prog_14_method_60_code 31 = .ok (.if_icmp .lt 17, 3) := by decide +kernel
theorem d_M_isGood_34 : decode prog_14_method_60_code 34 = .ok (.iload_n 3, 1) := by decide +kernel
theorem d_M_isGood_35 : decode prog_14_method_60_code 35 = .ok (.aload_n 0, 1) := by decide +kernel
theorem d_M_isGood_36 : decode prog_14_method_60_code 36 = .ok (.getfield 103, 3) := by decide +kernel
theorem d_M_isGood_39 : decode prog_14_method_60_code 39 = .ok (.iload_n 2, 1) := by decide +kernel
theorem d_M_isGood_40 : decode prog_14_method_60_code 40 = .ok (.iaload, 1) := by decide +kernel
theorem d_M_isGood_41 : decode prog_14_method_60_code 41 = .ok (.if_icmp .gt 7, 3) := by decide +kernel
theorem d_M_isGood_44 : decode prog_14_method_60_code 44 = .ok (.iconst 1, 1) := by decide +kernel
theorem d_M_isGood_45 : decode prog_14_method_60_code 45 = .ok (.goto 4, 3) := by decide +kernel
theorem d_M_isGood_48 : decode prog_14_method_60_code 48 = .ok (.iconst 0, 1) := by decide +kernel
theorem d_M_isGood_49 : decode prog_14_method_60_code 49 = .ok (.ireturn, 1) := by decide +kernel
theorem d_M_used_0 : decode prog_14_method_61_code 0 = .ok (.iconst 0, 1) := by decide +kernel
theorem d_M_used_1 : decode prog_14_method_61_code 1 = .ok (.istore_n 2, 1) := by decide +kernel
theorem d_M_used_2 : decode prog_14_method_61_code 2 = .ok (.iconst 0, 1) := by decide +kernel
theorem d_M_used_3 : decode prog_14_method_61_code 3 = .ok (.istore_n 3, 1) := by decide +kernel
theorem d_M_used_4 : decode prog_14_method_61_code 4 = .ok (.iload_n 3, 1) := by decide +kernel
theorem d_M_used_5 : decode prog_14_method_61_code 5 = .ok (.aload_n 0, 1) := by decide +kernel
theorem d_M_used_6 : decode prog_14_method_61_code 6 = .ok (.getfield 151, 3) := by decide +kernel
theorem d_M_used_9 : decode prog_14_method_61_code 9 = .ok (.if_icmp .ge 32, 3) := by decide +kernel
theorem d_M_used_12 : decode prog_14_method_61_code 12 = .ok (.aload_n 0, 1) := by decide +kernel
theorem d_M_used_13 : decode prog_14_method_61_code 13 = .ok (.getfield 45, 3) := by decide +kernel
theorem d_M_used_16 : decode prog_14_method_61_code 16 = .ok (.iload_n 3, 1) := by decide +kernel
theorem d_M_used_17 : decode prog_14_method_61_code 17 = .ok (.iaload, 1) := by decide +kernel
theorem d_M_used_18 : decode prog_14_method_61_code 18 = .ok (.sipush 400, 3) := by decide +kernel
theorem d_M_used_21 : decode prog_14_method_61_code 21 = .ok (.iload_n 1, 1) := by decide +kernel
theorem d_M_used_22 : decode prog_14_method_61_code 22 = .ok (.iadd, 1) := by decide +kernel
theorem d_M_used_23 : decode prog_14_method_61_code 23 = .ok (.if_icmp .ne 12, 3) := by decide +kernel
theorem d_M_used_26 : decode prog_14_method_61_code 26 = .ok (.iload_n 2, 1) := by decide +kernel
theorem d_M_used_27 : decode prog_14_method_61_code 27 = .ok (.aload_n 0, 1) := by decide +kernel
theorem d_M_used_28 : decode prog_14_method_61_code 28 = .ok (.getfield 39, 3) := by decide +kernel
theorem d_M_used_31 : decode prog_14_method_61_code 31 = .ok (.iload_n 3, 1) := by decide +kernel
theorem d_M_used_32 : decode prog_14_method_61_code 32 = .ok (.iaload, 1) := by decide +kernel
theorem d_M_used_33 : decode prog_14_method_61_code 33 = .ok (.iadd, 1) := by decide +kernel
theorem d_M_used_34 : decode prog_14_method_61_code 34 = .ok (.istore_n 2, 1) := by decide +kernel
theorem d_M_used_35 : decode prog_14_method_61_code 35 = .ok (.iinc 3 1, 3) := by decide +kernel
theorem d_M_used_38 : decode prog_14_method_61_code 38 = .ok (.goto (-34), 3) := by decide +kernel
theorem d_M_used_41 : decode prog_14_method_61_code 41 = .ok (.iload_n 2, 1) := by decide +kernel
theorem d_M_used_42 : decode prog_14_method_61_code 42 = .ok (.ireturn, 1) := by decide +kernel
theorem d_M_price_0 : decode prog_14_method_62_code 0 = .ok (.aload_n 0, 1) := by decide +kernel
theorem d_M_price_1 : decode prog_14_method_62_code 1 = .ok (.getfield 39, 3) := by decide +kernel
theorem d_M_price_4 : decode prog_14_method_62_code 4 = .ok (.iload_n 1, 1) := by decide +kernel
theorem d_M_price_5 : decode prog_14_method_62_code 5 = .ok (.iaload, 1) := by decide +kernel
theorem d_M_price_6 : decode prog_14_method_62_code 6 = .ok (.aload_n 0, 1) := by decide +kernel
theorem d_M_price_7 : decode prog_14_method_62_code 7 = .ok (.getfield 88, 3) := by decide +kernel
theorem d_M_price_10 : decode prog_14_method_62_code 10 = .ok (.iload_n 2, 1) := by decide +kernel
theorem d_M_price_11 : decode prog_14_method_62_code 11 = .ok (.iaload, 1) := by decide +kernel
theorem d_M_price_12 : decode prog_14_method_62_code 12 = .ok (.aload_n 0, 1) := by decide +kernel
theorem d_M_price_13 : decode prog_14_method_62_code 13 = .ok (.iload_n 1, 1) := by decide +kernel
theorem d_M_price_14 : decode prog_14_method_62_code 14 = .ok (.invokevirtual 296, 3) := by decide +kernel
theorem d_M_price_17 : decode prog_14_method_62_code 17 = .ok (.ifCond .eq 21, 3) := by decide +kernel
theorem d_M_price_20 : decode prog_14_method_62_code 20 = .ok (.aload_n 0, 1) := by decide +kernel
theorem d_M_price_21 : decode prog_14_method_62_code 21 = .ok (.getfield 88, 3) := by decide +kernel
theorem d_M_price_24 : decode prog_14_method_62_code 24 = .ok (.aload_n 0, 1) := by decide +kernel
theorem d_M_price_25 : decode prog_14_method_62_code 25 = .ok (.getfield 45, 3) := by decide +kernel
theorem d_M_price_28 : decode prog_14_method_62_code 28 = .ok (.iload_n 1, 1) := by decide +kernel
theorem d_M_price_29 : decode prog_14_method_62_code 29 = .ok (.iaload, 1) := by decide +kernel
theorem d_M_price_30 : decode prog_14_method_62_code 30 = .ok (.sipush 400, 3) := by decide +kernel
theorem d_M_price_33 : decode prog_14_method_62_code 33 = .ok (.isub, 1) := by decide +kernel
theorem d_M_price_34 : decode prog_14_method_62_code 34 = .ok (.iaload, 1) := by decide +kernel
theorem d_M_price_35 : decode prog_14_method_62_code 35 = .ok (.goto 4, 3) := by decide +kernel
theorem d_M_price_38 : decode prog_14_method_62_code 38 = .ok (.iconst 0, 1) := by decide +kernel
theorem d_M_price_39 : decode prog_14_method_62_code 39 = .ok (.iadd, 1) := by decide +kernel
theorem d_M_price_40 : decode prog_14_method_62_code 40 = .ok (.imul, 1) := by decide +kernel
theorem d_M_price_41 : decode prog_14_method_62_code 41 = .ok (.ireturn, 1) := by decide +kernel
theorem d_M_isKept_0 : decode prog_14_method_63_code 0 = .ok (.iconst 0, 1) := by decide +kernel
theorem d_M_isKept_1 : decode prog_14_method_63_code 1 = .ok (.istore_n 2, 1) := by decide +kernel
theorem d_M_isKept_2 : decode prog_14_method_63_code 2 = .ok (.iload_n 2, 1) := by decide +kernel
theorem d_M_isKept_3 : decode prog_14_method_63_code 3 = .ok (.iconst 4, 1) := by decide +kernel
theorem d_M_isKept_4 : decode prog_14_method_63_code 4 = .ok (.if_icmp .ge 149, 3) := by decide +kernel
theorem d_M_isKept_7 : decode prog_14_method_63_code 7 = .ok (.iconst 0, 1) := by decide +kernel
theorem d_M_isKept_8 : decode prog_14_method_63_code 8 = .ok (.istore_n 3, 1) := by decide +kernel
theorem d_M_isKept_9 : decode prog_14_method_63_code 9 = .ok (.iload_n 3, 1) := by decide +kernel
theorem d_M_isKept_10 : decode prog_14_method_63_code 10 = .ok (.iconst 4, 1) := by decide +kernel
theorem d_M_isKept_11 : decode prog_14_method_63_code 11 = .ok (.if_icmp .ge 136, 3) := by decide +kernel
theorem d_M_isKept_14 : decode prog_14_method_63_code 14 = .ok (.iconst 0, 1) := by decide +kernel
theorem d_M_isKept_15 : decode prog_14_method_63_code 15 = .ok (.istore 4, 2) := by decide +kernel
theorem d_M_isKept_17 : decode prog_14_method_63_code 17 = .ok (.iconst 0, 1) := by decide +kernel
theorem d_M_isKept_18 : decode prog_14_method_63_code 18 = .ok (.istore 5, 2) := by decide +kernel
theorem d_M_isKept_20 : decode prog_14_method_63_code 20 = .ok (.iload 5, 2) := by decide +kernel
theorem d_M_isKept_22 : decode prog_14_method_63_code 22 = .ok (.aload_n 0, 1) := by decide +kernel
theorem d_M_isKept_23 : decode prog_14_method_63_code 23 = .ok (.getfield 151, 3) := by decide +kernel
theorem d_M_isKept_26 : decode prog_14_method_63_code 26 = .ok (.if_icmp .ge 102, 3) := by decide +kernel
theorem d_M_isKept_29 : decode prog_14_method_63_code 29 = .ok (.aload_n 0, 1) := by decide +kernel
theorem d_M_isKept_30 : decode prog_14_method_63_code 30 = .ok (.iload 5, 2) := by decide +kernel
theorem d_M_isKept_32 : decode prog_14_method_63_code 32 = .ok (.invokevirtual 296, 3) := by decide +kernel
theorem d_M_isKept_35 : decode prog_14_method_63_code 35 = .ok (.ifCond .eq 17, 3) := by decide +kernel
theorem d_M_isKept_38 : decode prog_14_method_63_code 38 = .ok (.aload_n 0, 1) := by decide +kernel
theorem d_M_isKept_39 : decode prog_14_method_63_code 39 = .ok (.getfield 45, 3) := by decide +kernel
theorem d_M_isKept_42 : decode prog_14_method_63_code 42 = .ok (.iload 5, 2) := by decide +kernel
theorem d_M_isKept_44 : decode prog_14_method_63_code 44 = .ok (.iaload, 1) := by decide +kernel
theorem d_M_isKept_45 : decode prog_14_method_63_code 45 = .ok (.sipush 400, 3) := by decide +kernel
theorem d_M_isKept_48 : decode prog_14_method_63_code 48 = .ok (.isub, 1) := by decide +kernel
theorem d_M_isKept_49 : decode prog_14_method_63_code 49 = .ok (.goto 4, 3) := by decide +kernel
theorem d_M_isKept_52 : decode prog_14_method_63_code 52 = .ok (.iconst (-1), 1) := by decide +kernel
theorem d_M_isKept_53 : decode prog_14_method_63_code 53 = .ok (.istore 6, 2) := by decide +kernel
theorem d_M_isKept_55 : decode prog_14_method_63_code 55 = .ok (.iconst 0, 1) := by decide +kernel
theorem d_M_isKept_56 : decode prog_14_method_63_code 56 = .ok (.istore 7, 2) := by decide +kernel
theorem d_M_isKept_58 : decode prog_14_method_63_code 58 = .ok (.iload 7, 2) := by decide +kernel
theorem d_M_isKept_60 : decode prog_14_method_63_code 60 = .ok (.iload_n 1, 1) := by decide +kernel
theorem d_M_isKept_61 : decode prog_14_method_63_code 61 = .ok (.if_icmp .ge 30, 3) := by decide +kernel
theorem d_M_isKept_64 : decode prog_14_method_63_code 64 = .ok (.aload_n 0, 1) := by decide +kernel
theorem d_M_isKept_65 : decode prog_14_method_63_code 65 = .ok (.getfield 142, 3) := by decide +kernel
theorem d_M_isKept_68 : decode prog_14_method_63_code 68 = .ok (.iload 7, 2) := by decide +kernel
theorem d_M_isKept_70 : decode prog_14_method_63_code 70 = .ok (.iaload, 1) := by decide +kernel
theorem d_M_isKept_71 : decode prog_14_method_63_code 71 = .ok (.iload 5, 2) := by decide +kernel
theorem d_M_isKept_73 : decode prog_14_method_63_code 73 = .ok (.if_icmp .ne 12, 3) := by decide +kernel
theorem d_M_isKept_76 : decode prog_14_method_63_code 76 = .ok (.aload_n 0, 1) := by decide +kernel
theorem d_M_isKept_77 : decode prog_14_method_63_code 77 = .ok (.getfield 136, 3) := by decide +kernel
theorem d_M_isKept_80 : decode prog_14_method_63_code 80 = .ok (.iload 7, 2) := by decide +kernel
theorem d_M_isKept_82 : decode prog_14_method_63_code 82 = .ok (.iaload, 1) := by decide +kernel
theorem d_M_isKept_83 : decode prog_14_method_63_code 83 = .ok (.istore 6, 2) := by decide +kernel
theorem d_M_isKept_85 : decode prog_14_method_63_code 85 = .ok (.iinc 7 1, 3) := by decide +kernel
theorem d_M_isKept_88 : decode prog_14_method_63_code 88 = .ok (.goto (-30), 3) := by decide +kernel
theorem d_M_isKept_91 : decode prog_14_method_63_code 91 = .ok (.aload_n 0, 1) := by decide +kernel
theorem d_M_isKept_92 : decode prog_14_method_63_code 92 = .ok (.getfield 33, 3) := by decide +kernel
theorem d_M_isKept_95 : decode prog_14_method_63_code 95 = .ok (.iload 5, 2) := by decide +kernel
theorem d_M_isKept_97 : decode prog_14_method_63_code 97 = .ok (.iaload, 1) := by decide +kernel
theorem d_M_isKept_98 : decode prog_14_method_63_code 98 = .ok (.iload_n 3, 1) := by decide +kernel
theorem d_M_isKept_99 : decode prog_14_method_63_code 99 = .ok (.if_icmp .ne 23, 3) := by decide +kernel
theorem d_M_isKept_102 : decode prog_14_method_63_code 102 = .ok (.iload 6, 2) := by decide +kernel
theorem d_M_isKept_104 : decode prog_14_method_63_code 104 = .ok (.iconst (-1), 1) := by decide +kernel
theorem d_M_isKept_105 : decode prog_14_method_63_code 105 = .ok (.if_icmp .eq 17, 3) := by decide +kernel
theorem d_M_isKept_108 : decode prog_14_method_63_code 108 = .ok (.aload_n 0, 1) := by decide +kernel
theorem d_M_isKept_109 : decode prog_14_method_63_code 109 = .ok (.getfield 85, 3) := by decide +kernel
theorem d_M_isKept_112 : decode prog_14_method_63_code 112 = .ok (.iload 6, 2) := by decide +kernel
theorem d_M_isKept_114 : decode prog_14_method_63_code 114 = .ok (.iaload, 1) := by decide +kernel
theorem d_M_isKept_115 : decode prog_14_method_63_code 115 = .ok (.iload_n 2, 1) := by decide +kernel
theorem d_M_isKept_116 : decode prog_14_method_63_code 116 = .ok (.if_icmp .eq 6, 3) := by decide +kernel
theorem d_M_isKept_119 : decode prog_14_method_63_code 119 = .ok (.iinc 4 1, 3) := by decide +kernel
theorem d_M_isKept_122 : decode prog_14_method_63_code 122 = .ok (.iinc 5 1, 3) := by decide +kernel
theorem d_M_isKept_125 : decode prog_14_method_63_code 125 = .ok (.goto (-105), 3) := by decide +kernel
theorem d_M_isKept_128 : decode prog_14_method_63_code 128 = .ok (.iload 4, 2) := by decide +kernel
theorem d_M_isKept_130 : decode prog_14_method_63_code 130 = .ok (.aload_n 0, 1) := by decide +kernel
theorem d_M_isKept_131 : decode prog_14_method_63_code 131 = .ok (.getfield 106, 3) := by decide +kernel
theorem d_M_isKept_134 : decode prog_14_method_63_code 134 = .ok (.iload_n 3, 1) := by decide +kernel
theorem d_M_isKept_135 : decode prog_14_method_63_code 135 = .ok (.iaload, 1) := by decide +kernel
theorem d_M_isKept_136 : decode prog_14_method_63_code 136 = .ok (.if_icmp .ge 5, 3) := by decide +kernel
theorem d_M_isKept_139 : decode prog_14_method_63_code 139 = .ok (.iconst 0, 1) := by decide +kernel
theorem d_M_isKept_140 : decode prog_14_method_63_code 140 = .ok (.ireturn, 1) := by decide +kernel
theorem d_M_isKept_141 : decode prog_14_method_63_code 141 = .ok (.iinc 3 1, 3) := by decide +kernel
theorem d_M_isKept_144 : decode prog_14_method_63_code 144 = .ok (.goto (-135), 3) := by decide +kernel
theorem d_M_isKept_147 : decode prog_14_method_63_code 147 = .ok (.iinc 2 1, 3) := by decide +kernel
theorem d_M_isKept_150 : decode prog_14_method_63_code 150 = .ok (.goto (-148), 3) := by decide +kernel
theorem d_M_isKept_153 : decode prog_14_method_63_code 153 = .ok (.iconst 1, 1) := by decide +kernel
theorem d_M_isKept_154 : decode prog_14_method_63_code 154 = .ok (.ireturn, 1) := by decide +kernel
theorem d_M_spread_0 : decode prog_14_method_64_code 0 = .ok (.aload_n 0, 1) := by decide +kernel
theorem d_M_spread_1 : decode prog_14_method_64_code 1 = .ok (.getfield 165, 3) := by decide +kernel
theorem d_M_spread_4 : decode prog_14_method_64_code 4 = .ok (.iconst 2, 1) := by decide +kernel
theorem d_M_spread_5 : decode prog_14_method_64_code 5 = .ok (.if_icmp .eq 10, 3) := by decide +kernel
theorem d_M_spread_8 : decode prog_14_method_64_code 8 = .ok (.aload_n 0, 1) := by decide +kernel
theorem d_M_spread_9 : decode prog_14_method_64_code 9 = .ok (.bipush (-6), 2) := by decide +kernel
theorem d_M_spread_11 : decode prog_14_method_64_code 11 = .ok (.invokevirtual 161, 3) := by decide +kernel
theorem d_M_spread_14 : decode prog_14_method_64_code 14 = .ok (.ireturn, 1) := by decide +kernel
theorem d_M_spread_15 : decode prog_14_method_64_code 15 = .ok (.iconst 0, 1) := by decide +kernel
theorem d_M_spread_16 : decode prog_14_method_64_code 16 = .ok (.istore_n 2, 1) := by decide +kernel
theorem d_M_spread_17 : decode prog_14_method_64_code 17 = .ok (.iconst 0, 1) := by decide +kernel
theorem d_M_spread_18 : decode prog_14_method_64_code 18 = .ok (.istore_n 3, 1) := by decide +kernel
theorem d_M_spread_19 : decode prog_14_method_64_code 19 = .ok (.iload_n 3, 1) := by decide +kernel
theorem d_M_spread_20 : decode prog_14_method_64_code 20 = .ok (.aload_n 0, 1) := by decide +kernel
theorem d_M_spread_21 : decode prog_14_method_64_code 21 = .ok (.getfield 151, 3) := by decide +kernel
theorem d_M_spread_24 : decode prog_14_method_64_code 24 = .ok (.if_icmp .ge 71, 3) := by decide +kernel
theorem d_M_spread_27 : decode prog_14_method_64_code 27 = .ok (.aload_n 0, 1) := by decide +kernel
theorem d_M_spread_28 : decode prog_14_method_64_code 28 = .ok (.getfield 45, 3) := by decide +kernel
theorem d_M_spread_31 : decode prog_14_method_64_code 31 = .ok (.iload_n 3, 1) := by decide +kernel
theorem d_M_spread_32 : decode prog_14_method_64_code 32 = .ok (.iaload, 1) := by decide +kernel
theorem d_M_spread_33 : decode prog_14_method_64_code 33 = .ok (.sipush 300, 3) := by decide +kernel
theorem d_M_spread_36 : decode prog_14_method_64_code 36 = .ok (.if_icmp .eq 37, 3) := by decide +kernel
theorem d_M_spread_39 : decode prog_14_method_64_code 39 = .ok (.aload_n 0, 1) := by decide +kernel
theorem d_M_spread_40 : decode prog_14_method_64_code 40 = .ok (.iload_n 3, 1) := by decide +kernel
theorem d_M_spread_41 : decode prog_14_method_64_code 41 = .ok (.invokevirtual 296, 3) := by decide +kernel
theorem d_M_spread_44 : decode prog_14_method_64_code 44 = .ok (.ifCond .eq 45, 3) := by decide +kernel
theorem d_M_spread_47 : decode prog_14_method_64_code 47 = .ok (.aload_n 0, 1) := by decide +kernel
theorem d_M_spread_48 : decode prog_14_method_64_code 48 = .ok (.aload_n 0, 1) := by decide +kernel
theorem d_M_spread_49 : decode prog_14_method_64_code 49 = .ok (.getfield 45, 3) := by decide +kernel
theorem d_M_spread_52 : decode prog_14_method_64_code 52 = .ok (.iload_n 3, 1) := by decide +kernel
theorem d_M_spread_53 : decode prog_14_method_64_code 53 = .ok (.iaload, 1) := by decide +kernel
theorem d_M_spread_54 : decode prog_14_method_64_code 54 = .ok (.sipush 400, 3) := by decide +kernel
theorem d_M_spread_57 : decode prog_14_method_64_code 57 = .ok (.isub, 1) := by decide +kernel
theorem d_M_spread_58 : decode prog_14_method_64_code 58 = .ok (.aload_n 0, 1) := by decide +kernel
theorem d_M_spread_59 : decode prog_14_method_64_code 59 = .ok (.getfield 33, 3) := by decide +kernel
theorem d_M_spread_62 : decode prog_14_method_64_code 62 = .ok (.iload_n 3, 1) := by decide +kernel
theorem d_M_spread_63 : decode prog_14_method_64_code 63 = .ok (.iaload, 1) := by decide +kernel
theorem d_M_spread_64 : decode prog_14_method_64_code 64 = .ok (.invokevirtual 299, 3) := by decide +kernel
theorem d_M_spread_67 : decode prog_14_method_64_code 67 = .ok (.ifCond .eq 6, 3) := by decide +kernel
theorem d_M_spread_70 : decode prog_14_method_64_code 70 = .ok (.goto 19, 3) := by decide +kernel
theorem d_M_spread_73 : decode prog_14_method_64_code 73 = .ok (.iload_n 2, 1) := by decide +kernel
theorem d_M_spread_74 : decode prog_14_method_64_code 74 = .ok (.bipush 9, 2) := by decide +kernel
theorem d_M_spread_76 : decode prog_14_method_64_code 76 = .ok (.if_icmp .ge 10, 3) := by decide +kernel
theorem d_M_spread_79 : decode prog_14_method_64_code 79 = .ok (.aload_n 0, 1) := by decide +kernel
theorem d_M_spread_80 : decode prog_14_method_64_code 80 = .ok (.getfield 142, 3) := by decide +kernel
theorem d_M_spread_83 : decode prog_14_method_64_code 83 = .ok (.iload_n 2, 1) := by decide +kernel
theorem d_M_spread_84 : decode prog_14_method_64_code 84 = .ok (.iload_n 3, 1) := by decide +kernel
theorem d_M_spread_85 : decode prog_14_method_64_code 85 = .ok (.iastore, 1) := by decide +kernel
theorem d_M_spread_86 : decode prog_14_method_64_code 86 = .ok (.iinc 2 1, 3) := by decide +kernel
theorem d_M_spread_89 : decode prog_14_method_64_code 89 = .ok (.iinc 3 1, 3) := by decide +kernel
theorem d_M_spread_92 : decode prog_14_method_64_code 92 = .ok (.goto (-73), 3) := by decide +kernel
theorem d_M_spread_95 : decode prog_14_method_64_code 95 = .ok (.iload_n 2, 1) := by decide +kernel
theorem d_M_spread_96 : decode prog_14_method_64_code 96 = .ok (.bipush 8, 2) := by decide +kernel
theorem d_M_spread_98 : decode prog_14_method_64_code 98 = .ok (.if_icmp .le 10, 3) := by decide +kernel
theorem d_M_spread_101 : decode prog_14_method_64_code 101 = .ok (.aload_n 0, 1) := by decide +kernel
theorem d_M_spread_102 : decode prog_14_method_64_code 102 = .ok (.bipush (-7), 2) := by decide +kernel
theorem d_M_spread_104 : decode prog_14_method_64_code 104 = .ok (.invokevirtual 161, 3) := by decide +kernel
theorem d_M_spread_107 : decode prog_14_method_64_code 107 = .ok (.ireturn, 1) := by decide +kernel
theorem d_M_spread_108 : decode prog_14_method_64_code 108 = .ok (.aload_n 0, 1) := by decide +kernel
theorem d_M_spread_109 : decode prog_14_method_64_code 109 = .ok (.getfield 145, 3) := by decide +kernel
theorem d_M_spread_112 : decode prog_14_method_64_code 112 = .ok (.astore_n 3, 1) := by decide +kernel
theorem d_M_spread_113 : decode prog_14_method_64_code 113 = .ok (.iconst 0, 1) := by decide +kernel
theorem d_M_spread_114 : decode prog_14_method_64_code 114 = .ok (.istore 4, 2) := by decide +kernel
theorem d_M_spread_116 : decode prog_14_method_64_code 116 = .ok (.iload 4, 2) := by decide +kernel
theorem d_M_spread_118 : decode prog_14_method_64_code 118 = .ok (.aload_n 0, 1) := by decide +kernel
theorem d_M_spread_119 : decode prog_14_method_64_code 119 = .ok (.getfield 154, 3) := by decide +kernel
theorem d_M_spread_122 : decode prog_14_method_64_code 122 = .ok (.if_icmp .ge 27, 3) := by decide +kernel
theorem d_M_spread_125 : decode prog_14_method_64_code 125 = .ok (.aload_n 3, 1) := by decide +kernel
theorem d_M_spread_126 : decode prog_14_method_64_code 126 = .ok (.iload 4, 2) := by decide +kernel
theorem d_M_spread_128 : decode prog_14_method_64_code 128 = .ok (.aload_n 0, 1) := by decide +kernel
theorem d_M_spread_129 : decode prog_14_method_64_code 129 = .ok (.getfield 82, 3) := by decide +kernel
theorem d_M_spread_132 : decode prog_14_method_64_code 132 = .ok (.iload 4, 2) := by decide +kernel
theorem d_M_spread_134 : decode prog_14_method_64_code 134 = .ok (.iaload, 1) := by decide +kernel
theorem d_M_spread_135 : decode prog_14_method_64_code 135 = .ok (.aload_n 0, 1) := by decide +kernel
theorem d_M_spread_136 : decode prog_14_method_64_code 136 = .ok (.iload 4, 2) := by decide +kernel
theorem d_M_spread_138 : decode prog_14_method_64_code 138 = .ok (.invokevirtual 302, 3) := by decide +kernel
theorem d_M_spread_141 : decode prog_14_method_64_code 141 = .ok (.isub, 1) := by decide +kernel
theorem d_M_spread_142 : decode prog_14_method_64_code 142 = .ok (.iastore, 1) := by decide +kernel
theorem d_M_spread_143 : decode prog_14_method_64_code 143 = .ok (.iinc 4 1, 3) := by decide +kernel
theorem d_M_spread_146 : decode prog_14_method_64_code 146 = .ok (.goto (-30), 3) := by decide +kernel
theorem d_M_spread_149 : decode prog_14_method_64_code 149 = .ok (.iconst 0, 1) := by decide +kernel
theorem d_M_spread_150 : decode prog_14_method_64_code 150 = .ok (.istore 4, 2) := by decide +kernel
theorem d_M_spread_152 : decode prog_14_method_64_code 152 = .ok (.iload 4, 2) := by decide +kernel
theorem d_M_spread_154 : decode prog_14_method_64_code 154 = .ok (.iload_n 2, 1) := by decide +kernel
theorem d_M_spread_155 : decode prog_14_method_64_code 155 = .ok (.if_icmp .ge 64, 3) := by decide +kernel
theorem d_M_spread_158 : decode prog_14_method_64_code 158 = .ok (.aload_n 0, 1) := by decide +kernel
theorem d_M_spread_159 : decode prog_14_method_64_code 159 = .ok (.aload_n 0, 1) := by decide +kernel
theorem d_M_spread_160 : decode prog_14_method_64_code 160 = .ok (.getfield 142, 3) := by decide +kernel
theorem d_M_spread_163 : decode prog_14_method_64_code 163 = .ok (.iload 4, 2) := by decide +kernel
theorem d_M_spread_165 : decode prog_14_method_64_code 165 = .ok (.iaload, 1) := by decide +kernel
theorem d_M_spread_166 : decode prog_14_method_64_code 166 = .ok (.invokevirtual 296, 3) := by decide +kernel
theorem d_M_spread_169 : decode prog_14_method_64_code 169 = .ok (.ifCond .eq 36, 3) := by decide +kernel
theorem d_M_spread_172 : decode prog_14_method_64_code 172 = .ok (.aload_n 3, 1) := by decide +kernel
theorem d_M_spread_173 : decode prog_14_method_64_code 173 = .ok (.aload_n 0, 1) := by decide +kernel
theorem d_M_spread_174 : decode prog_14_method_64_code 174 = .ok (.getfield 45, 3) := by decide +kernel
theorem d_M_spread_177 : decode prog_14_method_64_code 177 = .ok (.aload_n 0, 1) := by decide +kernel
theorem d_M_spread_178 : decode prog_14_method_64_code 178 = .ok (.getfield 142, 3) := by decide +kernel
theorem d_M_spread_181 : decode prog_14_method_64_code 181 = .ok (.iload 4, 2) := by decide +kernel
theorem d_M_spread_183 : decode prog_14_method_64_code 183 = .ok (.iaload, 1) := by decide +kernel
theorem d_M_spread_184 : decode prog_14_method_64_code 184 = .ok (.iaload, 1) := by decide +kernel
theorem d_M_spread_185 : decode prog_14_method_64_code 185 = .ok (.sipush 400, 3) := by decide +kernel
theorem d_M_spread_188 : decode prog_14_method_64_code 188 = .ok (.isub, 1) := by decide +kernel
theorem d_M_spread_189 : decode prog_14_method_64_code 189 = .ok (.dup2, 1) := by decide +kernel
theorem d_M_spread_190 : decode prog_14_method_64_code 190 = .ok (.iaload, 1) := by decide +kernel
theorem d_M_spread_191 : decode prog_14_method_64_code 191 = .ok (.aload_n 0, 1) := by decide +kernel
theorem d_M_spread_192 : decode prog_14_method_64_code 192 = .ok (.getfield 39, 3) := by decide +kernel
theorem d_M_spread_195 : decode prog_14_method_64_code 195 = .ok (.aload_n 0, 1) := by decide +kernel
theorem d_M_spread_196 : decode prog_14_method_64_code 196 = .ok (.getfield 142, 3) := by decide +kernel
theorem d_M_spread_199 : decode prog_14_method_64_code 199 = .ok (.iload 4, 2) := by decide +kernel
theorem d_M_spread_201 : decode prog_14_method_64_code 201 = .ok (.iaload, 1) := by decide +kernel
theorem d_M_spread_202 : decode prog_14_method_64_code 202 = .ok (.iaload, 1) := by decide +kernel
theorem d_M_spread_203 : decode prog_14_method_64_code 203 = .ok (.iadd, 1) := by decide +kernel
theorem d_M_spread_204 : decode prog_14_method_64_code 204 = .ok (.iastore, 1) := by decide +kernel
theorem d_M_spread_205 : decode prog_14_method_64_code 205 = .ok (.aload_n 0, 1) := by decide +kernel
theorem d_M_spread_206 : decode prog_14_method_64_code 206 = .ok (.getfield 136, 3) := by decide +kernel
theorem d_M_spread_209 : decode prog_14_method_64_code 209 = .ok (.iload 4, 2) := by decide +kernel
theorem d_M_spread_211 : decode prog_14_method_64_code 211 = .ok (.iconst (-1), 1) := by decide +kernel
theorem d_M_spread_212 : decode prog_14_method_64_code 212 = .ok (.iastore, 1) := by decide +kernel
theorem d_M_spread_213 : decode prog_14_method_64_code 213 = .ok (.iinc 4 1, 3) := by decide +kernel
theorem d_M_spread_216 : decode prog_14_method_64_code 216 = .ok (.goto (-64), 3) := by decide +kernel
theorem d_M_spread_219 : decode prog_14_method_64_code 219 = .ok (.iconst (-1), 1) := by decide +kernel
theorem d_M_spread_220 : decode prog_14_method_64_code 220 = .ok (.istore 4, 2) := by decide +kernel
theorem d_M_spread_222 : decode prog_14_method_64_code 222 = .ok (.iconst 0, 1) := by decide +kernel
theorem d_M_spread_223 : decode prog_14_method_64_code 223 = .ok (.istore 5, 2) := by decide +kernel
theorem d_M_spread_225 : decode prog_14_method_64_code 225 = .ok (.iconst 0, 1) := by decide +kernel
theorem d_M_spread_226 : decode prog_14_method_64_code 226 = .ok (.istore 6, 2) := by decide +kernel
theorem d_M_spread_228 : decode prog_14_method_64_code 228 = .ok (.iload 6, 2) := by decide +kernel
theorem d_M_spread_230 : decode prog_14_method_64_code 230 = .ok (.ifCond .lt 285, 3) := by decide +kernel
theorem d_M_spread_233 : decode prog_14_method_64_code 233 = .ok (.iload 6, 2) := by decide +kernel
theorem d_M_spread_235 : decode prog_14_method_64_code 235 = .ok (.iload_n 2, 1) := by decide +kernel
theorem d_M_spread_236 : decode prog_14_method_64_code 236 = .ok (.if_icmp .ne 63, 3) := by decide +kernel
theorem d_M_spread_239 : decode prog_14_method_64_code 239 = .ok (.iload 4, 2) := by decide +kernel
theorem d_M_spread_241 : decode prog_14_method_64_code 241 = .ok (.iconst (-1), 1) := by decide +kernel
theorem d_M_spread_242 : decode prog_14_method_64_code 242 = .ok (.if_icmp .eq 10, 3) := by decide +kernel
theorem d_M_spread_245 : decode prog_14_method_64_code 245 = .ok (.iload 5, 2) := by decide +kernel
theorem d_M_spread_247 : decode prog_14_method_64_code 247 = .ok (.iload 4, 2) := by decide +kernel
theorem d_M_spread_249 : decode prog_14_method_64_code 249 = .ok (.if_icmp .ge 44, 3) := by decide +kernel
theorem d_M_spread_252 : decode prog_14_method_64_code 252 = .ok (.aload_n 0, 1) := by decide +kernel
theorem d_M_spread_253 : decode prog_14_method_64_code 253 = .ok (.iload_n 2, 1) := by decide +kernel
theorem d_M_spread_254 : decode prog_14_method_64_code 254 = .ok (.invokevirtual 305, 3) := by decide +kernel
theorem d_M_spread_257 : decode prog_14_method_64_code 257 = .ok (.ifCond .eq 36, 3) := by decide +kernel
theorem d_M_spread_260 : decode prog_14_method_64_code 260 = .ok (.iload 5, 2) := by decide +kernel
theorem d_M_spread_262 : decode prog_14_method_64_code 262 = .ok (.istore 4, 2) := by decide +kernel
theorem d_M_spread_264 : decode prog_14_method_64_code 264 = .ok (.iconst 0, 1) := by decide +kernel
theorem d_M_spread_265 : decode prog_14_method_64_code 265 = .ok (.istore 7, 2) := by decide +kernel
theorem d_M_spread_267 : decode prog_14_method_64_code 267 = .ok (.iload 7, 2) := by decide +kernel
theorem d_M_spread_269 : decode prog_14_method_64_code 269 = .ok (.iload_n 2, 1) := by decide +kernel
theorem d_M_spread_270 : decode prog_14_method_64_code 270 = .ok (.if_icmp .ge 23, 3) := by decide +kernel
theorem d_M_spread_273 : decode prog_14_method_64_code 273 = .ok (.aload_n 0, 1) := by decide +kernel
theorem d_M_spread_274 : decode prog_14_method_64_code 274 = .ok (.getfield 139, 3) := by decide +kernel
theorem d_M_spread_277 : decode prog_14_method_64_code 277 = .ok (.iload 7, 2) := by decide +kernel
theorem d_M_spread_279 : decode prog_14_method_64_code 279 = .ok (.aload_n 0, 1) := by decide +kernel
theorem d_M_spread_280 : decode prog_14_method_64_code 280 = .ok (.getfield 136, 3) := by decide +kernel
theorem d_M_spread_283 : decode prog_14_method_64_code 283 = .ok (.iload 7, 2) := by decide +kernel
theorem d_M_spread_285 : decode prog_14_method_64_code 285 = .ok (.iaload, 1) := by decide +kernel
theorem d_M_spread_286 : decode prog_14_method_64_code 286 = .ok (.iastore, 1) := by decide +kernel
theorem d_M_spread_287 : decode prog_14_method_64_code 287 = .ok (.iinc 7 1, 3) := by decide +kernel
theorem d_M_spread_290 : decode prog_14_method_64_code 290 = .ok (.goto (-23), 3) := by decide +kernel
theorem d_M_spread_293 : decode prog_14_method_64_code 293 = .ok (.iinc 6 (-1), 3) := by decide +kernel
theorem d_M_spread_296 : decode prog_14_method_64_code 296 = .ok (.goto (-68), 3) := by decide +kernel
theorem d_M_spread_299 : decode prog_14_method_64_code 299 = .ok (.aload_n 0, 1) := by decide +kernel
theorem d_M_spread_300 : decode prog_14_method_64_code 300 = .ok (.getfield 142, 3) := by decide +kernel
theorem d_M_spread_303 : decode prog_14_method_64_code 303 = .ok (.iload 6, 2) := by decide +kernel
theorem d_M_spread_305 : decode prog_14_method_64_code 305 = .ok (.iaload, 1) := by decide +kernel
theorem d_M_spread_306 : decode prog_14_method_64_code 306 = .ok (.istore 7, 2) := by decide +kernel
theorem d_M_spread_308 : decode prog_14_method_64_code 308 = .ok (.aload_n 0, 1) := by decide +kernel
theorem d_M_spread_309 : decode prog_14_method_64_code 309 = .ok (.getfield 136, 3) := by decide +kernel
theorem d_M_spread_312 : decode prog_14_method_64_code 312 = .ok (.iload 6, 2) := by decide +kernel
theorem d_M_spread_314 : decode prog_14_method_64_code 314 = .ok (.iaload, 1) := by decide +kernel
theorem d_M_spread_315 : decode prog_14_method_64_code 315 = .ok (.iconst (-1), 1) := by decide +kernel
theorem d_M_spread_316 : decode prog_14_method_64_code 316 = .ok (.if_icmp .eq 40, 3) := by decide +kernel
theorem d_M_spread_319 : decode prog_14_method_64_code 319 = .ok (.aload_n 3, 1) := by decide +kernel
theorem d_M_spread_320 : decode prog_14_method_64_code 320 = .ok (.aload_n 0, 1) := by decide +kernel
theorem d_M_spread_321 : decode prog_14_method_64_code 321 = .ok (.getfield 136, 3) := by decide +kernel
theorem d_M_spread_324 : decode prog_14_method_64_code 324 = .ok (.iload 6, 2) := by decide +kernel
theorem d_M_spread_326 : decode prog_14_method_64_code 326 = .ok (.iaload, 1) := by decide +kernel
theorem d_M_spread_327 : decode prog_14_method_64_code 327 = .ok (.dup2, 1) := by decide +kernel
theorem d_M_spread_328 : decode prog_14_method_64_code 328 = .ok (.iaload, 1) := by decide +kernel
theorem d_M_spread_329 : decode prog_14_method_64_code 329 = .ok (.aload_n 0, 1) := by decide +kernel
theorem d_M_spread_330 : decode prog_14_method_64_code 330 = .ok (.getfield 39, 3) := by decide +kernel
theorem d_M_spread_333 : decode prog_14_method_64_code 333 = .ok (.iload 7, 2) := by decide +kernel
theorem d_M_spread_335 : decode prog_14_method_64_code 335 = .ok (.iaload, 1) := by decide +kernel
theorem d_M_spread_336 : decode prog_14_method_64_code 336 = .ok (.iadd, 1) := by decide +kernel
theorem d_M_spread_337 : decode prog_14_method_64_code 337 = .ok (.iastore, 1) := by decide +kernel
theorem d_M_spread_338 : decode prog_14_method_64_code 338 = .ok (.iload 5, 2) := by decide +kernel
theorem d_M_spread_340 : decode prog_14_method_64_code 340 = .ok (.aload_n 0, 1) := by decide +kernel
theorem d_M_spread_341 : decode prog_14_method_64_code 341 = .ok (.iload 7, 2) := by decide +kernel
theorem d_M_spread_343 : decode prog_14_method_64_code 343 = .ok (.aload_n 0, 1) := by decide +kernel
theorem d_M_spread_344 : decode prog_14_method_64_code 344 = .ok (.getfield 136, 3) := by decide +kernel
theorem d_M_spread_347 : decode prog_14_method_64_code 347 = .ok (.iload 6, 2) := by decide +kernel
theorem d_M_spread_349 : decode prog_14_method_64_code 349 = .ok (.iaload, 1) := by decide +kernel
theorem d_M_spread_350 : decode prog_14_method_64_code 350 = .ok (.invokevirtual 308, 3) := by decide +kernel
theorem d_M_spread_353 : decode prog_14_method_64_code 353 = .ok (.isub, 1) := by decide +kernel
theorem d_M_spread_354 : decode prog_14_method_64_code 354 = .ok (.istore 5, 2) := by decide +kernel
theorem d_M_spread_356 : decode prog_14_method_64_code 356 = .ok (.aload_n 0, 1) := by decide +kernel
theorem d_M_spread_357 : decode prog_14_method_64_code 357 = .ok (.getfield 136, 3) := by decide +kernel
theorem d_M_spread_360 : decode prog_14_method_64_code 360 = .ok (.iload 6, 2) := by decide +kernel
theorem d_M_spread_362 : decode prog_14_method_64_code 362 = .ok (.iaload, 1) := by decide +kernel
theorem d_M_spread_363 : decode prog_14_method_64_code 363 = .ok (.iconst 1, 1) := by decide +kernel
theorem d_M_spread_364 : decode prog_14_method_64_code 364 = .ok (.iadd, 1) := by decide +kernel
theorem d_M_spread_365 : decode prog_14_method_64_code 365 = .ok (.istore 8, 2) := by decide +kernel
theorem d_M_spread_367 : decode prog_14_method_64_code 367 = .ok (.iload 8, 2) := by decide +kernel
theorem d_M_spread_369 : decode prog_14_method_64_code 369 = .ok (.aload_n 0, 1) := by decide +kernel
theorem d_M_spread_370 : decode prog_14_method_64_code 370 = .ok (.getfield 154, 3) := by decide +kernel
theorem d_M_spread_373 : decode prog_14_method_64_code 373 = .ok (.if_icmp .ge 77, 3) := by decide +kernel
theorem d_M_spread_376 : decode prog_14_method_64_code 376 = .ok (.aload_n 0, 1) := by decide +kernel
theorem d_M_spread_377 : decode prog_14_method_64_code 377 = .ok (.getfield 45, 3) := by decide +kernel
theorem d_M_spread_380 : decode prog_14_method_64_code 380 = .ok (.iload 7, 2) := by decide +kernel
theorem d_M_spread_382 : decode prog_14_method_64_code 382 = .ok (.iaload, 1) := by decide +kernel
theorem d_M_spread_383 : decode prog_14_method_64_code 383 = .ok (.sipush 400, 3) := by decide +kernel
theorem d_M_spread_386 : decode prog_14_method_64_code 386 = .ok (.iload 8, 2) := by decide +kernel
theorem d_M_spread_388 : decode prog_14_method_64_code 388 = .ok (.iadd, 1) := by decide +kernel
theorem d_M_spread_389 : decode prog_14_method_64_code 389 = .ok (.if_icmp .eq 55, 3) := by decide +kernel
theorem d_M_spread_392 : decode prog_14_method_64_code 392 = .ok (.aload_n 0, 1) := by decide +kernel
theorem d_M_spread_393 : decode prog_14_method_64_code 393 = .ok (.iload 8, 2) := by decide +kernel
theorem d_M_spread_395 : decode prog_14_method_64_code 395 = .ok (.aload_n 0, 1) := by decide +kernel
theorem d_M_spread_396 : decode prog_14_method_64_code 396 = .ok (.getfield 33, 3) := by decide +kernel
theorem d_M_spread_399 : decode prog_14_method_64_code 399 = .ok (.iload 7, 2) := by decide +kernel
theorem d_M_spread_401 : decode prog_14_method_64_code 401 = .ok (.iaload, 1) := by decide +kernel
theorem d_M_spread_402 : decode prog_14_method_64_code 402 = .ok (.invokevirtual 299, 3) := by decide +kernel
theorem d_M_spread_405 : decode prog_14_method_64_code 405 = .ok (.ifCond .eq 39, 3) := by decide +kernel
theorem d_M_spread_408 : decode prog_14_method_64_code 408 = .ok (.aload_n 3, 1) := by decide +kernel
theorem d_M_spread_409 : decode prog_14_method_64_code 409 = .ok (.iload 8, 2) := by decide +kernel
theorem d_M_spread_411 : decode prog_14_method_64_code 411 = .ok (.iaload, 1) := by decide +kernel
theorem d_M_spread_412 : decode prog_14_method_64_code 412 = .ok (.aload_n 0, 1) := by decide +kernel
theorem d_M_spread_413 : decode prog_14_method_64_code 413 = .ok (.getfield 39, 3) := by decide +kernel
theorem d_M_spread_416 : decode prog_14_method_64_code 416 = .ok (.iload 7, 2) := by decide +kernel
theorem d_M_spread_418 : decode prog_14_method_64_code 418 = .ok (.iaload, 1) := by decide +kernel
theorem d_M_spread_419 : decode prog_14_method_64_code 419 = .ok (.if_icmp .lt 25, 3) := by decide +kernel
theorem d_M_spread_422 : decode prog_14_method_64_code 422 = .ok (.iload 4, 2) := by decide +kernel
theorem d_M_spread_424 : decode prog_14_method_64_code 424 = .ok (.iconst (-1), 1) := by decide +kernel
theorem d_M_spread_425 : decode prog_14_method_64_code 425 = .ok (.if_icmp .eq 25, 3) := by decide +kernel
theorem d_M_spread_428 : decode prog_14_method_64_code 428 = .ok (.iload 5, 2) := by decide +kernel
theorem d_M_spread_430 : decode prog_14_method_64_code 430 = .ok (.aload_n 0, 1) := by decide +kernel
theorem d_M_spread_431 : decode prog_14_method_64_code 431 = .ok (.iload 7, 2) := by decide +kernel
theorem d_M_spread_433 : decode prog_14_method_64_code 433 = .ok (.iload 8, 2) := by decide +kernel
theorem d_M_spread_435 : decode prog_14_method_64_code 435 = .ok (.invokevirtual 308, 3) := by decide +kernel
theorem d_M_spread_438 : decode prog_14_method_64_code 438 = .ok (.iadd, 1) := by decide +kernel
theorem d_M_spread_439 : decode prog_14_method_64_code 439 = .ok (.iload 4, 2) := by decide +kernel
theorem d_M_spread_441 : decode prog_14_method_64_code 441 = .ok (.if_icmp .lt 9, 3) := by decide +kernel
theorem d_M_spread_444 : decode prog_14_method_64_code 444 = .ok (.iinc 8 1, 3) := by decide +kernel
theorem d_M_spread_447 : decode prog_14_method_64_code 447 = .ok (.goto (-80), 3) := by decide +kernel
theorem d_M_spread_450 : decode prog_14_method_64_code 450 = .ok (.iload 8, 2) := by decide +kernel
theorem d_M_spread_452 : decode prog_14_method_64_code 452 = .ok (.aload_n 0, 1) := by decide +kernel
theorem d_M_spread_453 : decode prog_14_method_64_code 453 = .ok (.getfield 154, 3) := by decide +kernel
theorem d_M_spread_456 : decode prog_14_method_64_code 456 = .ok (.if_icmp .lt 17, 3) := by decide +kernel
theorem d_M_spread_459 : decode prog_14_method_64_code 459 = .ok (.aload_n 0, 1) := by decide +kernel
theorem d_M_spread_460 : decode prog_14_method_64_code 460 = .ok (.getfield 136, 3) := by decide +kernel
theorem d_M_spread_463 : decode prog_14_method_64_code 463 = .ok (.iload 6, 2) := by decide +kernel
theorem d_M_spread_465 : decode prog_14_method_64_code 465 = .ok (.iconst (-1), 1) := by decide +kernel
theorem d_M_spread_466 : decode prog_14_method_64_code 466 = .ok (.iastore, 1) := by decide +kernel
theorem d_M_spread_467 : decode prog_14_method_64_code 467 = .ok (.iinc 6 (-1), 3) := by decide +kernel
theorem d_M_spread_470 : decode prog_14_method_64_code 470 = .ok (.goto (-242), 3) := by decide +kernel
theorem d_M_spread_473 : decode prog_14_method_64_code 473 = .ok (.aload_n 0, 1) := by decide +kernel
theorem d_M_spread_474 : decode prog_14_method_64_code 474 = .ok (.getfield 136, 3) := by decide +kernel
theorem d_M_spread_477 : decode prog_14_method_64_code 477 = .ok (.iload 6, 2) := by decide +kernel
theorem d_M_spread_479 : decode prog_14_method_64_code 479 = .ok (.iload 8, 2) := by decide +kernel
theorem d_M_spread_481 : decode prog_14_method_64_code 481 = .ok (.iastore, 1) := by decide +kernel
theorem d_M_spread_482 : decode prog_14_method_64_code 482 = .ok (.aload_n 3, 1) := by decide +kernel
theorem d_M_spread_483 : decode prog_14_method_64_code 483 = .ok (.iload 8, 2) := by decide +kernel
theorem d_M_spread_485 : decode prog_14_method_64_code 485 = .ok (.dup2, 1) := by decide +kernel
theorem d_M_spread_486 : decode prog_14_method_64_code 486 = .ok (.iaload, 1) := by decide +kernel
theorem d_M_spread_487 : decode prog_14_method_64_code 487 = .ok (.aload_n 0, 1) := by decide +kernel
theorem d_M_spread_488 : decode prog_14_method_64_code 488 = .ok (.getfield 39, 3) := by decide +kernel
theorem d_M_spread_491 : decode prog_14_method_64_code 491 = .ok (.iload 7, 2) := by decide +kernel
theorem d_M_spread_493 : decode prog_14_method_64_code 493 = .ok (.iaload, 1) := by decide +kernel
theorem d_M_spread_494 : decode prog_14_method_64_code 494 = .ok (.isub, 1) := by decide +kernel
theorem d_M_spread_495 : decode prog_14_method_64_code 495 = .ok (.iastore, 1) := by decide +kernel
theorem d_M_spread_496 : decode prog_14_method_64_code 496 = .ok (.iload 5, 2) := by decide +kernel
theorem d_M_spread_498 : decode prog_14_method_64_code 498 = .ok (.aload_n 0, 1) := by decide +kernel
theorem d_M_spread_499 : decode prog_14_method_64_code 499 = .ok (.iload 7, 2) := by decide +kernel
theorem d_M_spread_501 : decode prog_14_method_64_code 501 = .ok (.iload 8, 2) := by decide +kernel
theorem d_M_spread_503 : decode prog_14_method_64_code 503 = .ok (.invokevirtual 308, 3) := by decide +kernel
theorem d_M_spread_506 : decode prog_14_method_64_code 506 = .ok (.iadd, 1) := by decide +kernel
theorem d_M_spread_507 : decode prog_14_method_64_code 507 = .ok (.istore 5, 2) := by decide +kernel
theorem d_M_spread_509 : decode prog_14_method_64_code 509 = .ok (.iinc 6 1, 3) := by decide +kernel
theorem d_M_spread_512 : decode prog_14_method_64_code 512 = .ok (.goto (-284), 3) := by decide +kernel
theorem d_M_spread_515 : decode prog_14_method_64_code 515 = .ok (.iload 4, 2) := by decide +kernel
theorem d_M_spread_517 : decode prog_14_method_64_code 517 = .ok (.iconst (-1), 1) := by decide +kernel
theorem d_M_spread_518 : decode prog_14_method_64_code 518 = .ok (.if_icmp .ne 10, 3) := by decide +kernel
theorem d_M_spread_521 : decode prog_14_method_64_code 521 = .ok (.aload_n 0, 1) := by decide +kernel
theorem d_M_spread_522 : decode prog_14_method_64_code 522 = .ok (.bipush (-6), 2) := by decide +kernel
theorem d_M_spread_524 : decode prog_14_method_64_code 524 = .ok (.invokevirtual 161, 3) := by decide +kernel
theorem d_M_spread_527 : decode prog_14_method_64_code 527 = .ok (.ireturn, 1) := by decide +kernel
theorem d_M_spread_528 : decode prog_14_method_64_code 528 = .ok (.iload_n 1, 1) := by decide +kernel
theorem d_M_spread_529 : decode prog_14_method_64_code 529 = .ok (.ifCond .ne 6, 3) := by decide +kernel
theorem d_M_spread_532 : decode prog_14_method_64_code 532 = .ok (.iload 4, 2) := by decide +kernel
theorem d_M_spread_534 : decode prog_14_method_64_code 534 = .ok (.ireturn, 1) := by decide +kernel
theorem d_M_spread_535 : decode prog_14_method_64_code 535 = .ok (.iload 4, 2) := by decide +kernel
theorem d_M_spread_537 : decode prog_14_method_64_code 537 = .ok (.aload_n 0, 1) := by decide +kernel
theorem d_M_spread_538 : decode prog_14_method_64_code 538 = .ok (.getfield 292, 3) := by decide +kernel
theorem d_M_spread_541 : decode prog_14_method_64_code 541 = .ok (.if_icmp .le 10, 3) := by decide +kernel
theorem d_M_spread_544 : decode prog_14_method_64_code 544 = .ok (.aload_n 0, 1) := by decide +kernel
theorem d_M_spread_545 : decode prog_14_method_64_code 545 = .ok (.bipush (-7), 2) := by decide +kernel
theorem d_M_spread_547 : decode prog_14_method_64_code 547 = .ok (.invokevirtual 161, 3) := by decide +kernel
theorem d_M_spread_550 : decode prog_14_method_64_code 550 = .ok (.ireturn, 1) := by decide +kernel
theorem d_M_spread_551 : decode prog_14_method_64_code 551 = .ok (.aload_n 0, 1) := by decide +kernel
theorem d_M_spread_552 : decode prog_14_method_64_code 552 = .ok (.dup, 1) := by decide +kernel
theorem d_M_spread_553 : decode prog_14_method_64_code 553 = .ok (.getfield 292, 3) := by decide +kernel
theorem d_M_spread_556 : decode prog_14_method_64_code 556 = .ok (.iload 4, 2) := by decide +kernel
theorem d_M_spread_558 : decode prog_14_method_64_code 558 = .ok (.isub, 1) := by decide +kernel
theorem d_M_spread_559 : decode prog_14_method_64_code 559 = .ok (.putfield 292, 3) := by decide +kernel
theorem d_M_spread_562 : decode prog_14_method_64_code 562 = .ok (.iconst 0, 1) := by decide +kernel
theorem d_M_spread_563 : decode prog_14_method_64_code 563 = .ok (.istore 7, 2) := by decide +kernel
theorem d_M_spread_565 : decode prog_14_method_64_code 565 = .ok (.iload 7, 2) := by decide +kernel
theorem d_M_spread_567 : decode prog_14_method_64_code 567 = .ok (.iload_n 2, 1) := by decide +kernel
theorem d_M_spread_568 : decode prog_14_method_64_code 568 = .ok (.if_icmp .ge 31, 3) := by decide +kernel
theorem d_M_spread_571 : decode prog_14_method_64_code 571 = .ok (.aload_n 0, 1) := by decide +kernel
theorem d_M_spread_572 : decode prog_14_method_64_code 572 = .ok (.aload_n 0, 1) := by decide +kernel
theorem d_M_spread_573 : decode prog_14_method_64_code 573 = .ok (.getfield 142, 3) := by decide +kernel
theorem d_M_spread_576 : decode prog_14_method_64_code 576 = .ok (.iload 7, 2) := by decide +kernel
theorem d_M_spread_578 : decode prog_14_method_64_code 578 = .ok (.iaload, 1) := by decide +kernel
theorem d_M_spread_579 : decode prog_14_method_64_code 579 = .ok (.sipush 400, 3) := by decide +kernel
theorem d_M_spread_582 : decode prog_14_method_64_code 582 = .ok (.aload_n 0, 1) := by decide +kernel
theorem d_M_spread_583 : decode prog_14_method_64_code 583 = .ok (.getfield 139, 3) := by decide +kernel
theorem d_M_spread_586 : decode prog_14_method_64_code 586 = .ok (.iload 7, 2) := by decide +kernel
theorem d_M_spread_588 : decode prog_14_method_64_code 588 = .ok (.iaload, 1) := by decide +kernel
theorem d_M_spread_589 : decode prog_14_method_64_code 589 = .ok (.iadd, 1) := by decide +kernel
theorem d_M_spread_590 : decode prog_14_method_64_code 590 = .ok (.invokevirtual 262, 3) := by decide +kernel
theorem d_M_spread_593 : decode prog_14_method_64_code 593 = .ok (.iinc 7 1, 3) := by decide +kernel
theorem d_M_spread_596 : decode prog_14_method_64_code 596 = .ok (.goto (-31), 3) := by decide +kernel
theorem d_M_spread_599 : decode prog_14_method_64_code 599 = .ok (.iload 4, 2) := by decide +kernel
theorem d_M_spread_601 : decode prog_14_method_64_code 601 = .ok (.ireturn, 1) := by decide +kernel
theorem d_M_move_0 : decode prog_14_method_65_code 0 = .ok (.aload_n 0, 1) := by decide +kernel
theorem d_M_move_1 : decode prog_14_method_65_code 1 = .ok (.iload_n 1, 1) := by decide +kernel
theorem d_M_move_2 : decode prog_14_method_65_code 2 = .ok (.invokevirtual 204, 3) := by decide +kernel
theorem d_M_move_5 : decode prog_14_method_65_code 5 = .ok (.ifCond .eq 11, 3) := by decide +kernel
theorem d_M_move_8 : decode prog_14_method_65_code 8 = .ok (.aload_n 0, 1) := by decide +kernel
theorem d_M_move_9 : decode prog_14_method_65_code 9 = .ok (.iload_n 2, 1) := by decide +kernel
theorem d_M_move_10 : decode prog_14_method_65_code 10 = .ok (.invokevirtual 272, 3) := by decide +kernel
theorem d_M_move_13 : decode prog_14_method_65_code 13 = .ok (.ifCond .ne 9, 3) := by decide +kernel
theorem d_M_move_16 : decode prog_14_method_65_code 16 = .ok (.aload_n 0, 1) := by decide +kernel
theorem d_M_move_17 : decode prog_14_method_65_code 17 = .ok (.iconst (-1), 1) := by decide +kernel
theorem d_M_move_18 : decode prog_14_method_65_code 18 = .ok (.invokevirtual 161, 3) := by decide +kernel
theorem d_M_move_21 : decode prog_14_method_65_code 21 = .ok (.ireturn, 1) := by decide +kernel
theorem d_M_move_22 : decode prog_14_method_65_code 22 = .ok (.aload_n 0, 1) := by decide +kernel
theorem d_M_move_23 : decode prog_14_method_65_code 23 = .ok (.getfield 165, 3) := by decide +kernel
theorem d_M_move_26 : decode prog_14_method_65_code 26 = .ok (.iconst 2, 1) := by decide +kernel
theorem d_M_move_27 : decode prog_14_method_65_code 27 = .ok (.if_icmp .ne 58, 3) := by decide +kernel
theorem d_M_move_30 : decode prog_14_method_65_code 30 = .ok (.aload_n 0, 1) := by decide +kernel
theorem d_M_move_31 : decode prog_14_method_65_code 31 = .ok (.getfield 45, 3) := by decide +kernel
theorem d_M_move_34 : decode prog_14_method_65_code 34 = .ok (.iload_n 1, 1) := by decide +kernel
theorem d_M_move_35 : decode prog_14_method_65_code 35 = .ok (.iaload, 1) := by decide +kernel
theorem d_M_move_36 : decode prog_14_method_65_code 36 = .ok (.sipush 300, 3) := by decide +kernel
theorem d_M_move_39 : decode prog_14_method_65_code 39 = .ok (.if_icmp .eq 11, 3) := by decide +kernel
theorem d_M_move_42 : decode prog_14_method_65_code 42 = .ok (.aload_n 0, 1) := by decide +kernel
theorem d_M_move_43 : decode prog_14_method_65_code 43 = .ok (.iload_n 1, 1) := by decide +kernel
theorem d_M_move_44 : decode prog_14_method_65_code 44 = .ok (.invokevirtual 296, 3) := by decide +kernel
theorem d_M_move_47 : decode prog_14_method_65_code 47 = .ok (.ifCond .eq 38, 3) := by decide +kernel
theorem d_M_move_50 : decode prog_14_method_65_code 50 = .ok (.aload_n 0, 1) := by decide +kernel
theorem d_M_move_51 : decode prog_14_method_65_code 51 = .ok (.getfield 45, 3) := by decide +kernel
theorem d_M_move_54 : decode prog_14_method_65_code 54 = .ok (.iload_n 1, 1) := by decide +kernel
theorem d_M_move_55 : decode prog_14_method_65_code 55 = .ok (.iaload, 1) := by decide +kernel
theorem d_M_move_56 : decode prog_14_method_65_code 56 = .ok (.sipush 400, 3) := by decide +kernel
theorem d_M_move_59 : decode prog_14_method_65_code 59 = .ok (.iload_n 2, 1) := by decide +kernel
theorem d_M_move_60 : decode prog_14_method_65_code 60 = .ok (.iadd, 1) := by decide +kernel
theorem d_M_move_61 : decode prog_14_method_65_code 61 = .ok (.if_icmp .eq 24, 3) := by decide +kernel
theorem d_M_move_64 : decode prog_14_method_65_code 64 = .ok (.aload_n 0, 1) := by decide +kernel
theorem d_M_move_65 : decode prog_14_method_65_code 65 = .ok (.iload_n 2, 1) := by decide +kernel
theorem d_M_move_66 : decode prog_14_method_65_code 66 = .ok (.invokevirtual 302, 3) := by decide +kernel
theorem d_M_move_69 : decode prog_14_method_65_code 69 = .ok (.aload_n 0, 1) := by decide +kernel
theorem d_M_move_70 : decode prog_14_method_65_code 70 = .ok (.getfield 39, 3) := by decide +kernel
theorem d_M_move_73 : decode prog_14_method_65_code 73 = .ok (.iload_n 1, 1) := by decide +kernel
theorem d_M_move_74 : decode prog_14_method_65_code 74 = .ok (.iaload, 1) := by decide +kernel
theorem d_M_move_75 : decode prog_14_method_65_code 75 = .ok (.iadd, 1) := by decide +kernel
theorem d_M_move_76 : decode prog_14_method_65_code 76 = .ok (.aload_n 0, 1) := by decide +kernel
theorem d_M_move_77 : decode prog_14_method_65_code 77 = .ok (.getfield 82, 3) := by decide +kernel
theorem d_M_move_80 : decode prog_14_method_65_code 80 = .ok (.iload_n 2, 1) := by decide +kernel
theorem d_M_move_81 : decode prog_14_method_65_code 81 = .ok (.iaload, 1) := by decide +kernel
theorem d_M_move_82 : decode prog_14_method_65_code 82 = .ok (.if_icmp .le 10, 3) := by decide +kernel
theorem d_M_move_85 : decode prog_14_method_65_code 85 = .ok (.aload_n 0, 1) := by decide +kernel
theorem d_M_move_86 : decode prog_14_method_65_code 86 = .ok (.bipush (-6), 2) := by decide +kernel
theorem d_M_move_88 : decode prog_14_method_65_code 88 = .ok (.invokevirtual 161, 3) := by decide +kernel
theorem d_M_move_91 : decode prog_14_method_65_code 91 = .ok (.ireturn, 1) := by decide +kernel
theorem d_M_move_92 : decode prog_14_method_65_code 92 = .ok (.aload_n 0, 1) := by decide +kernel
theorem d_M_move_93 : decode prog_14_method_65_code 93 = .ok (.iload_n 1, 1) := by decide +kernel
theorem d_M_move_94 : decode prog_14_method_65_code 94 = .ok (.iload_n 2, 1) := by decide +kernel
theorem d_M_move_95 : decode prog_14_method_65_code 95 = .ok (.invokevirtual 308, 3) := by decide +kernel
theorem d_M_move_98 : decode prog_14_method_65_code 98 = .ok (.istore_n 3, 1) := by decide +kernel
theorem d_M_move_99 : decode prog_14_method_65_code 99 = .ok (.iload_n 3, 1) := by decide +kernel
theorem d_M_move_100 : decode prog_14_method_65_code 100 = .ok (.aload_n 0, 1) := by decide +kernel
theorem d_M_move_101 : decode prog_14_method_65_code 101 = .ok (.getfield 292, 3) := by decide +kernel
theorem d_M_move_104 : decode prog_14_method_65_code 104 = .ok (.if_icmp .le 10, 3) := by decide +kernel
theorem d_M_move_107 : decode prog_14_method_65_code 107 = .ok (.aload_n 0, 1) := by decide +kernel
theorem d_M_move_108 : decode prog_14_method_65_code 108 = .ok (.bipush (-7), 2) := by decide +kernel
theorem d_M_move_110 : decode prog_14_method_65_code 110 = .ok (.invokevirtual 161, 3) := by decide +kernel
theorem d_M_move_113 : decode prog_14_method_65_code 113 = .ok (.ireturn, 1) := by decide +kernel
theorem d_M_move_114 : decode prog_14_method_65_code 114 = .ok (.aload_n 0, 1) := by decide +kernel
theorem d_M_move_115 : decode prog_14_method_65_code 115 = .ok (.dup, 1) := by decide +kernel
theorem d_M_move_116 : decode prog_14_method_65_code 116 = .ok (.getfield 292, 3) := by decide +kernel
theorem d_M_move_119 : decode prog_14_method_65_code 119 = .ok (.iload_n 3, 1) := by decide +kernel
theorem d_M_move_120 : decode prog_14_method_65_code 120 = .ok (.isub, 1) := by decide +kernel
theorem d_M_move_121 : decode prog_14_method_65_code 121 = .ok (.putfield 292, 3) := by decide +kernel
theorem d_M_move_124 : decode prog_14_method_65_code 124 = .ok (.aload_n 0, 1) := by decide +kernel
theorem d_M_move_125 : decode prog_14_method_65_code 125 = .ok (.iload_n 1, 1) := by decide +kernel
theorem d_M_move_126 : decode prog_14_method_65_code 126 = .ok (.sipush 400, 3) := by decide +kernel
theorem d_M_move_129 : decode prog_14_method_65_code 129 = .ok (.iload_n 2, 1) := by decide +kernel
theorem d_M_move_130 : decode prog_14_method_65_code 130 = .ok (.iadd, 1) := by decide +kernel
theorem d_M_move_131 : decode prog_14_method_65_code 131 = .ok (.invokevirtual 262, 3) := by decide +kernel
theorem d_M_move_134 : decode prog_14_method_65_code 134 = .ok (.aload_n 0, 1) := by decide +kernel
theorem d_M_move_135 : decode prog_14_method_65_code 135 = .ok (.getfield 292, 3) := by decide +kernel
theorem d_M_move_138 : decode prog_14_method_65_code 138 = .ok (.ireturn, 1) := by decide +kernel
theorem d_M_weeks_0 : decode prog_14_method_66_code 0 = .ok (.iload_n 1, 1) := by decide +kernel
theorem d_M_weeks_1 : decode prog_14_method_66_code 1 = .ok (.iconst 1, 1) := by decide +kernel
theorem d_M_weeks_2 : decode prog_14_method_66_code 2 = .ok (.if_icmp .lt 17, 3) := by decide +kernel
theorem d_M_weeks_5 : decode prog_14_method_66_code 5 = .ok (.iload_n 1, 1) := by decide +kernel
theorem d_M_weeks_6 : decode prog_14_method_66_code 6 = .ok (.bipush 60, 2) := by decide +kernel
theorem d_M_weeks_8 : decode prog_14_method_66_code 8 = .ok (.if_icmp .gt 11, 3) := by decide +kernel
theorem d_M_weeks_11 : decode prog_14_method_66_code 11 = .ok (.aload_n 0, 1) := by decide +kernel
theorem d_M_weeks_12 : decode prog_14_method_66_code 12 = .ok (.getfield 165, 3) := by decide +kernel
theorem d_M_weeks_15 : decode prog_14_method_66_code 15 = .ok (.iconst 2, 1) := by decide +kernel
theorem d_M_weeks_16 : decode prog_14_method_66_code 16 = .ok (.if_icmp .eq 10, 3) := by decide +kernel
theorem d_M_weeks_19 : decode prog_14_method_66_code 19 = .ok (.aload_n 0, 1) := by decide +kernel
theorem d_M_weeks_20 : decode prog_14_method_66_code 20 = .ok (.bipush (-6), 2) := by decide +kernel
theorem d_M_weeks_22 : decode prog_14_method_66_code 22 = .ok (.invokevirtual 161, 3) := by decide +kernel
theorem d_M_weeks_25 : decode prog_14_method_66_code 25 = .ok (.ireturn, 1) := by decide +kernel
theorem d_M_weeks_26 : decode prog_14_method_66_code 26 = .ok (.aload_n 0, 1) := by decide +kernel
theorem d_M_weeks_27 : decode prog_14_method_66_code 27 = .ok (.getfield 259, 3) := by decide +kernel
theorem d_M_weeks_30 : decode prog_14_method_66_code 30 = .ok (.iload_n 1, 1) := by decide +kernel
theorem d_M_weeks_31 : decode prog_14_method_66_code 31 = .ok (.iadd, 1) := by decide +kernel
theorem d_M_weeks_32 : decode prog_14_method_66_code 32 = .ok (.sipush 1000, 3) := by decide +kernel
theorem d_M_weeks_35 : decode prog_14_method_66_code 35 = .ok (.if_icmp .le 10, 3) := by decide +kernel
theorem d_M_weeks_38 : decode prog_14_method_66_code 38 = .ok (.aload_n 0, 1) := by decide +kernel
theorem d_M_weeks_39 : decode prog_14_method_66_code 39 = .ok (.bipush (-7), 2) := by decide +kernel
theorem d_M_weeks_41 : decode prog_14_method_66_code 41 = .ok (.invokevirtual 161, 3) := by decide +kernel
theorem d_M_weeks_44 : decode prog_14_method_66_code 44 = .ok (.ireturn, 1) := by decide +kernel
theorem d_M_weeks_45 : decode prog_14_method_66_code 45 = .ok (.iconst 0, 1) := by decide +kernel
theorem d_M_weeks_46 : decode prog_14_method_66_code 46 = .ok (.istore_n 2, 1) := by decide +kernel
theorem d_M_weeks_47 : decode prog_14_method_66_code 47 = .ok (.iload_n 2, 1) := by decide +kernel
theorem d_M_weeks_48 : decode prog_14_method_66_code 48 = .ok (.iload_n 1, 1) := by decide +kernel
theorem d_M_weeks_49 : decode prog_14_method_66_code 49 = .ok (.if_icmp .ge 221, 3) := by decide +kernel
theorem d_M_weeks_52 : decode prog_14_method_66_code 52 = .ok (.iconst 0, 1) := by decide +kernel
theorem d_M_weeks_53 : decode prog_14_method_66_code 53 = .ok (.istore_n 3, 1) := by decide +kernel
theorem d_M_weeks_54 : decode prog_14_method_66_code 54 = .ok (.iload_n 3, 1) := by decide +kernel
theorem d_M_weeks_55 : decode prog_14_method_66_code 55 = .ok (.aload_n 0, 1) := by decide +kernel
theorem d_M_weeks_56 : decode prog_14_method_66_code 56 = .ok (.getfield 151, 3) := by decide +kernel
theorem d_M_weeks_59 : decode prog_14_method_66_code 59 = .ok (.if_icmp .ge 195, 3) := by decide +kernel
theorem d_M_weeks_62 : decode prog_14_method_66_code 62 = .ok (.aload_n 0, 1) := by decide +kernel
theorem d_M_weeks_63 : decode prog_14_method_66_code 63 = .ok (.getfield 45, 3) := by decide +kernel
theorem d_M_weeks_66 : decode prog_14_method_66_code 66 = .ok (.iload_n 3, 1) := by decide +kernel
theorem d_M_weeks_67 : decode prog_14_method_66_code 67 = .ok (.iaload, 1) := by decide +kernel
theorem d_M_weeks_68 : decode prog_14_method_66_code 68 = .ok (.sipush 300, 3) := by decide +kernel
theorem d_M_weeks_71 : decode prog_14_method_66_code 71 = .ok (.if_icmp .ne 14, 3) := by decide +kernel
theorem d_M_weeks_74 : decode prog_14_method_66_code 74 = .ok (.aload_n 0, 1) := by decide +kernel
theorem d_M_weeks_75 : decode prog_14_method_66_code 75 = .ok (.getfield 48, 3) := by decide +kernel
theorem d_M_weeks_78 : decode prog_14_method_66_code 78 = .ok (.iload_n 3, 1) := by decide +kernel
theorem d_M_weeks_79 : decode prog_14_method_66_code 79 = .ok (.dup2, 1) := by decide +kernel
theorem d_M_weeks_80 : decode prog_14_method_66_code 80 = .ok (.iaload, 1) := by decide +kernel
theorem d_M_weeks_81 : decode prog_14_method_66_code 81 = .ok (.bipush 10, 2) := by decide +kernel
theorem d_M_weeks_83 : decode prog_14_method_66_code 83 = .ok (.iadd, 1) := by decide +kernel
theorem d_M_weeks_84 : decode prog_14_method_66_code 84 = .ok (.iastore, 1) := by decide +kernel
theorem d_M_weeks_85 : decode prog_14_method_66_code 85 = .ok (.aload_n 0, 1) := by decide +kernel
theorem d_M_weeks_86 : decode prog_14_method_66_code 86 = .ok (.iload_n 3, 1) := by decide +kernel
theorem d_M_weeks_87 : decode prog_14_method_66_code 87 = .ok (.invokevirtual 296, 3) := by decide +kernel
theorem d_M_weeks_90 : decode prog_14_method_66_code 90 = .ok (.ifCond .ne 6, 3) := by decide +kernel
theorem d_M_weeks_93 : decode prog_14_method_66_code 93 = .ok (.goto 155, 3) := by decide +kernel
theorem d_M_weeks_96 : decode prog_14_method_66_code 96 = .ok (.aload_n 0, 1) := by decide +kernel
theorem d_M_weeks_97 : decode prog_14_method_66_code 97 = .ok (.getfield 45, 3) := by decide +kernel
theorem d_M_weeks_100 : decode prog_14_method_66_code 100 = .ok (.iload_n 3, 1) := by decide +kernel
theorem d_M_weeks_101 : decode prog_14_method_66_code 101 = .ok (.iaload, 1) := by decide +kernel
theorem d_M_weeks_102 : decode prog_14_method_66_code 102 = .ok (.sipush 400, 3) := by decide +kernel
theorem d_M_weeks_105 : decode prog_14_method_66_code 105 = .ok (.isub, 1) := by decide +kernel
theorem d_M_weeks_106 : decode prog_14_method_66_code 106 = .ok (.istore 4, 2) := by decide +kernel
theorem d_M_weeks_108 : decode prog_14_method_66_code 108 = .ok (.aload_n 0, 1) := by decide +kernel
theorem d_M_weeks_109 : decode prog_14_method_66_code 109 = .ok (.iload 4, 2) := by decide +kernel
theorem d_M_weeks_111 : decode prog_14_method_66_code 111 = .ok (.aload_n 0, 1) := by decide +kernel
theorem d_M_weeks_112 : decode prog_14_method_66_code 112 = .ok (.getfield 259, 3) := by decide +kernel
theorem d_M_weeks_115 : decode prog_14_method_66_code 115 = .ok (.invokevirtual 285, 3) := by decide +kernel
theorem d_M_weeks_118 : decode prog_14_method_66_code 118 = .ok (.ifCond .eq 16, 3) := by decide +kernel
theorem d_M_weeks_121 : decode prog_14_method_66_code 121 = .ok (.aload_n 0, 1) := by decide +kernel
theorem d_M_weeks_122 : decode prog_14_method_66_code 122 = .ok (.getfield 48, 3) := by decide +kernel
theorem d_M_weeks_125 : decode prog_14_method_66_code 125 = .ok (.iload_n 3, 1) := by decide +kernel
theorem d_M_weeks_126 : decode prog_14_method_66_code 126 = .ok (.dup2, 1) := by decide +kernel
theorem d_M_weeks_127 : decode prog_14_method_66_code 127 = .ok (.iaload, 1) := by decide +kernel
theorem d_M_weeks_128 : decode prog_14_method_66_code 128 = .ok (.iconst 5, 1) := by decide +kernel
theorem d_M_weeks_129 : decode prog_14_method_66_code 129 = .ok (.iadd, 1) := by decide +kernel
theorem d_M_weeks_130 : decode prog_14_method_66_code 130 = .ok (.iastore, 1) := by decide +kernel
theorem d_M_weeks_131 : decode prog_14_method_66_code 131 = .ok (.goto 117, 3) := by decide +kernel
theorem d_M_weeks_134 : decode prog_14_method_66_code 134 = .ok (.aload_n 0, 1) := by decide +kernel
theorem d_M_weeks_135 : decode prog_14_method_66_code 135 = .ok (.iload 4, 2) := by decide +kernel
theorem d_M_weeks_137 : decode prog_14_method_66_code 137 = .ok (.aload_n 0, 1) := by decide +kernel
theorem d_M_weeks_138 : decode prog_14_method_66_code 138 = .ok (.getfield 259, 3) := by decide +kernel
theorem d_M_weeks_141 : decode prog_14_method_66_code 141 = .ok (.invokevirtual 288, 3) := by decide +kernel
theorem d_M_weeks_144 : decode prog_14_method_66_code 144 = .ok (.i2l, 1) := by decide +kernel
theorem d_M_weeks_145 : decode prog_14_method_66_code 145 = .ok (.lstore 5, 2) := by decide +kernel
theorem d_M_weeks_147 : decode prog_14_method_66_code 147 = .ok (.lload 5, 2) := by decide +kernel
theorem d_M_weeks_149 : decode prog_14_method_66_code 149 = .ok (.aload_n 0, 1) := by decide +kernel
theorem d_M_weeks_150 : decode prog_14_method_66_code 150 = .ok (.getfield 100, 3) := by decide +kernel
theorem d_M_weeks_153 : decode prog_14_method_66_code 153 = .ok (.aload_n 0, 1) := by decide +kernel
theorem d_M_weeks_154 : decode prog_14_method_66_code 154 = .ok (.getfield 33, 3) := by decide +kernel
theorem d_M_weeks_157 : decode prog_14_method_66_code 157 = .ok (.iload_n 3, 1) := by decide +kernel
theorem d_M_weeks_158 : decode prog_14_method_66_code 158 = .ok (.iaload, 1) := by decide +kernel
theorem d_M_weeks_159 : decode prog_14_method_66_code 159 = .ok (.iaload, 1) := by decide +kernel
theorem d_M_weeks_160 : decode prog_14_method_66_code 160 = .ok (.i2l, 1) := by decide +kernel
theorem d_M_weeks_161 : decode prog_14_method_66_code 161 = .ok (.lcmp, 1) := by decide +kernel
theorem d_M_weeks_162 : decode prog_14_method_66_code 162 = .ok (.ifCond .ge 21, 3) := by decide +kernel
theorem d_M_weeks_165 : decode prog_14_method_66_code 165 = .ok (.aload_n 0, 1) := by decide +kernel
theorem d_M_weeks_166 : decode prog_14_method_66_code 166 = .ok (.getfield 100, 3) := by decide +kernel
theorem d_M_weeks_169 : decode prog_14_method_66_code 169 = .ok (.aload_n 0, 1) := by decide +kernel
theorem d_M_weeks_170 : decode prog_14_method_66_code 170 = .ok (.getfield 33, 3) := by decide +kernel
theorem d_M_weeks_173 : decode prog_14_method_66_code 173 = .ok (.iload_n 3, 1) := by decide +kernel
theorem d_M_weeks_174 : decode prog_14_method_66_code 174 = .ok (.iaload, 1) := by decide +kernel
theorem d_M_weeks_175 : decode prog_14_method_66_code 175 = .ok (.iaload, 1) := by decide +kernel
theorem d_M_weeks_176 : decode prog_14_method_66_code 176 = .ok (.i2l, 1) := by decide +kernel
theorem d_M_weeks_177 : decode prog_14_method_66_code 177 = .ok (.lload 5, 2) := by decide +kernel
theorem d_M_weeks_179 : decode prog_14_method_66_code 179 = .ok (.lsub, 1) := by decide +kernel
theorem d_M_weeks_180 : decode prog_14_method_66_code 180 = .ok (.goto 40, 3) := by decide +kernel
theorem d_M_weeks_183 : decode prog_14_method_66_code 183 = .ok (.lload 5, 2) := by decide +kernel
theorem d_M_weeks_185 : decode prog_14_method_66_code 185 = .ok (.aload_n 0, 1) := by decide +kernel
theorem d_M_weeks_186 : decode prog_14_method_66_code 186 = .ok (.getfield 103, 3) := by decide +kernel
theorem d_M_weeks_189 : decode prog_14_method_66_code 189 = .ok (.aload_n 0, 1) := by decide +kernel
theorem d_M_weeks_190 : decode prog_14_method_66_code 190 = .ok (.getfield 33, 3) := by decide +kernel
theorem d_M_weeks_193 : decode prog_14_method_66_code 193 = .ok (.iload_n 3, 1) := by decide +kernel
theorem d_M_weeks_194 : decode prog_14_method_66_code 194 = .ok (.iaload, 1) := by decide +kernel
theorem d_M_weeks_195 : decode prog_14_method_66_code 195 = .ok (.iaload, 1) := by decide +kernel
theorem d_M_weeks_196 : decode prog_14_method_66_code 196 = .ok (.i2l, 1) := by decide +kernel
theorem d_M_weeks_197 : decode prog_14_method_66_code 197 = .ok (.lcmp, 1) := by decide +kernel
theorem d_M_weeks_198 : decode prog_14_method_66_code 198 = .ok (.ifCond .le 21, 3) := by decide +kernel
theorem d_M_weeks_201 : decode prog_14_method_66_code 201 = .ok (.lload 5, 2) := by decide +kernel
theorem d_M_weeks_203 : decode prog_14_method_66_code 203 = .ok (.aload_n 0, 1) := by decide +kernel
theorem d_M_weeks_204 : decode prog_14_method_66_code 204 = .ok (.getfield 103, 3) := by decide +kernel
theorem d_M_weeks_207 : decode prog_14_method_66_code 207 = .ok (.aload_n 0, 1) := by decide +kernel
theorem d_M_weeks_208 : decode prog_14_method_66_code 208 = .ok (.getfield 33, 3) := by decide +kernel
theorem d_M_weeks_211 : decode prog_14_method_66_code 211 = .ok (.iload_n 3, 1) := by decide +kernel
theorem d_M_weeks_212 : decode prog_14_method_66_code 212 = .ok (.iaload, 1) := by decide +kernel
theorem d_M_weeks_213 : decode prog_14_method_66_code 213 = .ok (.iaload, 1) := by decide +kernel
theorem d_M_weeks_214 : decode prog_14_method_66_code 214 = .ok (.i2l, 1) := by decide +kernel
theorem d_M_weeks_215 : decode prog_14_method_66_code 215 = .ok (.lsub, 1) := by decide +kernel
theorem d_M_weeks_216 : decode prog_14_method_66_code 216 = .ok (.goto 4, 3) := by decide +kernel
theorem d_M_weeks_219 : decode prog_14_method_66_code 219 = .ok (.lconst 0, 1) := by decide +kernel
theorem d_M_weeks_220 : decode prog_14_method_66_code 220 = .ok (.lstore 7, 2) := by decide +kernel
theorem d_M_weeks_222 : decode prog_14_method_66_code 222 = .ok (.aload_n 0, 1) := by decide +kernel
theorem d_M_weeks_223 : decode prog_14_method_66_code 223 = .ok (.getfield 48, 3) := by decide +kernel
theorem d_M_weeks_226 : decode prog_14_method_66_code 226 = .ok (.iload_n 3, 1) := by decide +kernel
theorem d_M_weeks_227 : decode prog_14_method_66_code 227 = .ok (.dup2, 1) := by decide +kernel
theorem d_M_weeks_228 : decode prog_14_method_66_code 228 = .ok (.iaload, 1) := by decide +kernel
theorem d_M_weeks_229 : decode prog_14_method_66_code 229 = .ok (.lload 7, 2) := by decide +kernel
theorem d_M_weeks_231 : decode prog_14_method_66_code 231 = .ok (.ldc2_w 311, 3) := by decide +kernel
theorem d_M_weeks_234 : decode prog_14_method_66_code 234 = .ok (.lcmp, 1) := by decide +kernel
theorem d_M_weeks_235 : decode prog_14_method_66_code 235 = .ok (.ifCond .le 8, 3) := by decide +kernel
theorem d_M_weeks_238 : decode prog_14_method_66_code 238 = .ok (.bipush 100, 2) := by decide +kernel
theorem d_M_weeks_240 : decode prog_14_method_66_code 240 = .ok (.goto 6, 3) := by decide +kernel
theorem d_M_weeks_243 : decode prog_14_method_66_code 243 = .ok (.lload 7, 2) := by decide +kernel
theorem d_M_weeks_245 : decode prog_14_method_66_code 245 = .ok (.l2i, 1) := by decide +kernel
theorem d_M_weeks_246 : decode prog_14_method_66_code 246 = .ok (.iadd, 1) := by decide +kernel
theorem d_M_weeks_247 : decode prog_14_method_66_code 247 = .ok (.iastore, 1) := by decide +kernel
theorem d_M_weeks_248 : decode prog_14_method_66_code 248 = .ok (.iinc 3 1, 3) := by decide +kernel
theorem d_M_weeks_251 : decode prog_14_method_66_code 251 = .ok (.goto (-197), 3) := by decide +kernel
theorem d_M_weeks_254 : decode prog_14_method_66_code 254 = .ok (.aload_n 0, 1) := by decide +kernel
theorem d_M_weeks_255 : decode prog_14_method_66_code 255 = .ok (.dup, 1) := by decide +kernel
theorem d_M_weeks_256 : decode prog_14_method_66_code 256 = .ok (.getfield 259, 3) := by decide +kernel
theorem d_M_weeks_259 : decode prog_14_method_66_code 259 = .ok (.iconst 1, 1) := by decide +kernel
theorem d_M_weeks_260 : decode prog_14_method_66_code 260 = .ok (.iadd, 1) := by decide +kernel
theorem d_M_weeks_261 : decode prog_14_method_66_code 261 = .ok (.putfield 259, 3) := by decide +kernel
theorem d_M_weeks_264 : decode prog_14_method_66_code 264 = .ok (.iinc 2 1, 3) := by decide +kernel
theorem d_M_weeks_267 : decode prog_14_method_66_code 267 = .ok (.goto (-220), 3) := by decide +kernel
theorem d_M_weeks_270 : decode prog_14_method_66_code 270 = .ok (.aload_n 0, 1) := by decide +kernel
theorem d_M_weeks_271 : decode prog_14_method_66_code 271 = .ok (.getfield 259, 3) := by decide +kernel
theorem d_M_weeks_274 : decode prog_14_method_66_code 274 = .ok (.ireturn, 1) := by decide +kernel
theorem d_M_lose_0 : decode prog_14_method_67_code 0 = .ok (.iload_n 1, 1) := by decide +kernel
theorem d_M_lose_1 : decode prog_14_method_67_code 1 = .ok (.ifCond .lt 8, 3) := by decide +kernel
theorem d_M_lose_4 : decode prog_14_method_67_code 4 = .ok (.iload_n 1, 1) := by decide +kernel
theorem d_M_lose_5 : decode prog_14_method_67_code 5 = .ok (.iconst 3, 1) := by decide +kernel
theorem d_M_lose_6 : decode prog_14_method_67_code 6 = .ok (.if_icmp .le 9, 3) := by decide +kernel
theorem d_M_lose_9 : decode prog_14_method_67_code 9 = .ok (.aload_n 0, 1) := by decide +kernel
theorem d_M_lose_10 : decode prog_14_method_67_code 10 = .ok (.iconst (-1), 1) := by decide +kernel
theorem d_M_lose_11 : decode prog_14_method_67_code 11 = .ok (.invokevirtual 161, 3) := by decide +kernel
theorem d_M_lose_14 : decode prog_14_method_67_code 14 = .ok (.ireturn, 1) := by decide +kernel
theorem d_M_lose_15 : decode prog_14_method_67_code 15 = .ok (.aload_n 0, 1) := by decide +kernel
theorem d_M_lose_16 : decode prog_14_method_67_code 16 = .ok (.getfield 165, 3) := by decide +kernel
theorem d_M_lose_19 : decode prog_14_method_67_code 19 = .ok (.iconst 2, 1) := by decide +kernel
theorem d_M_lose_20 : decode prog_14_method_67_code 20 = .ok (.if_icmp .eq 10, 3) := by decide +kernel
theorem d_M_lose_23 : decode prog_14_method_67_code 23 = .ok (.aload_n 0, 1) := by decide +kernel
theorem d_M_lose_24 : decode prog_14_method_67_code 24 = .ok (.bipush (-6), 2) := by decide +kernel
theorem d_M_lose_26 : decode prog_14_method_67_code 26 = .ok (.invokevirtual 161, 3) := by decide +kernel
theorem d_M_lose_29 : decode prog_14_method_67_code 29 = .ok (.ireturn, 1) := by decide +kernel
theorem d_M_lose_30 : decode prog_14_method_67_code 30 = .ok (.iconst 0, 1) := by decide +kernel
theorem d_M_lose_31 : decode prog_14_method_67_code 31 = .ok (.istore_n 2, 1) := by decide +kernel
theorem d_M_lose_32 : decode prog_14_method_67_code 32 = .ok (.iconst 0, 1) := by decide +kernel
theorem d_M_lose_33 : decode prog_14_method_67_code 33 = .ok (.istore_n 3, 1) := by decide +kernel
theorem d_M_lose_34 : decode prog_14_method_67_code 34 = .ok (.iload_n 3, 1) := by decide +kernel
theorem d_M_lose_35 : decode prog_14_method_67_code 35 = .ok (.aload_n 0, 1) := by decide +kernel
theorem d_M_lose_36 : decode prog_14_method_67_code 36 = .ok (.getfield 151, 3) := by decide +kernel
theorem d_M_lose_39 : decode prog_14_method_67_code 39 = .ok (.if_icmp .ge 47, 3) := by decide +kernel
theorem d_M_lose_42 : decode prog_14_method_67_code 42 = .ok (.aload_n 0, 1) := by decide +kernel
theorem d_M_lose_43 : decode prog_14_method_67_code 43 = .ok (.iload_n 3, 1) := by decide +kernel
theorem d_M_lose_44 : decode prog_14_method_67_code 44 = .ok (.invokevirtual 296, 3) := by decide +kernel
theorem d_M_lose_47 : decode prog_14_method_67_code 47 = .ok (.ifCond .eq 33, 3) := by decide +kernel
theorem d_M_lose_50 : decode prog_14_method_67_code 50 = .ok (.aload_n 0, 1) := by decide +kernel
theorem d_M_lose_51 : decode prog_14_method_67_code 51 = .ok (.getfield 85, 3) := by decide +kernel
theorem d_M_lose_54 : decode prog_14_method_67_code 54 = .ok (.aload_n 0, 1) := by decide +kernel
theorem d_M_lose_55 : decode prog_14_method_67_code 55 = .ok (.getfield 45, 3) := by decide +kernel
theorem d_M_lose_58 : decode prog_14_method_67_code 58 = .ok (.iload_n 3, 1) := by decide +kernel
theorem d_M_lose_59 : decode prog_14_method_67_code 59 = .ok (.iaload, 1) := by decide +kernel
theorem d_M_lose_60 : decode prog_14_method_67_code 60 = .ok (.sipush 400, 3) := by decide +kernel
theorem d_M_lose_63 : decode prog_14_method_67_code 63 = .ok (.isub, 1) := by decide +kernel
theorem d_M_lose_64 : decode prog_14_method_67_code 64 = .ok (.iaload, 1) := by decide +kernel
theorem d_M_lose_65 : decode prog_14_method_67_code 65 = .ok (.iload_n 1, 1) := by decide +kernel
theorem d_M_lose_66 : decode prog_14_method_67_code 66 = .ok (.if_icmp .ne 14, 3) := by decide +kernel
theorem d_M_lose_69 : decode prog_14_method_67_code 69 = .ok (.aload_n 0, 1) := by decide +kernel
theorem d_M_lose_70 : decode prog_14_method_67_code 70 = .ok (.iload_n 3, 1) := by decide +kernel
theorem d_M_lose_71 : decode prog_14_method_67_code 71 = .ok (.sipush 500, 3) := by decide +kernel
theorem d_M_lose_74 : decode prog_14_method_67_code 74 = .ok (.invokevirtual 262, 3) := by decide +kernel
theorem d_M_lose_77 : decode prog_14_method_67_code 77 = .ok (.iinc 2 1, 3) := by decide +kernel
theorem d_M_lose_80 : decode prog_14_method_67_code 80 = .ok (.iinc 3 1, 3) := by decide +kernel
theorem d_M_lose_83 : decode prog_14_method_67_code 83 = .ok (.goto (-49), 3) := by decide +kernel
theorem d_M_lose_86 : decode prog_14_method_67_code 86 = .ok (.iload_n 2, 1) := by decide +kernel
theorem d_M_lose_87 : decode prog_14_method_67_code 87 = .ok (.ireturn, 1) := by decide +kernel
theorem d_M_found_0 : decode prog_14_method_68_code 0 = .ok (.aload_n 0, 1) := by decide +kernel
theorem d_M_found_1 : decode prog_14_method_68_code 1 = .ok (.iload_n 1, 1) := by decide +kernel
theorem d_M_found_2 : decode prog_14_method_68_code 2 = .ok (.invokevirtual 204, 3) := by decide +kernel
theorem d_M_found_5 : decode prog_14_method_68_code 5 = .ok (.ifCond .ne 9, 3) := by decide +kernel
theorem d_M_found_8 : decode prog_14_method_68_code 8 = .ok (.aload_n 0, 1) := by decide +kernel
theorem d_M_found_9 : decode prog_14_method_68_code 9 = .ok (.iconst (-1), 1) := by decide +kernel
theorem d_M_found_10 : decode prog_14_method_68_code 10 = .ok (.invokevirtual 161, 3) := by decide +kernel
theorem d_M_found_13 : decode prog_14_method_68_code 13 = .ok (.ireturn, 1) := by decide +kernel
theorem d_M_found_14 : decode prog_14_method_68_code 14 = .ok (.aload_n 0, 1) := by decide +kernel
theorem d_M_found_15 : decode prog_14_method_68_code 15 = .ok (.getfield 165, 3) := by decide +kernel
theorem d_M_found_18 : decode prog_14_method_68_code 18 = .ok (.iconst 2, 1) := by decide +kernel
theorem d_M_found_19 : decode prog_14_method_68_code 19 = .ok (.if_icmp .ne 15, 3) := by decide +kernel
theorem d_M_found_22 : decode prog_14_method_68_code 22 = .ok (.aload_n 0, 1) := by decide +kernel
theorem d_M_found_23 : decode prog_14_method_68_code 23 = .ok (.getfield 45, 3) := by decide +kernel
theorem d_M_found_26 : decode prog_14_method_68_code 26 = .ok (.iload_n 1, 1) := by decide +kernel
theorem d_M_found_27 : decode prog_14_method_68_code 27 = .ok (.iaload, 1) := by decide +kernel
theorem d_M_found_28 : decode prog_14_method_68_code 28 = .ok (.sipush 500, 3) := by decide +kernel
theorem d_M_found_31 : decode prog_14_method_68_code 31 = .ok (.if_icmp .eq 10, 3) := by decide +kernel
theorem d_M_found_34 : decode prog_14_method_68_code 34 = .ok (.aload_n 0, 1) := by decide +kernel
theorem d_M_found_35 : decode prog_14_method_68_code 35 = .ok (.bipush (-6), 2) := by decide +kernel
theorem d_M_found_37 : decode prog_14_method_68_code 37 = .ok (.invokevirtual 161, 3) := by decide +kernel
theorem d_M_found_40 : decode prog_14_method_68_code 40 = .ok (.ireturn, 1) := by decide +kernel
theorem d_M_found_41 : decode prog_14_method_68_code 41 = .ok (.aload_n 0, 1) := by decide +kernel
theorem d_M_found_42 : decode prog_14_method_68_code 42 = .ok (.iload_n 1, 1) := by decide +kernel
theorem d_M_found_43 : decode prog_14_method_68_code 43 = .ok (.sipush 300, 3) := by decide +kernel
theorem d_M_found_46 : decode prog_14_method_68_code 46 = .ok (.invokevirtual 262, 3) := by decide +kernel
theorem d_M_found_49 : decode prog_14_method_68_code 49 = .ok (.iconst 1, 1) := by decide +kernel
theorem d_M_found_50 : decode prog_14_method_68_code 50 = .ok (.ireturn, 1) := by decide +kernel
theorem d_M_paper_0 : decode prog_14_method_69_code 0 = .ok (.aload_n 0, 1) := by decide +kernel
theorem d_M_paper_1 : decode prog_14_method_69_code 1 = .ok (.iload_n 1, 1) := by decide +kernel
theorem d_M_paper_2 : decode prog_14_method_69_code 2 = .ok (.invokevirtual 204, 3) := by decide +kernel
theorem d_M_paper_5 : decode prog_14_method_69_code 5 = .ok (.ifCond .ne 9, 3) := by decide +kernel
theorem d_M_paper_8 : decode prog_14_method_69_code 8 = .ok (.aload_n 0, 1) := by decide +kernel
theorem d_M_paper_9 : decode prog_14_method_69_code 9 = .ok (.iconst (-1), 1) := by decide +kernel
theorem d_M_paper_10 : decode prog_14_method_69_code 10 = .ok (.invokevirtual 161, 3) := by decide +kernel
theorem d_M_paper_13 : decode prog_14_method_69_code 13 = .ok (.ireturn, 1) := by decide +kernel
theorem d_M_paper_14 : decode prog_14_method_69_code 14 = .ok (.iload_n 2, 1) := by decide +kernel
theorem d_M_paper_15 : decode prog_14_method_69_code 15 = .ok (.ifCond .lt 27, 3) := by decide +kernel
theorem d_M_paper_18 : decode prog_14_method_69_code 18 = .ok (.iload_n 2, 1) := by decide +kernel
theorem d_M_paper_19 : decode prog_14_method_69_code 19 = .ok (.bipush 9, 2) := by decide +kernel
theorem d_M_paper_21 : decode prog_14_method_69_code 21 = .ok (.if_icmp .gt 21, 3) := by decide +kernel
theorem d_M_paper_24 : decode prog_14_method_69_code 24 = .ok (.iload_n 3, 1) := by decide +kernel
theorem d_M_paper_25 : decode prog_14_method_69_code 25 = .ok (.ifCond .lt 17, 3) := by decide +kernel
theorem d_M_paper_28 : decode prog_14_method_69_code 28 = .ok (.iload_n 3, 1) := by decide +kernel
theorem d_M_paper_29 : decode prog_14_method_69_code 29 = .ok (.iload 4, 2) := by decide +kernel
theorem d_M_paper_31 : decode prog_14_method_69_code 31 = .ok (.if_icmp .gt 11, 3) := by decide +kernel
theorem d_M_paper_34 : decode prog_14_method_69_code 34 = .ok (.iload 4, 2) := by decide +kernel
theorem d_M_paper_36 : decode prog_14_method_69_code 36 = .ok (.sipush 200, 3) := by decide +kernel
theorem d_M_paper_39 : decode prog_14_method_69_code 39 = .ok (.if_icmp .le 10, 3) := by decide +kernel
theorem d_M_paper_42 : decode prog_14_method_69_code 42 = .ok (.aload_n 0, 1) := by decide +kernel
theorem d_M_paper_43 : decode prog_14_method_69_code 43 = .ok (.bipush (-6), 2) := by decide +kernel
theorem d_M_paper_45 : decode prog_14_method_69_code 45 = .ok (.invokevirtual 161, 3) := by decide +kernel
theorem d_M_paper_48 : decode prog_14_method_69_code 48 = .ok (.ireturn, 1) := by decide +kernel
theorem d_M_paper_49 : decode prog_14_method_69_code 49 = .ok (.aload_n 0, 1) := by decide +kernel
theorem d_M_paper_50 : decode prog_14_method_69_code 50 = .ok (.getfield 51, 3) := by decide +kernel
theorem d_M_paper_53 : decode prog_14_method_69_code 53 = .ok (.iload_n 1, 1) := by decide +kernel
theorem d_M_paper_54 : decode prog_14_method_69_code 54 = .ok (.iaload, 1) := by decide +kernel
theorem d_M_paper_55 : decode prog_14_method_69_code 55 = .ok (.bipush 6, 2) := by decide +kernel
theorem d_M_paper_57 : decode prog_14_method_69_code 57 = .ok (.if_icmp .ne 10, 3) := by decide +kernel
theorem d_M_paper_60 : decode prog_14_method_69_code 60 = .ok (.aload_n 0, 1) := by decide +kernel
theorem d_M_paper_61 : decode prog_14_method_69_code 61 = .ok (.bipush (-7), 2) := by decide +kernel
theorem d_M_paper_63 : decode prog_14_method_69_code 63 = .ok (.invokevirtual 161, 3) := by decide +kernel
theorem d_M_paper_66 : decode prog_14_method_69_code 66 = .ok (.ireturn, 1) := by decide +kernel
theorem d_M_paper_67 : decode prog_14_method_69_code 67 = .ok (.bipush 6, 2) := by decide +kernel
theorem d_M_paper_69 : decode prog_14_method_69_code 69 = .ok (.iload_n 1, 1) := by decide +kernel
theorem d_M_paper_70 : decode prog_14_method_69_code 70 = .ok (.imul, 1) := by decide +kernel
theorem d_M_paper_71 : decode prog_14_method_69_code 71 = .ok (.aload_n 0, 1) := by decide +kernel
theorem d_M_paper_72 : decode prog_14_method_69_code 72 = .ok (.getfield 51, 3) := by decide +kernel
theorem d_M_paper_75 : decode prog_14_method_69_code 75 = .ok (.iload_n 1, 1) := by decide +kernel
theorem d_M_paper_76 : decode prog_14_method_69_code 76 = .ok (.iaload, 1) := by decide +kernel
theorem d_M_paper_77 : decode prog_14_method_69_code 77 = .ok (.iadd, 1) := by decide +kernel
theorem d_M_paper_78 : decode prog_14_method_69_code 78 = .ok (.istore 5, 2) := by decide +kernel
theorem d_M_paper_80 : decode prog_14_method_69_code 80 = .ok (.aload_n 0, 1) := by decide +kernel
theorem d_M_paper_81 : decode prog_14_method_69_code 81 = .ok (.getfield 109, 3) := by decide +kernel
theorem d_M_paper_84 : decode prog_14_method_69_code 84 = .ok (.iload 5, 2) := by decide +kernel
theorem d_M_paper_86 : decode prog_14_method_69_code 86 = .ok (.iload_n 2, 1) := by decide +kernel
theorem d_M_paper_87 : decode prog_14_method_69_code 87 = .ok (.iastore, 1) := by decide +kernel
theorem d_M_paper_88 : decode prog_14_method_69_code 88 = .ok (.aload_n 0, 1) := by decide +kernel
theorem d_M_paper_89 : decode prog_14_method_69_code 89 = .ok (.getfield 112, 3) := by decide +kernel
theorem d_M_paper_92 : decode prog_14_method_69_code 92 = .ok (.iload 5, 2) := by decide +kernel
theorem d_M_paper_94 : decode prog_14_method_69_code 94 = .ok (.iload_n 3, 1) := by decide +kernel
theorem d_M_paper_95 : decode prog_14_method_69_code 95 = .ok (.iastore, 1) := by decide +kernel
theorem d_M_paper_96 : decode prog_14_method_69_code 96 = .ok (.aload_n 0, 1) := by decide +kernel
theorem d_M_paper_97 : decode prog_14_method_69_code 97 = .ok (.getfield 115, 3) := by decide +kernel
theorem d_M_paper_100 : decode prog_14_method_69_code 100 = .ok (.iload 5, 2) := by decide +kernel
theorem d_M_paper_102 : decode prog_14_method_69_code 102 = .ok (.iload 4, 2) := by decide +kernel
theorem d_M_paper_104 : decode prog_14_method_69_code 104 = .ok (.iastore, 1) := by decide +kernel
theorem d_M_paper_105 : decode prog_14_method_69_code 105 = .ok (.aload_n 0, 1) := by decide +kernel
theorem d_M_paper_106 : decode prog_14_method_69_code 106 = .ok (.getfield 51, 3) := by decide +kernel
theorem d_M_paper_109 : decode prog_14_method_69_code 109 = .ok (.iload_n 1, 1) := by decide +kernel
theorem d_M_paper_110 : decode prog_14_method_69_code 110 = .ok (.dup2, 1) := by decide +kernel
theorem d_M_paper_111 : decode prog_14_method_69_code 111 = .ok (.iaload, 1) := by decide +kernel
theorem d_M_paper_112 : decode prog_14_method_69_code 112 = .ok (.iconst 1, 1) := by decide +kernel
theorem d_M_paper_113 : decode prog_14_method_69_code 113 = .ok (.iadd, 1) := by decide +kernel
theorem d_M_paper_114 : decode prog_14_method_69_code 114 = .ok (.dup_x2, 1) := by decide +kernel
theorem d_M_paper_115 : decode prog_14_method_69_code 115 = .ok (.iastore, 1) := by decide +kernel
theorem d_M_paper_116 : decode prog_14_method_69_code 116 = .ok (.ireturn, 1) := by decide +kernel
theorem d_M_holder_0 : decode prog_14_method_70_code 0 = .ok (.aload_n 0, 1) := by decide +kernel
theorem d_M_holder_1 : decode prog_14_method_70_code 1 = .ok (.iload_n 1, 1) := by decide +kernel
theorem d_M_holder_2 : decode prog_14_method_70_code 2 = .ok (.invokevirtual 204, 3) := by decide +kernel
theorem d_M_holder_5 : decode prog_14_method_70_code 5 = .ok (.ifCond .ne 5, 3) := by decide +kernel
theorem d_M_holder_8 : decode prog_14_method_70_code 8 = .ok (.iconst (-1), 1) := by decide +kernel
theorem d_M_holder_9 : decode prog_14_method_70_code 9 = .ok (.ireturn, 1) := by decide +kernel
theorem d_M_holder_10 : decode prog_14_method_70_code 10 = .ok (.iconst (-1), 1) := by decide +kernel
theorem d_M_holder_11 : decode prog_14_method_70_code 11 = .ok (.istore_n 3, 1) := by decide +kernel
theorem d_M_holder_12 : decode prog_14_method_70_code 12 = .ok (.iconst 0, 1) := by decide +kernel
theorem d_M_holder_13 : decode prog_14_method_70_code 13 = .ok (.istore 4, 2) := by decide +kernel
theorem d_M_holder_15 : decode prog_14_method_70_code 15 = .ok (.iload 4, 2) := by decide +kernel
theorem d_M_holder_17 : decode prog_14_method_70_code 17 = .ok (.aload_n 0, 1) := by decide +kernel
theorem d_M_holder_18 : decode prog_14_method_70_code 18 = .ok (.getfield 51, 3) := by decide +kernel
theorem d_M_holder_21 : decode prog_14_method_70_code 21 = .ok (.iload_n 1, 1) := by decide +kernel
theorem d_M_holder_22 : decode prog_14_method_70_code 22 = .ok (.iaload, 1) := by decide +kernel
theorem d_M_holder_23 : decode prog_14_method_70_code 23 = .ok (.if_icmp .ge 70, 3) := by decide +kernel
theorem d_M_holder_26 : decode prog_14_method_70_code 26 = .ok (.bipush 6, 2) := by decide +kernel
theorem d_M_holder_28 : decode prog_14_method_70_code 28 = .ok (.iload_n 1, 1) := by decide +kernel
theorem d_M_holder_29 : decode prog_14_method_70_code 29 = .ok (.imul, 1) := by decide +kernel
theorem d_M_holder_30 : decode prog_14_method_70_code 30 = .ok (.iload 4, 2) := by decide +kernel
theorem d_M_holder_32 : decode prog_14_method_70_code 32 = .ok (.iadd, 1) := by decide +kernel
theorem d_M_holder_33 : decode prog_14_method_70_code 33 = .ok (.istore 5, 2) := by decide +kernel
theorem d_M_holder_35 : decode prog_14_method_70_code 35 = .ok (.iload_n 2, 1) := by decide +kernel
theorem d_M_holder_36 : decode prog_14_method_70_code 36 = .ok (.aload_n 0, 1) := by decide +kernel
theorem d_M_holder_37 : decode prog_14_method_70_code 37 = .ok (.getfield 112, 3) := by decide +kernel
theorem d_M_holder_40 : decode prog_14_method_70_code 40 = .ok (.iload 5, 2) := by decide +kernel
theorem d_M_holder_42 : decode prog_14_method_70_code 42 = .ok (.iaload, 1) := by decide +kernel
theorem d_M_holder_43 : decode prog_14_method_70_code 43 = .ok (.if_icmp .lt 44, 3) := by decide +kernel
theorem d_M_holder_46 : decode prog_14_method_70_code 46 = .ok (.iload_n 2, 1) := by decide +kernel
theorem d_M_holder_47 : decode prog_14_method_70_code 47 = .ok (.aload_n 0, 1) := by decide +kernel
theorem d_M_holder_48 : decode prog_14_method_70_code 48 = .ok (.getfield 115, 3) := by decide +kernel
theorem d_M_holder_51 : decode prog_14_method_70_code 51 = .ok (.iload 5, 2) := by decide +kernel
theorem d_M_holder_53 : decode prog_14_method_70_code 53 = .ok (.iaload, 1) := by decide +kernel
theorem d_M_holder_54 : decode prog_14_method_70_code 54 = .ok (.if_icmp .le 6, 3) := by decide +kernel
theorem d_M_holder_57 : decode prog_14_method_70_code 57 = .ok (.goto 30, 3) := by decide +kernel
theorem d_M_holder_60 : decode prog_14_method_70_code 60 = .ok (.iload_n 3, 1) := by decide +kernel
theorem d_M_holder_61 : decode prog_14_method_70_code 61 = .ok (.iconst (-1), 1) := by decide +kernel
theorem d_M_holder_62 : decode prog_14_method_70_code 62 = .ok (.if_icmp .eq 17, 3) := by decide +kernel
theorem d_M_holder_65 : decode prog_14_method_70_code 65 = .ok (.iload_n 3, 1) := by decide +kernel
theorem d_M_holder_66 : decode prog_14_method_70_code 66 = .ok (.aload_n 0, 1) := by decide +kernel
theorem d_M_holder_67 : decode prog_14_method_70_code 67 = .ok (.getfield 109, 3) := by decide +kernel
theorem d_M_holder_70 : decode prog_14_method_70_code 70 = .ok (.iload 5, 2) := by decide +kernel
theorem d_M_holder_72 : decode prog_14_method_70_code 72 = .ok (.iaload, 1) := by decide +kernel
theorem d_M_holder_73 : decode prog_14_method_70_code 73 = .ok (.if_icmp .eq 6, 3) := by decide +kernel
theorem d_M_holder_76 : decode prog_14_method_70_code 76 = .ok (.bipush 100, 2) := by decide +kernel
theorem d_M_holder_78 : decode prog_14_method_70_code 78 = .ok (.ireturn, 1) := by decide +kernel
theorem d_M_holder_79 : decode prog_14_method_70_code 79 = .ok (.aload_n 0, 1) := by decide +kernel
theorem d_M_holder_80 : decode prog_14_method_70_code 80 = .ok (.getfield 109, 3) := by decide +kernel
theorem d_M_holder_83 : decode prog_14_method_70_code 83 = .ok (.iload 5, 2) := by decide +kernel
theorem d_M_holder_85 : decode prog_14_method_70_code 85 = .ok (.iaload, 1) := by decide +kernel
theorem d_M_holder_86 : decode prog_14_method_70_code 86 = .ok (.istore_n 3, 1) := by decide +kernel
theorem d_M_holder_87 : decode prog_14_method_70_code 87 = .ok (.iinc 4 1, 3) := by decide +kernel
theorem d_M_holder_90 : decode prog_14_method_70_code 90 = .ok (.goto (-75), 3) := by decide +kernel
theorem d_M_holder_93 : decode prog_14_method_70_code 93 = .ok (.iload_n 3, 1) := by decide +kernel
theorem d_M_holder_94 : decode prog_14_method_70_code 94 = .ok (.ireturn, 1) := by decide +kernel
theorem d_M_giveBack_0 : decode prog_14_method_71_code 0 = .ok (.aload_n 0, 1) := by decide +kernel
theorem d_M_giveBack_1 : decode prog_14_method_71_code 1 = .ok (.iload_n 1, 1) := by decide +kernel
theorem d_M_giveBack_2 : decode prog_14_method_71_code 2 = .ok (.invokevirtual 204, 3) := by decide +kernel
theorem d_M_giveBack_5 : decode prog_14_method_71_code 5 = .ok (.ifCond .ne 9, 3) := by decide +kernel
theorem d_M_giveBack_8 : decode prog_14_method_71_code 8 = .ok (.aload_n 0, 1) := by decide +kernel
theorem d_M_giveBack_9 : decode prog_14_method_71_code 9 = .ok (.iconst (-1), 1) := by decide +kernel
theorem d_M_giveBack_10 : decode prog_14_method_71_code 10 = .ok (.invokevirtual 161, 3) := by decide +kernel
theorem d_M_giveBack_13 : decode prog_14_method_71_code 13 = .ok (.ireturn, 1) := by decide +kernel
theorem d_M_giveBack_14 : decode prog_14_method_71_code 14 = .ok (.aload_n 0, 1) := by decide +kernel
theorem d_M_giveBack_15 : decode prog_14_method_71_code 15 = .ok (.iload_n 1, 1) := by decide +kernel
theorem d_M_giveBack_16 : decode prog_14_method_71_code 16 = .ok (.iload_n 2, 1) := by decide +kernel
theorem d_M_giveBack_17 : decode prog_14_method_71_code 17 = .ok (.invokevirtual 313, 3) := by decide +kernel
theorem d_M_giveBack_20 : decode prog_14_method_71_code 20 = .ok (.istore_n 3, 1) := by decide +kernel
theorem d_M_giveBack_21 : decode prog_14_method_71_code 21 = .ok (.aload_n 0, 1) := by decide +kernel
theorem d_M_giveBack_22 : decode prog_14_method_71_code 22 = .ok (.getfield 165, 3) := by decide +kernel
theorem d_M_giveBack_25 : decode prog_14_method_71_code 25 = .ok (.iconst 2, 1) := by decide +kernel
theorem d_M_giveBack_26 : decode prog_14_method_71_code 26 = .ok (.if_icmp .ne 34, 3) := by decide +kernel
theorem d_M_giveBack_29 : decode prog_14_method_71_code 29 = .ok (.aload_n 0, 1) := by decide +kernel
theorem d_M_giveBack_30 : decode prog_14_method_71_code 30 = .ok (.getfield 45, 3) := by decide +kernel
theorem d_M_giveBack_33 : decode prog_14_method_71_code 33 = .ok (.iload_n 1, 1) := by decide +kernel
theorem d_M_giveBack_34 : decode prog_14_method_71_code 34 = .ok (.iaload, 1) := by decide +kernel
theorem d_M_giveBack_35 : decode prog_14_method_71_code 35 = .ok (.sipush 300, 3) := by decide +kernel
theorem d_M_giveBack_38 : decode prog_14_method_71_code 38 = .ok (.if_icmp .eq 11, 3) := by decide +kernel
theorem d_M_giveBack_41 : decode prog_14_method_71_code 41 = .ok (.aload_n 0, 1) := by decide +kernel
theorem d_M_giveBack_42 : decode prog_14_method_71_code 42 = .ok (.iload_n 1, 1) := by decide +kernel
theorem d_M_giveBack_43 : decode prog_14_method_71_code 43 = .ok (.invokevirtual 296, 3) := by decide +kernel
theorem d_M_giveBack_46 : decode prog_14_method_71_code 46 = .ok (.ifCond .eq 14, 3) := by decide +kernel
theorem d_M_giveBack_49 : decode prog_14_method_71_code 49 = .ok (.iload_n 3, 1) := by decide +kernel
theorem d_M_giveBack_50 : decode prog_14_method_71_code 50 = .ok (.iconst (-1), 1) := by decide +kernel
theorem d_M_giveBack_51 : decode prog_14_method_71_code 51 = .ok (.if_icmp .eq 9, 3) := by decide +kernel
theorem d_M_giveBack_54 : decode prog_14_method_71_code 54 = .ok (.iload_n 3, 1) := by decide +kernel
theorem d_M_giveBack_55 : decode prog_14_method_71_code 55 = .ok (.bipush 100, 2) := by decide +kernel
theorem d_M_giveBack_57 : decode prog_14_method_71_code 57 = .ok (.if_icmp .ne 10, 3) := by decide +kernel
theorem d_M_giveBack_60 : decode prog_14_method_71_code 60 = .ok (.aload_n 0, 1) := by decide +kernel
theorem d_M_giveBack_61 : decode prog_14_method_71_code 61 = .ok (.bipush (-6), 2) := by decide +kernel
theorem d_M_giveBack_63 : decode prog_14_method_71_code 63 = .ok (.invokevirtual 161, 3) := by decide +kernel
theorem d_M_giveBack_66 : decode prog_14_method_71_code 66 = .ok (.ireturn, 1) := by decide +kernel
theorem d_M_giveBack_67 : decode prog_14_method_71_code 67 = .ok (.aload_n 0, 1) := by decide +kernel
theorem d_M_giveBack_68 : decode prog_14_method_71_code 68 = .ok (.iload_n 1, 1) := by decide +kernel
theorem d_M_giveBack_69 : decode prog_14_method_71_code 69 = .ok (.sipush 600, 3) := by decide +kernel
theorem d_M_giveBack_72 : decode prog_14_method_71_code 72 = .ok (.iload_n 3, 1) := by decide +kernel
theorem d_M_giveBack_73 : decode prog_14_method_71_code 73 = .ok (.iadd, 1) := by decide +kernel
theorem d_M_giveBack_74 : decode prog_14_method_71_code 74 = .ok (.invokevirtual 262, 3) := by decide +kernel
theorem d_M_giveBack_77 : decode prog_14_method_71_code 77 = .ok (.iload_n 3, 1) := by decide +kernel
theorem d_M_giveBack_78 : decode prog_14_method_71_code 78 = .ok (.ireturn, 1) := by decide +kernel
theorem d_M_sealsOf_0 : decode prog_14_method_72_code 0 = .ok (.iconst 0, 1) := by decide +kernel
theorem d_M_sealsOf_1 : decode prog_14_method_72_code 1 = .ok (.istore_n 2, 1) := by decide +kernel
theorem d_M_sealsOf_2 : decode prog_14_method_72_code 2 = .ok (.iconst 0, 1) := by decide +kernel
theorem d_M_sealsOf_3 : decode prog_14_method_72_code 3 = .ok (.istore_n 3, 1) := by decide +kernel
theorem d_M_sealsOf_4 : decode prog_14_method_72_code 4 = .ok (.iload_n 3, 1) := by decide +kernel
theorem d_M_sealsOf_5 : decode prog_14_method_72_code 5 = .ok (.aload_n 0, 1) := by decide +kernel
theorem d_M_sealsOf_6 : decode prog_14_method_72_code 6 = .ok (.getfield 256, 3) := by decide +kernel
theorem d_M_sealsOf_9 : decode prog_14_method_72_code 9 = .ok (.if_icmp .ge 22, 3) := by decide +kernel
theorem d_M_sealsOf_12 : decode prog_14_method_72_code 12 = .ok (.aload_n 0, 1) := by decide +kernel
theorem d_M_sealsOf_13 : decode prog_14_method_72_code 13 = .ok (.getfield 118, 3) := by decide +kernel
theorem d_M_sealsOf_16 : decode prog_14_method_72_code 16 = .ok (.iload_n 3, 1) := by decide +kernel
theorem d_M_sealsOf_17 : decode prog_14_method_72_code 17 = .ok (.iaload, 1) := by decide +kernel
theorem d_M_sealsOf_18 : decode prog_14_method_72_code 18 = .ok (.iload_n 1, 1) := by decide +kernel
theorem d_M_sealsOf_19 : decode prog_14_method_72_code 19 = .ok (.if_icmp .ne 6, 3) := by decide +kernel
theorem d_M_sealsOf_22 : decode prog_14_method_72_code 22 = .ok (.iinc 2 1, 3) := by decide +kernel
theorem d_M_sealsOf_25 : decode prog_14_method_72_code 25 = .ok (.iinc 3 1, 3) := by decide +kernel
theorem d_M_sealsOf_28 : decode prog_14_method_72_code 28 = .ok (.goto (-24), 3) := by decide +kernel
theorem d_M_sealsOf_31 : decode prog_14_method_72_code 31 = .ok (.iload_n 2, 1) := by decide +kernel
theorem d_M_sealsOf_32 : decode prog_14_method_72_code 32 = .ok (.ireturn, 1) := by decide +kernel
theorem d_M_about_0 : decode prog_14_method_73_code 0 = .ok (.aload_n 0, 1) := by decide +kernel
theorem d_M_about_1 : decode prog_14_method_73_code 1 = .ok (.iload_n 1, 1) := by decide +kernel
theorem d_M_about_2 : decode prog_14_method_73_code 2 = .ok (.invokevirtual 204, 3) := by decide +kernel
theorem d_M_about_5 : decode prog_14_method_73_code 5 = .ok (.ifCond .ne 5, 3) := by decide +kernel
theorem d_M_about_8 : decode prog_14_method_73_code 8 = .ok (.iconst (-1), 1) := by decide +kernel
theorem d_M_about_9 : decode prog_14_method_73_code 9 = .ok (.ireturn, 1) := by decide +kernel
theorem d_M_about_10 : decode prog_14_method_73_code 10 = .ok (.iload_n 2, 1) := by decide +kernel
theorem d_M_about_11 : decode prog_14_method_73_code 11 = .ok (.tableswitch 100 0 7 #[45, 52, 59, 66, 73, 80, 87, 93], 45) := by decide +kernel
theorem d_M_about_56 : decode prog_14_method_73_code 56 = .ok (.aload_n 0, 1) := by decide +kernel
theorem d_M_about_57 : decode prog_14_method_73_code 57 = .ok (.getfield 45, 3) := by decide +kernel
theorem d_M_about_60 : decode prog_14_method_73_code 60 = .ok (.iload_n 1, 1) := by decide +kernel
theorem d_M_about_61 : decode prog_14_method_73_code 61 = .ok (.iaload, 1) := by decide +kernel
theorem d_M_about_62 : decode prog_14_method_73_code 62 = .ok (.ireturn, 1) := by decide +kernel
theorem d_M_about_63 : decode prog_14_method_73_code 63 = .ok (.aload_n 0, 1) := by decide +kernel
theorem d_M_about_64 : decode prog_14_method_73_code 64 = .ok (.getfield 33, 3) := by decide +kernel
theorem d_M_about_67 : decode prog_14_method_73_code 67 = .ok (.iload_n 1, 1) := by decide +kernel
theorem d_M_about_68 : decode prog_14_method_73_code 68 = .ok (.iaload, 1) := by decide +kernel
theorem d_M_about_69 : decode prog_14_method_73_code 69 = .ok (.ireturn, 1) := by decide +kernel
theorem d_M_about_70 : decode prog_14_method_73_code 70 = .ok (.aload_n 0, 1) := by decide +kernel
theorem d_M_about_71 : decode prog_14_method_73_code 71 = .ok (.getfield 36, 3) := by decide +kernel
theorem d_M_about_74 : decode prog_14_method_73_code 74 = .ok (.iload_n 1, 1) := by decide +kernel
theorem d_M_about_75 : decode prog_14_method_73_code 75 = .ok (.iaload, 1) := by decide +kernel
theorem d_M_about_76 : decode prog_14_method_73_code 76 = .ok (.ireturn, 1) := by decide +kernel
theorem d_M_about_77 : decode prog_14_method_73_code 77 = .ok (.aload_n 0, 1) := by decide +kernel
theorem d_M_about_78 : decode prog_14_method_73_code 78 = .ok (.getfield 39, 3) := by decide +kernel
theorem d_M_about_81 : decode prog_14_method_73_code 81 = .ok (.iload_n 1, 1) := by decide +kernel
theorem d_M_about_82 : decode prog_14_method_73_code 82 = .ok (.iaload, 1) := by decide +kernel
theorem d_M_about_83 : decode prog_14_method_73_code 83 = .ok (.ireturn, 1) := by decide +kernel
theorem d_M_about_84 : decode prog_14_method_73_code 84 = .ok (.aload_n 0, 1) := by decide +kernel
theorem d_M_about_85 : decode prog_14_method_73_code 85 = .ok (.getfield 42, 3) := by decide +kernel
theorem d_M_about_88 : decode prog_14_method_73_code 88 = .ok (.iload_n 1, 1) := by decide +kernel
theorem d_M_about_89 : decode prog_14_method_73_code 89 = .ok (.iaload, 1) := by decide +kernel
theorem d_M_about_90 : decode prog_14_method_73_code 90 = .ok (.ireturn, 1) := by decide +kernel
theorem d_M_about_91 : decode prog_14_method_73_code 91 = .ok (.aload_n 0, 1) := by decide +kernel
theorem d_M_about_92 : decode prog_14_method_73_code 92 = .ok (.getfield 48, 3) := by decide +kernel
theorem d_M_about_95 : decode prog_14_method_73_code 95 = .ok (.iload_n 1, 1) := by decide +kernel
theorem d_M_about_96 : decode prog_14_method_73_code 96 = .ok (.iaload, 1) := by decide +kernel
theorem d_M_about_97 : decode prog_14_method_73_code 97 = .ok (.ireturn, 1) := by decide +kernel
theorem d_M_about_98 : decode prog_14_method_73_code 98 = .ok (.aload_n 0, 1) := by decide +kernel
theorem d_M_about_99 : decode prog_14_method_73_code 99 = .ok (.iload_n 1, 1) := by decide +kernel
theorem d_M_about_100 : decode prog_14_method_73_code 100 = .ok (.invokevirtual 316, 3) := by decide +kernel
theorem d_M_about_103 : decode prog_14_method_73_code 103 = .ok (.ireturn, 1) := by decide +kernel
theorem d_M_about_104 : decode prog_14_method_73_code 104 = .ok (.aload_n 0, 1) := by decide +kernel
theorem d_M_about_105 : decode prog_14_method_73_code 105 = .ok (.getfield 51, 3) := by decide +kernel
theorem d_M_about_108 : decode prog_14_method_73_code 108 = .ok (.iload_n 1, 1) := by decide +kernel
theorem d_M_about_109 : decode prog_14_method_73_code 109 = .ok (.iaload, 1) := by decide +kernel
theorem d_M_about_110 : decode prog_14_method_73_code 110 = .ok (.ireturn, 1) := by decide +kernel
theorem d_M_about_111 : decode prog_14_method_73_code 111 = .ok (.iconst (-1), 1) := by decide +kernel
theorem d_M_about_112 : decode prog_14_method_73_code 112 = .ok (.ireturn, 1) := by decide +kernel
theorem d_M_seal_0 : decode prog_14_method_74_code 0 = .ok (.aload_n 0, 1) := by decide +kernel
theorem d_M_seal_1 : decode prog_14_method_74_code 1 = .ok (.iload_n 1, 1) := by decide +kernel
theorem d_M_seal_2 : decode prog_14_method_74_code 2 = .ok (.invokevirtual 204, 3) := by decide +kernel
theorem d_M_seal_5 : decode prog_14_method_74_code 5 = .ok (.ifCond .eq 16, 3) := by decide +kernel
theorem d_M_seal_8 : decode prog_14_method_74_code 8 = .ok (.iload_n 2, 1) := by decide +kernel
theorem d_M_seal_9 : decode prog_14_method_74_code 9 = .ok (.ifCond .lt 12, 3) := by decide +kernel
theorem d_M_seal_12 : decode prog_14_method_74_code 12 = .ok (.iload_n 3, 1) := by decide +kernel
theorem d_M_seal_13 : decode prog_14_method_74_code 13 = .ok (.ifCond .lt 8, 3) := by decide +kernel
theorem d_M_seal_16 : decode prog_14_method_74_code 16 = .ok (.iload_n 3, 1) := by decide +kernel
theorem d_M_seal_17 : decode prog_14_method_74_code 17 = .ok (.iconst 2, 1) := by decide +kernel
theorem d_M_seal_18 : decode prog_14_method_74_code 18 = .ok (.if_icmp .le 5, 3) := by decide +kernel
theorem d_M_seal_21 : decode prog_14_method_74_code 21 = .ok (.iconst (-1), 1) := by decide +kernel
theorem d_M_seal_22 : decode prog_14_method_74_code 22 = .ok (.ireturn, 1) := by decide +kernel
theorem d_M_seal_23 : decode prog_14_method_74_code 23 = .ok (.iload_n 2, 1) := by decide +kernel
theorem d_M_seal_24 : decode prog_14_method_74_code 24 = .ok (.istore 4, 2) := by decide +kernel
theorem d_M_seal_26 : decode prog_14_method_74_code 26 = .ok (.iconst 0, 1) := by decide +kernel
theorem d_M_seal_27 : decode prog_14_method_74_code 27 = .ok (.istore 5, 2) := by decide +kernel
theorem d_M_seal_29 : decode prog_14_method_74_code 29 = .ok (.iload 5, 2) := by decide +kernel
theorem d_M_seal_31 : decode prog_14_method_74_code 31 = .ok (.aload_n 0, 1) := by decide +kernel
theorem d_M_seal_32 : decode prog_14_method_74_code 32 = .ok (.getfield 256, 3) := by decide +kernel
theorem d_M_seal_35 : decode prog_14_method_74_code 35 = .ok (.if_icmp .ge 68, 3) := by decide +kernel
theorem d_M_seal_38 : decode prog_14_method_74_code 38 = .ok (.aload_n 0, 1) := by decide +kernel
theorem d_M_seal_39 : decode prog_14_method_74_code 39 = .ok (.getfield 118, 3) := by decide +kernel
theorem d_M_seal_42 : decode prog_14_method_74_code 42 = .ok (.iload 5, 2) := by decide +kernel
theorem d_M_seal_44 : decode prog_14_method_74_code 44 = .ok (.iaload, 1) := by decide +kernel
theorem d_M_seal_45 : decode prog_14_method_74_code 45 = .ok (.iload_n 1, 1) := by decide +kernel
theorem d_M_seal_46 : decode prog_14_method_74_code 46 = .ok (.if_icmp .eq 6, 3) := by decide +kernel
theorem d_M_seal_49 : decode prog_14_method_74_code 49 = .ok (.goto 48, 3) := by decide +kernel
theorem d_M_seal_52 : decode prog_14_method_74_code 52 = .ok (.iload 4, 2) := by decide +kernel
theorem d_M_seal_54 : decode prog_14_method_74_code 54 = .ok (.ifCond .ne 40, 3) := by decide +kernel
theorem d_M_seal_57 : decode prog_14_method_74_code 57 = .ok (.iload_n 3, 1) := by decide +kernel
theorem d_M_seal_58 : decode prog_14_method_74_code 58 = .ok (.ifCond .ne 13, 3) := by decide +kernel
theorem d_M_seal_61 : decode prog_14_method_74_code 61 = .ok (.aload_n 0, 1) := by decide +kernel
theorem d_M_seal_62 : decode prog_14_method_74_code 62 = .ok (.getfield 121, 3) := by decide +kernel
theorem d_M_seal_65 : decode prog_14_method_74_code 65 = .ok (.iload 5, 2) := by decide +kernel
theorem d_M_seal_67 : decode prog_14_method_74_code 67 = .ok (.iaload, 1) := by decide +kernel
theorem d_M_seal_68 : decode prog_14_method_74_code 68 = .ok (.goto 25, 3) := by decide +kernel
theorem d_M_seal_71 : decode prog_14_method_74_code 71 = .ok (.iload_n 3, 1) := by decide +kernel
theorem d_M_seal_72 : decode prog_14_method_74_code 72 = .ok (.iconst 1, 1) := by decide +kernel
theorem d_M_seal_73 : decode prog_14_method_74_code 73 = .ok (.if_icmp .ne 13, 3) := by decide +kernel
theorem d_M_seal_76 : decode prog_14_method_74_code 76 = .ok (.aload_n 0, 1) := by decide +kernel
theorem d_M_seal_77 : decode prog_14_method_74_code 77 = .ok (.getfield 124, 3) := by decide +kernel
theorem d_M_seal_80 : decode prog_14_method_74_code 80 = .ok (.iload 5, 2) := by decide +kernel
theorem d_M_seal_82 : decode prog_14_method_74_code 82 = .ok (.iaload, 1) := by decide +kernel
theorem d_M_seal_83 : decode prog_14_method_74_code 83 = .ok (.goto 10, 3) := by decide +kernel
theorem d_M_seal_86 : decode prog_14_method_74_code 86 = .ok (.aload_n 0, 1) := by decide +kernel
theorem d_M_seal_87 : decode prog_14_method_74_code 87 = .ok (.getfield 127, 3) := by decide +kernel
theorem d_M_seal_90 : decode prog_14_method_74_code 90 = .ok (.iload 5, 2) := by decide +kernel
theorem d_M_seal_92 : decode prog_14_method_74_code 92 = .ok (.iaload, 1) := by decide +kernel
theorem d_M_seal_93 : decode prog_14_method_74_code 93 = .ok (.ireturn, 1) := by decide +kernel
theorem d_M_seal_94 : decode prog_14_method_74_code 94 = .ok (.iinc 4 (-1), 3) := by decide +kernel
theorem d_M_seal_97 : decode prog_14_method_74_code 97 = .ok (.iinc 5 1, 3) := by decide +kernel
theorem d_M_seal_100 : decode prog_14_method_74_code 100 = .ok (.goto (-71), 3) := by decide +kernel
theorem d_M_seal_103 : decode prog_14_method_74_code 103 = .ok (.iconst (-1), 1) := by decide +kernel
theorem d_M_seal_104 : decode prog_14_method_74_code 104 = .ok (.ireturn, 1) := by decide +kernel
theorem d_M_isAt_0 : decode prog_14_method_75_code 0 = .ok (.iload_n 2, 1) := by decide +kernel
theorem d_M_isAt_1 : decode prog_14_method_75_code 1 = .ok (.aload_n 0, 1) := by decide +kernel
theorem d_M_isAt_2 : decode prog_14_method_75_code 2 = .ok (.getfield 72, 3) := by decide +kernel
theorem d_M_isAt_5 : decode prog_14_method_75_code 5 = .ok (.iload_n 1, 1) := by decide +kernel
theorem d_M_isAt_6 : decode prog_14_method_75_code 6 = .ok (.iaload, 1) := by decide +kernel
theorem d_M_isAt_7 : decode prog_14_method_75_code 7 = .ok (.if_icmp .ge 7, 3) := by decide +kernel
theorem d_M_isAt_10 : decode prog_14_method_75_code 10 = .ok (.iconst 1, 1) := by decide +kernel
theorem d_M_isAt_11 : decode prog_14_method_75_code 11 = .ok (.goto 4, 3) := by decide +kernel
theorem d_M_isAt_14 : decode prog_14_method_75_code 14 = .ok (.iconst 0, 1) := by decide +kernel
theorem d_M_isAt_15 : decode prog_14_method_75_code 15 = .ok (.ireturn, 1) := by decide +kernel
theorem d_M_areAlike_0 : decode prog_14_method_76_code 0 = .ok (.aload_n 0, 1) := by decide +kernel
theorem d_M_areAlike_1 : decode prog_14_method_76_code 1 = .ok (.iload_n 1, 1) := by decide +kernel
theorem d_M_areAlike_2 : decode prog_14_method_76_code 2 = .ok (.iload_n 3, 1) := by decide +kernel
theorem d_M_areAlike_3 : decode prog_14_method_76_code 3 = .ok (.invokevirtual 319, 3) := by decide +kernel
theorem d_M_areAlike_6 : decode prog_14_method_76_code 6 = .ok (.ifCond .eq 42, 3) := by decide +kernel
theorem d_M_areAlike_9 : decode prog_14_method_76_code 9 = .ok (.aload_n 0, 1) := by decide +kernel
theorem d_M_areAlike_10 : decode prog_14_method_76_code 10 = .ok (.iload_n 2, 1) := by decide +kernel
theorem d_M_areAlike_11 : decode prog_14_method_76_code 11 = .ok (.iload_n 3, 1) := by decide +kernel
theorem d_M_areAlike_12 : decode prog_14_method_76_code 12 = .ok (.invokevirtual 319, 3) := by decide +kernel
theorem d_M_areAlike_15 : decode prog_14_method_76_code 15 = .ok (.ifCond .eq 33, 3) := by decide +kernel
theorem d_M_areAlike_18 : decode prog_14_method_76_code 18 = .ok (.aload_n 0, 1) := by decide +kernel
theorem d_M_areAlike_19 : decode prog_14_method_76_code 19 = .ok (.getfield 78, 3) := by decide +kernel
theorem d_M_areAlike_22 : decode prog_14_method_76_code 22 = .ok (.bipush 60, 2) := by decide +kernel
theorem d_M_areAlike_24 : decode prog_14_method_76_code 24 = .ok (.iload_n 1, 1) := by decide +kernel
theorem d_M_areAlike_25 : decode prog_14_method_76_code 25 = .ok (.imul, 1) := by decide +kernel
theorem d_M_areAlike_26 : decode prog_14_method_76_code 26 = .ok (.iload_n 3, 1) := by decide +kernel
theorem d_M_areAlike_27 : decode prog_14_method_76_code 27 = .ok (.iadd, 1) := by decide +kernel
theorem d_M_areAlike_28 : decode prog_14_method_76_code 28 = .ok (.laload, 1) := by decide +kernel
theorem d_M_areAlike_29 : decode prog_14_method_76_code 29 = .ok (.aload_n 0, 1) := by decide +kernel
theorem d_M_areAlike_30 : decode prog_14_method_76_code 30 = .ok (.getfield 78, 3) := by decide +kernel
theorem d_M_areAlike_33 : decode prog_14_method_76_code 33 = .ok (.bipush 60, 2) := by decide +kernel
theorem d_M_areAlike_35 : decode prog_14_method_76_code 35 = .ok (.iload_n 2, 1) := by decide +kernel
theorem d_M_areAlike_36 : decode prog_14_method_76_code 36 = .ok (.imul, 1) := by decide +kernel
theorem d_M_areAlike_37 : decode prog_14_method_76_code 37 = .ok (.iload_n 3, 1) := by decide +kernel
theorem d_M_areAlike_38 : decode prog_14_method_76_code 38 = .ok (.iadd, 1) := by decide +kernel
theorem d_M_areAlike_39 : decode prog_14_method_76_code 39 = .ok (.laload, 1) := by decide +kernel
theorem d_M_areAlike_40 : decode prog_14_method_76_code 40 = .ok (.lcmp, 1) := by decide +kernel
theorem d_M_areAlike_41 : decode prog_14_method_76_code 41 = .ok (.ifCond .ne 7, 3) := by decide +kernel
theorem d_M_areAlike_44 : decode prog_14_method_76_code 44 = .ok (.iconst 1, 1) := by decide +kernel
theorem d_M_areAlike_45 : decode prog_14_method_76_code 45 = .ok (.goto 4, 3) := by decide +kernel
theorem d_M_areAlike_48 : decode prog_14_method_76_code 48 = .ok (.iconst 0, 1) := by decide +kernel
theorem d_M_areAlike_49 : decode prog_14_method_76_code 49 = .ok (.ireturn, 1) := by decide +kernel
theorem d_M_quarrel_0 : decode prog_14_method_77_code 0 = .ok (.iload_n 1, 1) := by decide +kernel
theorem d_M_quarrel_1 : decode prog_14_method_77_code 1 = .ok (.invokestatic 190, 3) := by decide +kernel
theorem d_M_quarrel_4 : decode prog_14_method_77_code 4 = .ok (.ifCond .eq 17, 3) := by decide +kernel
theorem d_M_quarrel_7 : decode prog_14_method_77_code 7 = .ok (.iload_n 2, 1) := by decide +kernel
theorem d_M_quarrel_8 : decode prog_14_method_77_code 8 = .ok (.invokestatic 190, 3) := by decide +kernel
theorem d_M_quarrel_11 : decode prog_14_method_77_code 11 = .ok (.ifCond .eq 10, 3) := by decide +kernel
theorem d_M_quarrel_14 : decode prog_14_method_77_code 14 = .ok (.iload_n 3, 1) := by decide +kernel
theorem d_M_quarrel_15 : decode prog_14_method_77_code 15 = .ok (.invokestatic 190, 3) := by decide +kernel
theorem d_M_quarrel_18 : decode prog_14_method_77_code 18 = .ok (.ifCond .ne 9, 3) := by decide +kernel
theorem d_M_quarrel_21 : decode prog_14_method_77_code 21 = .ok (.aload_n 0, 1) := by decide +kernel
theorem d_M_quarrel_22 : decode prog_14_method_77_code 22 = .ok (.iconst (-1), 1) := by decide +kernel
theorem d_M_quarrel_23 : decode prog_14_method_77_code 23 = .ok (.invokevirtual 161, 3) := by decide +kernel
theorem d_M_quarrel_26 : decode prog_14_method_77_code 26 = .ok (.ireturn, 1) := by decide +kernel
theorem d_M_quarrel_27 : decode prog_14_method_77_code 27 = .ok (.aload_n 0, 1) := by decide +kernel
theorem d_M_quarrel_28 : decode prog_14_method_77_code 28 = .ok (.getfield 66, 3) := by decide +kernel
theorem d_M_quarrel_31 : decode prog_14_method_77_code 31 = .ok (.iload_n 1, 1) := by decide +kernel
theorem d_M_quarrel_32 : decode prog_14_method_77_code 32 = .ok (.iaload, 1) := by decide +kernel
theorem d_M_quarrel_33 : decode prog_14_method_77_code 33 = .ok (.iconst 2, 1) := by decide +kernel
theorem d_M_quarrel_34 : decode prog_14_method_77_code 34 = .ok (.if_icmp .eq 23, 3) := by decide +kernel
theorem d_M_quarrel_37 : decode prog_14_method_77_code 37 = .ok (.aload_n 0, 1) := by decide +kernel
theorem d_M_quarrel_38 : decode prog_14_method_77_code 38 = .ok (.getfield 66, 3) := by decide +kernel
theorem d_M_quarrel_41 : decode prog_14_method_77_code 41 = .ok (.iload_n 2, 1) := by decide +kernel
theorem d_M_quarrel_42 : decode prog_14_method_77_code 42 = .ok (.iaload, 1) := by decide +kernel
theorem d_M_quarrel_43 : decode prog_14_method_77_code 43 = .ok (.iconst 2, 1) := by decide +kernel
theorem d_M_quarrel_44 : decode prog_14_method_77_code 44 = .ok (.if_icmp .eq 13, 3) := by decide +kernel
theorem d_M_quarrel_47 : decode prog_14_method_77_code 47 = .ok (.aload_n 0, 1) := by decide +kernel
theorem d_M_quarrel_48 : decode prog_14_method_77_code 48 = .ok (.getfield 66, 3) := by decide +kernel
theorem d_M_quarrel_51 : decode prog_14_method_77_code 51 = .ok (.iload_n 3, 1) := by decide +kernel
theorem d_M_quarrel_52 : decode prog_14_method_77_code 52 = .ok (.iaload, 1) := by decide +kernel
theorem d_M_quarrel_53 : decode prog_14_method_77_code 53 = .ok (.iconst 2, 1) := by decide +kernel
theorem d_M_quarrel_54 : decode prog_14_method_77_code 54 = .ok (.if_icmp .ne 10, 3) := by decide +kernel
theorem d_M_quarrel_57 : decode prog_14_method_77_code 57 = .ok (.aload_n 0, 1) := by decide +kernel
theorem d_M_quarrel_58 : decode prog_14_method_77_code 58 = .ok (.bipush (-2), 2) := by decide +kernel
theorem d_M_quarrel_60 : decode prog_14_method_77_code 60 = .ok (.invokevirtual 161, 3) := by decide +kernel
theorem d_M_quarrel_63 : decode prog_14_method_77_code 63 = .ok (.ireturn, 1) := by decide +kernel
theorem d_M_quarrel_64 : decode prog_14_method_77_code 64 = .ok (.aload_n 0, 1) := by decide +kernel
theorem d_M_quarrel_65 : decode prog_14_method_77_code 65 = .ok (.getfield 66, 3) := by decide +kernel
theorem d_M_quarrel_68 : decode prog_14_method_77_code 68 = .ok (.iload_n 1, 1) := by decide +kernel
theorem d_M_quarrel_69 : decode prog_14_method_77_code 69 = .ok (.iaload, 1) := by decide +kernel
theorem d_M_quarrel_70 : decode prog_14_method_77_code 70 = .ok (.ifCond .eq 21, 3) := by decide +kernel
theorem d_M_quarrel_73 : decode prog_14_method_77_code 73 = .ok (.aload_n 0, 1) := by decide +kernel
theorem d_M_quarrel_74 : decode prog_14_method_77_code 74 = .ok (.getfield 66, 3) := by decide +kernel
theorem d_M_quarrel_77 : decode prog_14_method_77_code 77 = .ok (.iload_n 2, 1) := by decide +kernel
theorem d_M_quarrel_78 : decode prog_14_method_77_code 78 = .ok (.iaload, 1) := by decide +kernel
theorem d_M_quarrel_79 : decode prog_14_method_77_code 79 = .ok (.ifCond .eq 12, 3) := by decide +kernel
theorem d_M_quarrel_82 : decode prog_14_method_77_code 82 = .ok (.aload_n 0, 1) := by decide +kernel
theorem d_M_quarrel_83 : decode prog_14_method_77_code 83 = .ok (.getfield 66, 3) := by decide +kernel
theorem d_M_quarrel_86 : decode prog_14_method_77_code 86 = .ok (.iload_n 3, 1) := by decide +kernel
theorem d_M_quarrel_87 : decode prog_14_method_77_code 87 = .ok (.iaload, 1) := by decide +kernel
theorem d_M_quarrel_88 : decode prog_14_method_77_code 88 = .ok (.ifCond .ne 10, 3) := by decide +kernel
theorem d_M_quarrel_91 : decode prog_14_method_77_code 91 = .ok (.aload_n 0, 1) := by decide +kernel
theorem d_M_quarrel_92 : decode prog_14_method_77_code 92 = .ok (.bipush (-3), 2) := by decide +kernel
theorem d_M_quarrel_94 : decode prog_14_method_77_code 94 = .ok (.invokevirtual 161, 3) := by decide +kernel
theorem d_M_quarrel_97 : decode prog_14_method_77_code 97 = .ok (.ireturn, 1) := by decide +kernel
theorem d_M_quarrel_98 : decode prog_14_method_77_code 98 = .ok (.iconst 0, 1) := by decide +kernel
theorem d_M_quarrel_99 : decode prog_14_method_77_code 99 = .ok (.istore 4, 2) := by decide +kernel
theorem d_M_quarrel_101 : decode prog_14_method_77_code 101 = .ok (.iconst 0, 1) := by decide +kernel
theorem d_M_quarrel_102 : decode prog_14_method_77_code 102 = .ok (.istore 5, 2) := by decide +kernel
theorem d_M_quarrel_104 : decode prog_14_method_77_code 104 = .ok (.iload 5, 2) := by decide +kernel
theorem d_M_quarrel_106 : decode prog_14_method_77_code 106 = .ok (.aload_n 0, 1) := by decide +kernel
theorem d_M_quarrel_107 : decode prog_14_method_77_code 107 = .ok (.getfield 151, 3) := by decide +kernel
theorem d_M_quarrel_110 : decode prog_14_method_77_code 110 = .ok (.if_icmp .ge 109, 3) := by decide +kernel
theorem d_M_quarrel_113 : decode prog_14_method_77_code 113 = .ok (.aload_n 0, 1) := by decide +kernel
theorem d_M_quarrel_114 : decode prog_14_method_77_code 114 = .ok (.iload_n 1, 1) := by decide +kernel
theorem d_M_quarrel_115 : decode prog_14_method_77_code 115 = .ok (.iload_n 2, 1) := by decide +kernel
theorem d_M_quarrel_116 : decode prog_14_method_77_code 116 = .ok (.iload 5, 2) := by decide +kernel
theorem d_M_quarrel_118 : decode prog_14_method_77_code 118 = .ok (.invokevirtual 322, 3) := by decide +kernel
theorem d_M_quarrel_121 : decode prog_14_method_77_code 121 = .ok (.istore 6, 2) := by decide +kernel
theorem d_M_quarrel_123 : decode prog_14_method_77_code 123 = .ok (.aload_n 0, 1) := by decide +kernel
theorem d_M_quarrel_124 : decode prog_14_method_77_code 124 = .ok (.iload_n 1, 1) := by decide +kernel
theorem d_M_quarrel_125 : decode prog_14_method_77_code 125 = .ok (.iload_n 3, 1) := by decide +kernel
theorem d_M_quarrel_126 : decode prog_14_method_77_code 126 = .ok (.iload 5, 2) := by decide +kernel
theorem d_M_quarrel_128 : decode prog_14_method_77_code 128 = .ok (.invokevirtual 322, 3) := by decide +kernel
theorem d_M_quarrel_131 : decode prog_14_method_77_code 131 = .ok (.istore 7, 2) := by decide +kernel
theorem d_M_quarrel_133 : decode prog_14_method_77_code 133 = .ok (.iload 6, 2) := by decide +kernel
theorem d_M_quarrel_135 : decode prog_14_method_77_code 135 = .ok (.ifCond .eq 11, 3) := by decide +kernel
theorem d_M_quarrel_138 : decode prog_14_method_77_code 138 = .ok (.iload 7, 2) := by decide +kernel
theorem d_M_quarrel_140 : decode prog_14_method_77_code 140 = .ok (.ifCond .eq 6, 3) := by decide +kernel
theorem d_M_quarrel_143 : decode prog_14_method_77_code 143 = .ok (.goto 70, 3) := by decide +kernel
theorem d_M_quarrel_146 : decode prog_14_method_77_code 146 = .ok (.iload 6, 2) := by decide +kernel
theorem d_M_quarrel_148 : decode prog_14_method_77_code 148 = .ok (.ifCond .ne 19, 3) := by decide +kernel
theorem d_M_quarrel_151 : decode prog_14_method_77_code 151 = .ok (.iload 7, 2) := by decide +kernel
theorem d_M_quarrel_153 : decode prog_14_method_77_code 153 = .ok (.ifCond .ne 14, 3) := by decide +kernel
theorem d_M_quarrel_156 : decode prog_14_method_77_code 156 = .ok (.aload_n 0, 1) := by decide +kernel
theorem d_M_quarrel_157 : decode prog_14_method_77_code 157 = .ok (.iload_n 2, 1) := by decide +kernel
theorem d_M_quarrel_158 : decode prog_14_method_77_code 158 = .ok (.iload_n 3, 1) := by decide +kernel
theorem d_M_quarrel_159 : decode prog_14_method_77_code 159 = .ok (.iload 5, 2) := by decide +kernel
theorem d_M_quarrel_161 : decode prog_14_method_77_code 161 = .ok (.invokevirtual 322, 3) := by decide +kernel
theorem d_M_quarrel_164 : decode prog_14_method_77_code 164 = .ok (.ifCond .eq 9, 3) := by decide +kernel
theorem d_M_quarrel_167 : decode prog_14_method_77_code 167 = .ok (.iinc 4 1, 3) := by decide +kernel
theorem d_M_quarrel_170 : decode prog_14_method_77_code 170 = .ok (.goto 43, 3) := by decide +kernel
theorem d_M_quarrel_173 : decode prog_14_method_77_code 173 = .ok (.iload 4, 2) := by decide +kernel
theorem d_M_quarrel_175 : decode prog_14_method_77_code 175 = .ok (.aload_n 0, 1) := by decide +kernel
theorem d_M_quarrel_176 : decode prog_14_method_77_code 176 = .ok (.iload_n 1, 1) := by decide +kernel
theorem d_M_quarrel_177 : decode prog_14_method_77_code 177 = .ok (.iload 5, 2) := by decide +kernel
theorem d_M_quarrel_179 : decode prog_14_method_77_code 179 = .ok (.invokevirtual 319, 3) := by decide +kernel
theorem d_M_quarrel_182 : decode prog_14_method_77_code 182 = .ok (.ifCond .ne 23, 3) := by decide +kernel
theorem d_M_quarrel_185 : decode prog_14_method_77_code 185 = .ok (.aload_n 0, 1) := by decide +kernel
theorem d_M_quarrel_186 : decode prog_14_method_77_code 186 = .ok (.iload_n 2, 1) := by decide +kernel
theorem d_M_quarrel_187 : decode prog_14_method_77_code 187 = .ok (.iload 5, 2) := by decide +kernel
theorem d_M_quarrel_189 : decode prog_14_method_77_code 189 = .ok (.invokevirtual 319, 3) := by decide +kernel
theorem d_M_quarrel_192 : decode prog_14_method_77_code 192 = .ok (.ifCond .ne 13, 3) := by decide +kernel
theorem d_M_quarrel_195 : decode prog_14_method_77_code 195 = .ok (.aload_n 0, 1) := by decide +kernel
theorem d_M_quarrel_196 : decode prog_14_method_77_code 196 = .ok (.iload_n 3, 1) := by decide +kernel
theorem d_M_quarrel_197 : decode prog_14_method_77_code 197 = .ok (.iload 5, 2) := by decide +kernel
theorem d_M_quarrel_199 : decode prog_14_method_77_code 199 = .ok (.invokevirtual 319, 3) := by decide +kernel
theorem d_M_quarrel_202 : decode prog_14_method_77_code 202 = .ok (.ifCond .eq 7, 3) := by decide +kernel
theorem d_M_quarrel_205 : decode prog_14_method_77_code 205 = .ok (.iconst 2, 1) := by decide +kernel
theorem d_M_quarrel_206 : decode prog_14_method_77_code 206 = .ok (.goto 4, 3) := by decide +kernel
theorem d_M_quarrel_209 : decode prog_14_method_77_code 209 = .ok (.iconst 3, 1) := by decide +kernel
theorem d_M_quarrel_210 : decode prog_14_method_77_code 210 = .ok (.iadd, 1) := by decide +kernel
theorem d_M_quarrel_211 : decode prog_14_method_77_code 211 = .ok (.istore 4, 2) := by decide +kernel
theorem d_M_quarrel_213 : decode prog_14_method_77_code 213 = .ok (.iinc 5 1, 3) := by decide +kernel
theorem d_M_quarrel_216 : decode prog_14_method_77_code 216 = .ok (.goto (-112), 3) := by decide +kernel
theorem d_M_quarrel_219 : decode prog_14_method_77_code 219 = .ok (.iload 4, 2) := by decide +kernel
theorem d_M_quarrel_221 : decode prog_14_method_77_code 221 = .ok (.ireturn, 1) := by decide +kernel
theorem d_M_said_0 : decode prog_14_method_78_code 0 = .ok (.iload_n 1, 1) := by decide +kernel
theorem d_M_said_1 : decode prog_14_method_78_code 1 = .ok (.invokestatic 190, 3) := by decide +kernel
theorem d_M_said_4 : decode prog_14_method_78_code 4 = .ok (.ifCond .eq 26, 3) := by decide +kernel
theorem d_M_said_7 : decode prog_14_method_78_code 7 = .ok (.iload_n 2, 1) := by decide +kernel
theorem d_M_said_8 : decode prog_14_method_78_code 8 = .ok (.invokestatic 190, 3) := by decide +kernel
theorem d_M_said_11 : decode prog_14_method_78_code 11 = .ok (.ifCond .eq 19, 3) := by decide +kernel
theorem d_M_said_14 : decode prog_14_method_78_code 14 = .ok (.iload_n 3, 1) := by decide +kernel
theorem d_M_said_15 : decode prog_14_method_78_code 15 = .ok (.invokestatic 190, 3) := by decide +kernel
theorem d_M_said_18 : decode prog_14_method_78_code 18 = .ok (.ifCond .eq 12, 3) := by decide +kernel
theorem d_M_said_21 : decode prog_14_method_78_code 21 = .ok (.aload_n 0, 1) := by decide +kernel
theorem d_M_said_22 : decode prog_14_method_78_code 22 = .ok (.iload 4, 2) := by decide +kernel
theorem d_M_said_24 : decode prog_14_method_78_code 24 = .ok (.invokevirtual 204, 3) := by decide +kernel
theorem d_M_said_27 : decode prog_14_method_78_code 27 = .ok (.ifCond .ne 7, 3) := by decide +kernel
theorem d_M_said_30 : decode prog_14_method_78_code 30 = .ok (.ldc2_w 326, 3) := by decide +kernel
theorem d_M_said_33 : decode prog_14_method_78_code 33 = .ok (.lreturn, 1) := by decide +kernel
theorem d_M_said_34 : decode prog_14_method_78_code 34 = .ok (.aload_n 0, 1) := by decide +kernel
theorem d_M_said_35 : decode prog_14_method_78_code 35 = .ok (.getfield 66, 3) := by decide +kernel
theorem d_M_said_38 : decode prog_14_method_78_code 38 = .ok (.iload_n 1, 1) := by decide +kernel
theorem d_M_said_39 : decode prog_14_method_78_code 39 = .ok (.iaload, 1) := by decide +kernel
theorem d_M_said_40 : decode prog_14_method_78_code 40 = .ok (.iconst 1, 1) := by decide +kernel
theorem d_M_said_41 : decode prog_14_method_78_code 41 = .ok (.if_icmp .ne 23, 3) := by decide +kernel
theorem d_M_said_44 : decode prog_14_method_78_code 44 = .ok (.aload_n 0, 1) := by decide +kernel
theorem d_M_said_45 : decode prog_14_method_78_code 45 = .ok (.getfield 66, 3) := by decide +kernel
theorem d_M_said_48 : decode prog_14_method_78_code 48 = .ok (.iload_n 2, 1) := by decide +kernel
theorem d_M_said_49 : decode prog_14_method_78_code 49 = .ok (.iaload, 1) := by decide +kernel
theorem d_M_said_50 : decode prog_14_method_78_code 50 = .ok (.iconst 1, 1) := by decide +kernel
theorem d_M_said_51 : decode prog_14_method_78_code 51 = .ok (.if_icmp .ne 13, 3) := by decide +kernel
theorem d_M_said_54 : decode prog_14_method_78_code 54 = .ok (.aload_n 0, 1) := by decide +kernel
theorem d_M_said_55 : decode prog_14_method_78_code 55 = .ok (.getfield 66, 3) := by decide +kernel
theorem d_M_said_58 : decode prog_14_method_78_code 58 = .ok (.iload_n 3, 1) := by decide +kernel
theorem d_M_said_59 : decode prog_14_method_78_code 59 = .ok (.iaload, 1) := by decide +kernel
theorem d_M_said_60 : decode prog_14_method_78_code 60 = .ok (.iconst 1, 1) := by decide +kernel
theorem d_M_said_61 : decode prog_14_method_78_code 61 = .ok (.if_icmp .eq 7, 3) := by decide +kernel
theorem d_M_said_64 : decode prog_14_method_78_code 64 = .ok (.ldc2_w 326, 3) := by decide +kernel
theorem d_M_said_67 : decode prog_14_method_78_code 67 = .ok (.lreturn, 1) := by decide +kernel
theorem d_M_said_68 : decode prog_14_method_78_code 68 = .ok (.aload_n 0, 1) := by decide +kernel
theorem d_M_said_69 : decode prog_14_method_78_code 69 = .ok (.iload_n 1, 1) := by decide +kernel
theorem d_M_said_70 : decode prog_14_method_78_code 70 = .ok (.iload_n 2, 1) := by decide +kernel
theorem d_M_said_71 : decode prog_14_method_78_code 71 = .ok (.iload 4, 2) := by decide +kernel
theorem d_M_said_73 : decode prog_14_method_78_code 73 = .ok (.invokevirtual 322, 3) := by decide +kernel
theorem d_M_said_76 : decode prog_14_method_78_code 76 = .ok (.ifCond .ne 14, 3) := by decide +kernel
theorem d_M_said_79 : decode prog_14_method_78_code 79 = .ok (.aload_n 0, 1) := by decide +kernel
theorem d_M_said_80 : decode prog_14_method_78_code 80 = .ok (.iload_n 1, 1) := by decide +kernel
theorem d_M_said_81 : decode prog_14_method_78_code 81 = .ok (.iload_n 3, 1) := by decide +kernel
theorem d_M_said_82 : decode prog_14_method_78_code 82 = .ok (.iload 4, 2) := by decide +kernel
theorem d_M_said_84 : decode prog_14_method_78_code 84 = .ok (.invokevirtual 322, 3) := by decide +kernel
theorem d_M_said_87 : decode prog_14_method_78_code 87 = .ok (.ifCond .eq 16, 3) := by decide +kernel
theorem d_M_said_90 : decode prog_14_method_78_code 90 = .ok (.aload_n 0, 1) := by decide +kernel
theorem d_M_said_91 : decode prog_14_method_78_code 91 = .ok (.getfield 78, 3) := by decide +kernel
theorem d_M_said_94 : decode prog_14_method_78_code 94 = .ok (.bipush 60, 2) := by decide +kernel
theorem d_M_said_96 : decode prog_14_method_78_code 96 = .ok (.iload_n 1, 1) := by decide +kernel
theorem d_M_said_97 : decode prog_14_method_78_code 97 = .ok (.imul, 1) := by decide +kernel
theorem d_M_said_98 : decode prog_14_method_78_code 98 = .ok (.iload 4, 2) := by decide +kernel
theorem d_M_said_100 : decode prog_14_method_78_code 100 = .ok (.iadd, 1) := by decide +kernel
theorem d_M_said_101 : decode prog_14_method_78_code 101 = .ok (.laload, 1) := by decide +kernel
theorem d_M_said_102 : decode prog_14_method_78_code 102 = .ok (.lreturn, 1) := by decide +kernel
theorem d_M_said_103 : decode prog_14_method_78_code 103 = .ok (.aload_n 0, 1) := by decide +kernel
theorem d_M_said_104 : decode prog_14_method_78_code 104 = .ok (.iload_n 2, 1) := by decide +kernel
theorem d_M_said_105 : decode prog_14_method_78_code 105 = .ok (.iload_n 3, 1) := by decide +kernel
theorem d_M_said_106 : decode prog_14_method_78_code 106 = .ok (.iload 4, 2) := by decide +kernel
theorem d_M_said_108 : decode prog_14_method_78_code 108 = .ok (.invokevirtual 322, 3) := by decide +kernel
theorem d_M_said_111 : decode prog_14_method_78_code 111 = .ok (.ifCond .eq 18, 3) := by decide +kernel
theorem d_M_said_114 : decode prog_14_method_78_code 114 = .ok (.aload_n 0, 1) := by decide +kernel
theorem d_M_said_115 : decode prog_14_method_78_code 115 = .ok (.getfield 78, 3) := by decide +kernel
theorem d_M_said_118 : decode prog_14_method_78_code 118 = .ok (.bipush 60, 2) := by decide +kernel
theorem d_M_said_120 : decode prog_14_method_78_code 120 = .ok (.iload_n 2, 1) := by decide +kernel
theorem d_M_said_121 : decode prog_14_method_78_code 121 = .ok (.imul, 1) := by decide +kernel
theorem d_M_said_122 : decode prog_14_method_78_code 122 = .ok (.iload 4, 2) := by decide +kernel
theorem d_M_said_124 : decode prog_14_method_78_code 124 = .ok (.iadd, 1) := by decide +kernel
theorem d_M_said_125 : decode prog_14_method_78_code 125 = .ok (.laload, 1) := by decide +kernel
theorem d_M_said_126 : decode prog_14_method_78_code 126 = .ok (.goto 6, 3) := by decide +kernel
theorem d_M_said_129 : decode prog_14_method_78_code 129 = .ok (.ldc2_w 326, 3) := by decide +kernel
theorem d_M_said_132 : decode prog_14_method_78_code 132 = .ok (.lreturn, 1) := by decide +kernel
theorem d_M_inside_0 : decode prog_14_method_79_code 0 = .ok (.iconst 0, 1) := by decide +kernel
theorem d_M_inside_1 : decode prog_14_method_79_code 1 = .ok (.istore_n 3, 1) := by decide +kernel
theorem d_M_inside_2 : decode prog_14_method_79_code 2 = .ok (.iconst 0, 1) := by decide +kernel
theorem d_M_inside_3 : decode prog_14_method_79_code 3 = .ok (.istore 4, 2) := by decide +kernel
theorem d_M_inside_5 : decode prog_14_method_79_code 5 = .ok (.iload 4, 2) := by decide +kernel
theorem d_M_inside_7 : decode prog_14_method_79_code 7 = .ok (.aload_n 0, 1) := by decide +kernel
theorem d_M_inside_8 : decode prog_14_method_79_code 8 = .ok (.getfield 151, 3) := by decide +kernel
theorem d_M_inside_11 : decode prog_14_method_79_code 11 = .ok (.if_icmp .ge 34, 3) := by decide +kernel
theorem d_M_inside_14 : decode prog_14_method_79_code 14 = .ok (.aload_n 0, 1) := by decide +kernel
theorem d_M_inside_15 : decode prog_14_method_79_code 15 = .ok (.getfield 45, 3) := by decide +kernel
theorem d_M_inside_18 : decode prog_14_method_79_code 18 = .ok (.iload 4, 2) := by decide +kernel
theorem d_M_inside_20 : decode prog_14_method_79_code 20 = .ok (.iaload, 1) := by decide +kernel
theorem d_M_inside_21 : decode prog_14_method_79_code 21 = .ok (.iload_n 1, 1) := by decide +kernel
theorem d_M_inside_22 : decode prog_14_method_79_code 22 = .ok (.if_icmp .lt 17, 3) := by decide +kernel
theorem d_M_inside_25 : decode prog_14_method_79_code 25 = .ok (.aload_n 0, 1) := by decide +kernel
theorem d_M_inside_26 : decode prog_14_method_79_code 26 = .ok (.getfield 45, 3) := by decide +kernel
theorem d_M_inside_29 : decode prog_14_method_79_code 29 = .ok (.iload 4, 2) := by decide +kernel
theorem d_M_inside_31 : decode prog_14_method_79_code 31 = .ok (.iaload, 1) := by decide +kernel
theorem d_M_inside_32 : decode prog_14_method_79_code 32 = .ok (.iload_n 2, 1) := by decide +kernel
theorem d_M_inside_33 : decode prog_14_method_79_code 33 = .ok (.if_icmp .ge 6, 3) := by decide +kernel
theorem d_M_inside_36 : decode prog_14_method_79_code 36 = .ok (.iinc 3 1, 3) := by decide +kernel
theorem d_M_inside_39 : decode prog_14_method_79_code 39 = .ok (.iinc 4 1, 3) := by decide +kernel
theorem d_M_inside_42 : decode prog_14_method_79_code 42 = .ok (.goto (-37), 3) := by decide +kernel
theorem d_M_inside_45 : decode prog_14_method_79_code 45 = .ok (.iload_n 3, 1) := by decide +kernel
theorem d_M_inside_46 : decode prog_14_method_79_code 46 = .ok (.ireturn, 1) := by decide +kernel
theorem d_M_status_0 : decode prog_14_method_80_code 0 = .ok (.iload_n 1, 1) := by decide +kernel
theorem d_M_status_1 : decode prog_14_method_80_code 1 = .ok (.bipush 10, 2) := by decide +kernel
theorem d_M_status_3 : decode prog_14_method_80_code 3 = .ok (.if_icmp .le 19, 3) := by decide +kernel
theorem d_M_status_6 : decode prog_14_method_80_code 6 = .ok (.iload_n 1, 1) := by decide +kernel
theorem d_M_status_7 : decode prog_14_method_80_code 7 = .ok (.bipush 18, 2) := by decide +kernel
theorem d_M_status_9 : decode prog_14_method_80_code 9 = .ok (.if_icmp .ge 13, 3) := by decide +kernel
theorem d_M_status_12 : decode prog_14_method_80_code 12 = .ok (.aload_n 0, 1) := by decide +kernel
theorem d_M_status_13 : decode prog_14_method_80_code 13 = .ok (.getfield 130, 3) := by decide +kernel
theorem d_M_status_16 : decode prog_14_method_80_code 16 = .ok (.iload_n 1, 1) := by decide +kernel
theorem d_M_status_17 : decode prog_14_method_80_code 17 = .ok (.bipush 10, 2) := by decide +kernel
theorem d_M_status_19 : decode prog_14_method_80_code 19 = .ok (.isub, 1) := by decide +kernel
theorem d_M_status_20 : decode prog_14_method_80_code 20 = .ok (.iaload, 1) := by decide +kernel
theorem d_M_status_21 : decode prog_14_method_80_code 21 = .ok (.ireturn, 1) := by decide +kernel
theorem d_M_status_22 : decode prog_14_method_80_code 22 = .ok (.iload_n 1, 1) := by decide +kernel
theorem d_M_status_23 : decode prog_14_method_80_code 23 = .ok (.tableswitch 202 0 20 #[97, 102, 107, 112, 117, 127, 138, 149, 160, 171, 182, 202, 202, 202, 202, 202, 202, 202, 187, 192, 197], 97) := by decide +kernel
theorem d_M_status_120 : decode prog_14_method_80_code 120 = .ok (.aload_n 0, 1) := by decide +kernel
theorem d_M_status_121 : decode prog_14_method_80_code 121 = .ok (.getfield 151, 3) := by decide +kernel
theorem d_M_status_124 : decode prog_14_method_80_code 124 = .ok (.ireturn, 1) := by decide +kernel
theorem d_M_status_125 : decode prog_14_method_80_code 125 = .ok (.aload_n 0, 1) := by decide +kernel
theorem d_M_status_126 : decode prog_14_method_80_code 126 = .ok (.getfield 168, 3) := by decide +kernel
theorem d_M_status_129 : decode prog_14_method_80_code 129 = .ok (.ireturn, 1) := by decide +kernel
theorem d_M_status_130 : decode prog_14_method_80_code 130 = .ok (.aload_n 0, 1) := by decide +kernel
theorem d_M_status_131 : decode prog_14_method_80_code 131 = .ok (.getfield 174, 3) := by decide +kernel
theorem d_M_status_134 : decode prog_14_method_80_code 134 = .ok (.ireturn, 1) := by decide +kernel
theorem d_M_status_135 : decode prog_14_method_80_code 135 = .ok (.aload_n 0, 1) := by decide +kernel
theorem d_M_status_136 : decode prog_14_method_80_code 136 = .ok (.getfield 154, 3) := by decide +kernel
theorem d_M_status_139 : decode prog_14_method_80_code 139 = .ok (.ireturn, 1) := by decide +kernel
theorem d_M_status_140 : decode prog_14_method_80_code 140 = .ok (.aload_n 0, 1) := by decide +kernel
theorem d_M_status_141 : decode prog_14_method_80_code 141 = .ok (.bipush 100, 2) := by decide +kernel
theorem d_M_status_143 : decode prog_14_method_80_code 143 = .ok (.sipush 200, 3) := by decide +kernel
theorem d_M_status_146 : decode prog_14_method_80_code 146 = .ok (.invokevirtual 328, 3) := by decide +kernel
theorem d_M_status_149 : decode prog_14_method_80_code 149 = .ok (.ireturn, 1) := by decide +kernel
theorem d_M_status_150 : decode prog_14_method_80_code 150 = .ok (.aload_n 0, 1) := by decide +kernel
theorem d_M_status_151 : decode prog_14_method_80_code 151 = .ok (.sipush 200, 3) := by decide +kernel
theorem d_M_status_154 : decode prog_14_method_80_code 154 = .ok (.sipush 300, 3) := by decide +kernel
theorem d_M_status_157 : decode prog_14_method_80_code 157 = .ok (.invokevirtual 328, 3) := by decide +kernel
theorem d_M_status_160 : decode prog_14_method_80_code 160 = .ok (.ireturn, 1) := by decide +kernel
theorem d_M_status_161 : decode prog_14_method_80_code 161 = .ok (.aload_n 0, 1) := by decide +kernel
theorem d_M_status_162 : decode prog_14_method_80_code 162 = .ok (.sipush 300, 3) := by decide +kernel
theorem d_M_status_165 : decode prog_14_method_80_code 165 = .ok (.sipush 400, 3) := by decide +kernel
theorem d_M_status_168 : decode prog_14_method_80_code 168 = .ok (.invokevirtual 328, 3) := by decide +kernel
theorem d_M_status_171 : decode prog_14_method_80_code 171 = .ok (.ireturn, 1) := by decide +kernel
theorem d_M_status_172 : decode prog_14_method_80_code 172 = .ok (.aload_n 0, 1) := by decide +kernel
theorem d_M_status_173 : decode prog_14_method_80_code 173 = .ok (.sipush 400, 3) := by decide +kernel
theorem d_M_status_176 : decode prog_14_method_80_code 176 = .ok (.sipush 500, 3) := by decide +kernel
theorem d_M_status_179 : decode prog_14_method_80_code 179 = .ok (.invokevirtual 328, 3) := by decide +kernel
theorem d_M_status_182 : decode prog_14_method_80_code 182 = .ok (.ireturn, 1) := by decide +kernel
theorem d_M_status_183 : decode prog_14_method_80_code 183 = .ok (.aload_n 0, 1) := by decide +kernel
theorem d_M_status_184 : decode prog_14_method_80_code 184 = .ok (.sipush 500, 3) := by decide +kernel
theorem d_M_status_187 : decode prog_14_method_80_code 187 = .ok (.sipush 600, 3) := by decide +kernel
theorem d_M_status_190 : decode prog_14_method_80_code 190 = .ok (.invokevirtual 328, 3) := by decide +kernel
theorem d_M_status_193 : decode prog_14_method_80_code 193 = .ok (.ireturn, 1) := by decide +kernel
theorem d_M_status_194 : decode prog_14_method_80_code 194 = .ok (.aload_n 0, 1) := by decide +kernel
theorem d_M_status_195 : decode prog_14_method_80_code 195 = .ok (.sipush 600, 3) := by decide +kernel
theorem d_M_status_198 : decode prog_14_method_80_code 198 = .ok (.sipush 610, 3) := by decide +kernel
theorem d_M_status_201 : decode prog_14_method_80_code 201 = .ok (.invokevirtual 328, 3) := by decide +kernel
theorem d_M_status_204 : decode prog_14_method_80_code 204 = .ok (.ireturn, 1) := by decide +kernel
theorem d_M_status_205 : decode prog_14_method_80_code 205 = .ok (.aload_n 0, 1) := by decide +kernel
theorem d_M_status_206 : decode prog_14_method_80_code 206 = .ok (.getfield 165, 3) := by decide +kernel
theorem d_M_status_209 : decode prog_14_method_80_code 209 = .ok (.ireturn, 1) := by decide +kernel
theorem d_M_status_210 : decode prog_14_method_80_code 210 = .ok (.aload_n 0, 1) := by decide +kernel
theorem d_M_status_211 : decode prog_14_method_80_code 211 = .ok (.getfield 197, 3) := by decide +kernel
theorem d_M_status_214 : decode prog_14_method_80_code 214 = .ok (.ireturn, 1) := by decide +kernel
theorem d_M_status_215 : decode prog_14_method_80_code 215 = .ok (.aload_n 0, 1) := by decide +kernel
theorem d_M_status_216 : decode prog_14_method_80_code 216 = .ok (.getfield 259, 3) := by decide +kernel
theorem d_M_status_219 : decode prog_14_method_80_code 219 = .ok (.ireturn, 1) := by decide +kernel
theorem d_M_status_220 : decode prog_14_method_80_code 220 = .ok (.aload_n 0, 1) := by decide +kernel
theorem d_M_status_221 : decode prog_14_method_80_code 221 = .ok (.getfield 292, 3) := by decide +kernel
theorem d_M_status_224 : decode prog_14_method_80_code 224 = .ok (.ireturn, 1) := by decide +kernel
theorem d_M_status_225 : decode prog_14_method_80_code 225 = .ok (.iconst (-1), 1) := by decide +kernel
theorem d_M_status_226 : decode prog_14_method_80_code 226 = .ok (.ireturn, 1) := by decide +kernel
theorem d_Integer_bitCount_0 : decode prog_19_method_49_code 0 = .ok (.iload_n 0, 1) := by decide +kernel
theorem d_Integer_bitCount_1 : decode prog_19_method_49_code 1 = .ok (.iload_n 0, 1) := by decide +kernel
theorem d_Integer_bitCount_2 : decode prog_19_method_49_code 2 = .ok (.iconst 1, 1) := by decide +kernel
theorem d_Integer_bitCount_3 : decode prog_19_method_49_code 3 = .ok (.iushr, 1) := by decide +kernel
theorem d_Integer_bitCount_4 : decode prog_19_method_49_code 4 = .ok (.ldc_w 265, 3) := by decide +kernel
theorem d_Integer_bitCount_7 : decode prog_19_method_49_code 7 = .ok (.iand, 1) := by decide +kernel
theorem d_Integer_bitCount_8 : decode prog_19_method_49_code 8 = .ok (.isub, 1) := by decide +kernel
theorem d_Integer_bitCount_9 : decode prog_19_method_49_code 9 = .ok (.istore_n 0, 1) := by decide +kernel
theorem d_Integer_bitCount_10 : decode prog_19_method_49_code 10 = .ok (.iload_n 0, 1) := by decide +kernel
theorem d_Integer_bitCount_11 : decode prog_19_method_49_code 11 = .ok (.ldc_w 266, 3) := by decide +kernel
theorem d_Integer_bitCount_14 : decode prog_19_method_49_code 14 = .ok (.iand, 1) := by decide +kernel
theorem d_Integer_bitCount_15 : decode prog_19_method_49_code 15 = .ok (.iload_n 0, 1) := by decide +kernel
theorem d_Integer_bitCount_16 : decode prog_19_method_49_code 16 = .ok (.iconst 2, 1) := by decide +kernel
theorem d_Integer_bitCount_17 : decode prog_19_method_49_code 17 = .ok (.iushr, 1) := by decide +kernel
theorem d_Integer_bitCount_18 : decode prog_19_method_49_code 18 = .ok (.ldc_w 266, 3) := by decide +kernel
theorem d_Integer_bitCount_21 : decode prog_19_method_49_code 21 = .ok (.iand, 1) := by decide +kernel
theorem d_Integer_bitCount_22 : decode prog_19_method_49_code 22 = .ok (.iadd, 1) := by decide +kernel
theorem d_Integer_bitCount_23 : decode prog_19_method_49_code 23 = .ok (.istore_n 0, 1) := by decide +kernel
theorem d_Integer_bitCount_24 : decode prog_19_method_49_code 24 = .ok (.iload_n 0, 1) := by decide +kernel
theorem d_Integer_bitCount_25 : decode prog_19_method_49_code 25 = .ok (.iload_n 0, 1) := by decide +kernel
theorem d_Integer_bitCount_26 : decode prog_19_method_49_code 26 = .ok (.iconst 4, 1) := by decide +kernel
theorem d_Integer_bitCount_27 : decode prog_19_method_49_code 27 = .ok (.iushr, 1) := by decide +kernel
theorem d_Integer_bitCount_28 : decode prog_19_method_49_code 28 = .ok (.iadd, 1) := by decide +kernel
theorem d_Integer_bitCount_29 : decode prog_19_method_49_code 29 = .ok (.ldc_w 267, 3) := by decide +kernel
theorem d_Integer_bitCount_32 : decode prog_19_method_49_code 32 = .ok (.iand, 1) := by decide +kernel
theorem d_Integer_bitCount_33 : decode prog_19_method_49_code 33 = .ok (.istore_n 0, 1) := by decide +kernel
theorem d_Integer_bitCount_34 : decode prog_19_method_49_code 34 = .ok (.iload_n 0, 1) := by decide +kernel
theorem d_Integer_bitCount_35 : decode prog_19_method_49_code 35 = .ok (.iload_n 0, 1) := by decide +kernel
theorem d_Integer_bitCount_36 : decode prog_19_method_49_code 36 = .ok (.bipush 8, 2) := by decide +kernel
theorem d_Integer_bitCount_38 : decode prog_19_method_49_code 38 = .ok (.iushr, 1) := by decide +kernel
theorem d_Integer_bitCount_39 : decode prog_19_method_49_code 39 = .ok (.iadd, 1) := by decide +kernel
theorem d_Integer_bitCount_40 : decode prog_19_method_49_code 40 = .ok (.istore_n 0, 1) := by decide +kernel
theorem d_Integer_bitCount_41 : decode prog_19_method_49_code 41 = .ok (.iload_n 0, 1) := by decide +kernel
theorem d_Integer_bitCount_42 : decode prog_19_method_49_code 42 = .ok (.iload_n 0, 1) := by decide +kernel
theorem d_Integer_bitCount_43 : decode prog_19_method_49_code 43 = .ok (.bipush 16, 2) := by decide +kernel
theorem d_Integer_bitCount_45 : decode prog_19_method_49_code 45 = .ok (.iushr, 1) := by decide +kernel
theorem d_Integer_bitCount_46 : decode prog_19_method_49_code 46 = .ok (.iadd, 1) := by decide +kernel
theorem d_Integer_bitCount_47 : decode prog_19_method_49_code 47 = .ok (.istore_n 0, 1) := by decide +kernel
theorem d_Integer_bitCount_48 : decode prog_19_method_49_code 48 = .ok (.iload_n 0, 1) := by decide +kernel
theorem d_Integer_bitCount_49 : decode prog_19_method_49_code 49 = .ok (.bipush 63, 2) := by decide +kernel
theorem d_Integer_bitCount_51 : decode prog_19_method_49_code 51 = .ok (.iand, 1) := by decide +kernel
theorem d_Integer_bitCount_52 : decode prog_19_method_49_code 52 = .ok (.ireturn, 1) := by decide +kernel
theorem d_Math_max_a_0 : decode prog_21_method_65_code 0 = .ok (.iload_n 0, 1) := by decide +kernel
theorem d_Math_max_a_1 : decode prog_21_method_65_code 1 = .ok (.iload_n 1, 1) := by decide +kernel
theorem d_Math_max_a_2 : decode prog_21_method_65_code 2 = .ok (.if_icmp .lt 7, 3) := by decide +kernel
theorem d_Math_max_a_5 : decode prog_21_method_65_code 5 = .ok (.iload_n 0, 1) := by decide +kernel
theorem d_Math_max_a_6 : decode prog_21_method_65_code 6 = .ok (.goto 4, 3) := by decide +kernel
theorem d_Math_max_a_9 : decode prog_21_method_65_code 9 = .ok (.iload_n 1, 1) := by decide +kernel
theorem d_Math_max_a_10 : decode prog_21_method_65_code 10 = .ok (.ireturn, 1) := by decide +kernel
theorem d_Math_max_b_0 : decode prog_21_method_66_code 0 = .ok (.lload_n 0, 1) := by decide +kernel
theorem d_Math_max_b_1 : decode prog_21_method_66_code 1 = .ok (.lload_n 2, 1) := by decide +kernel
theorem d_Math_max_b_2 : decode prog_21_method_66_code 2 = .ok (.lcmp, 1) := by decide +kernel
theorem d_Math_max_b_3 : decode prog_21_method_66_code 3 = .ok (.ifCond .lt 7, 3) := by decide +kernel
theorem d_Math_max_b_6 : decode prog_21_method_66_code 6 = .ok (.lload_n 0, 1) := by decide +kernel
theorem d_Math_max_b_7 : decode prog_21_method_66_code 7 = .ok (.goto 4, 3) := by decide +kernel
theorem d_Math_max_b_10 : decode prog_21_method_66_code 10 = .ok (.lload_n 2, 1) := by decide +kernel
theorem d_Math_max_b_11 : decode prog_21_method_66_code 11 = .ok (.lreturn, 1) := by decide +kernel
theorem d_Math_min_a_0 : decode prog_21_method_69_code 0 = .ok (.iload_n 0, 1) := by decide +kernel
theorem d_Math_min_a_1 : decode prog_21_method_69_code 1 = .ok (.iload_n 1, 1) := by decide +kernel
theorem d_Math_min_a_2 : decode prog_21_method_69_code 2 = .ok (.if_icmp .gt 7, 3) := by decide +kernel
theorem d_Math_min_a_5 : decode prog_21_method_69_code 5 = .ok (.iload_n 0, 1) := by decide +kernel
theorem d_Math_min_a_6 : decode prog_21_method_69_code 6 = .ok (.goto 4, 3) := by decide +kernel
theorem d_Math_min_a_9 : decode prog_21_method_69_code 9 = .ok (.iload_n 1, 1) := by decide +kernel
theorem d_Math_min_a_10 : decode prog_21_method_69_code 10 = .ok (.ireturn, 1) := by decide +kernel
theorem d_Math_min_b_0 : decode prog_21_method_70_code 0 = .ok (.lload_n 0, 1) := by decide +kernel
theorem d_Math_min_b_1 : decode prog_21_method_70_code 1 = .ok (.lload_n 2, 1) := by decide +kernel
theorem d_Math_min_b_2 : decode prog_21_method_70_code 2 = .ok (.lcmp, 1) := by decide +kernel
theorem d_Math_min_b_3 : decode prog_21_method_70_code 3 = .ok (.ifCond .gt 7, 3) := by decide +kernel
theorem d_Math_min_b_6 : decode prog_21_method_70_code 6 = .ok (.lload_n 0, 1) := by decide +kernel
theorem d_Math_min_b_7 : decode prog_21_method_70_code 7 = .ok (.goto 4, 3) := by decide +kernel
theorem d_Math_min_b_10 : decode prog_21_method_70_code 10 = .ok (.lload_n 2, 1) := by decide +kernel
theorem d_Math_min_b_11 : decode prog_21_method_70_code 11 = .ok (.lreturn, 1) := by decide +kernel
theorem d_String_charAt_0 : decode prog_22_method_56_code 0 = .ok (.aload_n 0, 1) := by decide +kernel
theorem d_String_charAt_1 : decode prog_22_method_56_code 1 = .ok (.invokevirtual 492, 3) := by decide +kernel
theorem d_String_charAt_4 : decode prog_22_method_56_code 4 = .ok (.ifCond .eq 12, 3) := by decide +kernel
theorem d_String_charAt_7 : decode prog_22_method_56_code 7 = .ok (.aload_n 0, 1) := by decide +kernel
theorem d_String_charAt_8 : decode prog_22_method_56_code 8 = .ok (.getfield 9, 3) := by decide +kernel
theorem d_String_charAt_11 : decode prog_22_method_56_code 11 = .ok (.iload_n 1, 1) := by decide +kernel
theorem d_String_charAt_12 : decode prog_22_method_56_code 12 = .ok (.invokestatic 495, 3) := by decide +kernel
theorem d_String_charAt_15 : decode prog_22_method_56_code 15 = .ok (.ireturn, 1) := by decide +kernel
theorem d_String_charAt_16 : decode prog_22_method_56_code 16 = .ok (.aload_n 0, 1) := by decide +kernel
theorem d_String_charAt_17 : decode prog_22_method_56_code 17 = .ok (.getfield 9, 3) := by decide +kernel
theorem d_String_charAt_20 : decode prog_22_method_56_code 20 = .ok (.iload_n 1, 1) := by decide +kernel
theorem d_String_charAt_21 : decode prog_22_method_56_code 21 = .ok (.invokestatic 498, 3) := by decide +kernel
theorem d_String_charAt_24 : decode prog_22_method_56_code 24 = .ok (.ireturn, 1) := by decide +kernel
theorem d_String_isLatin1_0 : decode prog_22_method_154_code 0 = .ok (.getstatic 38, 3) := by decide +kernel
theorem d_String_isLatin1_3 : decode prog_22_method_154_code 3 = .ok (.ifCond .eq 14, 3) := by decide +kernel
theorem d_String_isLatin1_6 : decode prog_22_method_154_code 6 = .ok (.aload_n 0, 1) := by decide +kernel
theorem d_String_isLatin1_7 : decode prog_22_method_154_code 7 = .ok (.getfield 15, 3) := by decide +kernel
theorem d_String_isLatin1_10 : decode prog_22_method_154_code 10 = .ok (.ifCond .ne 7, 3) := by decide +kernel
theorem d_String_isLatin1_13 : decode prog_22_method_154_code 13 = .ok (.iconst 1, 1) := by decide +kernel
theorem d_String_isLatin1_14 : decode prog_22_method_154_code 14 = .ok (.goto 4, 3) := by decide +kernel
theorem d_String_isLatin1_17 : decode prog_22_method_154_code 17 = .ok (.iconst 0, 1) := by decide +kernel
theorem d_String_isLatin1_18 : decode prog_22_method_154_code 18 = .ok (.ireturn, 1) := by decide +kernel
theorem d_String_checkIndex_0 : decode prog_22_method_155_code 0 = .ok (.iload_n 0, 1) := by decide +kernel
theorem d_String_checkIndex_1 : decode prog_22_method_155_code 1 = .ok (.iload_n 1, 1) := by decide +kernel
theorem d_String_checkIndex_2 : decode prog_22_method_155_code 2 = .ok (.getstatic 1053, 3) := by decide +kernel
theorem d_String_checkIndex_5 : decode prog_22_method_155_code 5 = .ok (.invokestatic 1059, 3) := by decide +kernel
theorem d_String_checkIndex_8 : decode prog_22_method_155_code 8 = .ok (.pop, 1) := by decide +kernel
theorem d_String_checkIndex_9 : decode prog_22_method_155_code 9 = .ok (.return_, 1) := by decide +kernel
theorem d_StringLatin1_charAt_0 : decode prog_23_method_2_code 0 = .ok (.iload_n 1, 1) := by decide +kernel
theorem d_StringLatin1_charAt_1 : decode prog_23_method_2_code 1 = .ok (.aload_n 0, 1) := by decide +kernel
theorem d_StringLatin1_charAt_2 : decode prog_23_method_2_code 2 = .ok (.arraylength, 1) := by decide +kernel
theorem d_StringLatin1_charAt_3 : decode prog_23_method_2_code 3 = .ok (.invokestatic 9, 3) := by decide +kernel
theorem d_StringLatin1_charAt_6 : decode prog_23_method_2_code 6 = .ok (.aload_n 0, 1) := by decide +kernel
theorem d_StringLatin1_charAt_7 : decode prog_23_method_2_code 7 = .ok (.iload_n 1, 1) := by decide +kernel
theorem d_StringLatin1_charAt_8 : decode prog_23_method_2_code 8 = .ok (.baload, 1) := by decide +kernel
theorem d_StringLatin1_charAt_9 : decode prog_23_method_2_code 9 = .ok (.sipush 255, 3) := by decide +kernel
theorem d_StringLatin1_charAt_12 : decode prog_23_method_2_code 12 = .ok (.iand, 1) := by decide +kernel
theorem d_StringLatin1_charAt_13 : decode prog_23_method_2_code 13 = .ok (.i2c, 1) := by decide +kernel
theorem d_StringLatin1_charAt_14 : decode prog_23_method_2_code 14 = .ok (.ireturn, 1) := by decide +kernel
theorem d_StringUTF16_getChar_0 : decode prog_24_method_5_code 0 = .ok (.getstatic 44, 3) := by decide +kernel
theorem d_StringUTF16_getChar_3 : decode prog_24_method_5_code 3 = .ok (.ifCond .ne 25, 3) := by decide +kernel
theorem d_StringUTF16_getChar_6 : decode prog_24_method_5_code 6 = .ok (.iload_n 1, 1) := by decide +kernel
theorem d_StringUTF16_getChar_7 : decode prog_24_method_5_code 7 = .ok (.ifCond .lt 11, 3) := by decide +kernel
theorem d_StringUTF16_getChar_10 : decode prog_24_method_5_code 10 = .ok (.iload_n 1, 1) := by decide +kernel
theorem d_StringUTF16_getChar_11 : decode prog_24_method_5_code 11 = .ok (.aload_n 0, 1) := by decide +kernel
theorem d_StringUTF16_getChar_12 : decode prog_24_method_5_code 12 = .ok (.invokestatic 48, 3) := by decide +kernel
theorem d_StringUTF16_getChar_15 : decode prog_24_method_5_code 15 = .ok (.if_icmp .lt 13, 3) := by decide +kernel
theorem d_StringUTF16_getChar_18 : decode prog_24_method_5_code 18 = .ok (.new 52, 3) := by decide +kernel
theorem d_StringUTF16_getChar_21 : decode prog_24_method_5_code 21 = .ok (.dup, 1) := by decide +kernel
theorem d_StringUTF16_getChar_22 : decode prog_24_method_5_code 22 = .ok (.ldc 54, 2) := by decide +kernel
theorem d_StringUTF16_getChar_24 : decode prog_24_method_5_code 24 = .ok (.invokespecial 56, 3) := by decide +kernel
theorem d_StringUTF16_getChar_27 : decode prog_24_method_5_code 27 = .ok (.athrow, 1) := by decide +kernel
theorem d_StringUTF16_getChar_28 : decode prog_24_method_5_code 28 = .ok (.iload_n 1, 1) := by decide +kernel
theorem d_StringUTF16_getChar_29 : decode prog_24_method_5_code 29 = .ok (.iconst 1, 1) := by decide +kernel
theorem d_StringUTF16_getChar_30 : decode prog_24_method_5_code 30 = .ok (.ishl, 1) := by decide +kernel
theorem d_StringUTF16_getChar_31 : decode prog_24_method_5_code 31 = .ok (.istore_n 1, 1) := by decide +kernel
theorem d_StringUTF16_getChar_32 : decode prog_24_method_5_code 32 = .ok (.aload_n 0, 1) := by decide +kernel
theorem d_StringUTF16_getChar_33 : decode prog_24_method_5_code 33 = .ok (.iload_n 1, 1) := by decide +kernel
theorem d_StringUTF16_getChar_34 : decode prog_24_method_5_code 34 = .ok (.iinc 1 1, 3) := by decide +kernel
theorem d_StringUTF16_getChar_37 : decode prog_24_method_5_code 37 = .ok (.baload, 1) := by decide +kernel
theorem d_StringUTF16_getChar_38 : decode prog_24_method_5_code 38 = .ok (.sipush 255, 3) := by decide +kernel
theorem d_StringUTF16_getChar_41 : decode prog_24_method_5_code 41 = .ok (.iand, 1) := by decide +kernel
theorem d_StringUTF16_getChar_42 : decode prog_24_method_5_code 42 = .ok (.getstatic 59, 3) := by decide +kernel
theorem d_StringUTF16_getChar_45 : decode prog_24_method_5_code 45 = .ok (.ishl, 1) := by decide +kernel
theorem d_StringUTF16_getChar_46 : decode prog_24_method_5_code 46 = .ok (.aload_n 0, 1) := by decide +kernel
theorem d_StringUTF16_getChar_47 : decode prog_24_method_5_code 47 = .ok (.iload_n 1, 1) := by decide +kernel
theorem d_StringUTF16_getChar_48 : decode prog_24_method_5_code 48 = .ok (.baload, 1) := by decide +kernel
theorem d_StringUTF16_getChar_49 : decode prog_24_method_5_code 49 = .ok (.sipush 255, 3) := by decide +kernel
theorem d_StringUTF16_getChar_52 : decode prog_24_method_5_code 52 = .ok (.iand, 1) := by decide +kernel
theorem d_StringUTF16_getChar_53 : decode prog_24_method_5_code 53 = .ok (.getstatic 63, 3) := by decide +kernel
theorem d_StringUTF16_getChar_56 : decode prog_24_method_5_code 56 = .ok (.ishl, 1) := by decide +kernel
theorem d_StringUTF16_getChar_57 : decode prog_24_method_5_code 57 = .ok (.ior, 1) := by decide +kernel
theorem d_StringUTF16_getChar_58 : decode prog_24_method_5_code 58 = .ok (.i2c, 1) := by decide +kernel
theorem d_StringUTF16_getChar_59 : decode prog_24_method_5_code 59 = .ok (.ireturn, 1) := by decide +kernel
theorem d_StringUTF16_length_0 : decode prog_24_method_6_code 0 = .ok (.aload_n 0, 1) := by decide +kernel
theorem d_StringUTF16_length_1 : decode prog_24_method_6_code 1 = .ok (.arraylength, 1) := by decide +kernel
theorem d_StringUTF16_length_2 : decode prog_24_method_6_code 2 = .ok (.iconst 1, 1) := by decide +kernel
theorem d_StringUTF16_length_3 : decode prog_24_method_6_code 3 = .ok (.ishr, 1) := by decide +kernel
theorem d_StringUTF16_length_4 : decode prog_24_method_6_code 4 = .ok (.ireturn, 1) := by decide +kernel
theorem d_StringUTF16_charAt_0 : decode prog_24_method_83_code 0 = .ok (.iload_n 1, 1) := by decide +kernel
theorem d_StringUTF16_charAt_1 : decode prog_24_method_83_code 1 = .ok (.aload_n 0, 1) := by decide +kernel
theorem d_StringUTF16_charAt_2 : decode prog_24_method_83_code 2 = .ok (.invokestatic 67, 3) := by decide +kernel
theorem d_StringUTF16_charAt_5 : decode prog_24_method_83_code 5 = .ok (.aload_n 0, 1) := by decide +kernel
theorem d_StringUTF16_charAt_6 : decode prog_24_method_83_code 6 = .ok (.iload_n 1, 1) := by decide +kernel
theorem d_StringUTF16_charAt_7 : decode prog_24_method_83_code 7 = .ok (.invokestatic 71, 3) := by decide +kernel
theorem d_StringUTF16_charAt_10 : decode prog_24_method_83_code 10 = .ok (.ireturn, 1) := by decide +kernel
theorem d_StringUTF16_checkIndex_0 : decode prog_24_method_91_code 0 = .ok (.iload_n 0, 1) := by decide +kernel
theorem d_StringUTF16_checkIndex_1 : decode prog_24_method_91_code 1 = .ok (.aload_n 1, 1) := by decide +kernel
theorem d_StringUTF16_checkIndex_2 : decode prog_24_method_91_code 2 = .ok (.invokestatic 48, 3) := by decide +kernel
theorem d_StringUTF16_checkIndex_5 : decode prog_24_method_91_code 5 = .ok (.invokestatic 414, 3) := by decide +kernel
theorem d_StringUTF16_checkIndex_8 : decode prog_24_method_91_code 8 = .ok (.return_, 1) := by decide +kernel
theorem d_AC_init_0 : decode prog_28_method_1_code 0 = .ok (.aload_n 0, 1) := by decide +kernel
theorem d_AC_init_1 : decode prog_28_method_1_code 1 = .ok (.invokespecial 1, 3) := by decide +kernel
theorem d_AC_init_4 : decode prog_28_method_1_code 4 = .ok (.return_, 1) := by decide +kernel
theorem d_ABL_init_0 : decode prog_29_method_1_code 0 = .ok (.aload_n 0, 1) := by decide +kernel
theorem d_ABL_init_1 : decode prog_29_method_1_code 1 = .ok (.invokespecial 1, 3) := by decide +kernel
theorem d_ABL_init_4 : decode prog_29_method_1_code 4 = .ok (.aload_n 0, 1) := by decide +kernel
theorem d_ABL_init_5 : decode prog_29_method_1_code 5 = .ok (.iconst 0, 1) := by decide +kernel
theorem d_ABL_init_6 : decode prog_29_method_1_code 6 = .ok (.putfield 7, 3) := by decide +kernel
theorem d_ABL_init_9 : decode prog_29_method_1_code 9 = .ok (.return_, 1) := by decide +kernel
theorem d_AL_init_0 : decode prog_30_method_2_code 0 = .ok (.aload_n 0, 1) := by decide +kernel
theorem d_AL_init_1 : decode prog_30_method_2_code 1 = .ok (.invokespecial 1, 3) := by decide +kernel
theorem d_AL_init_4 : decode prog_30_method_2_code 4 = .ok (.aload_n 0, 1) := by decide +kernel
theorem d_AL_init_5 : decode prog_30_method_2_code 5 = .ok (.getstatic 39, 3) := by decide +kernel
theorem d_AL_init_8 : decode prog_30_method_2_code 8 = .ok (.putfield 9, 3) := by decide +kernel
theorem d_AL_init_11 : decode prog_30_method_2_code 11 = .ok (.return_, 1) := by decide +kernel
theorem d_AL_grow_b_0 : decode prog_30_method_6_code 0 = .ok (.aload_n 0, 1) := by decide +kernel
theorem d_AL_grow_b_1 : decode prog_30_method_6_code 1 = .ok (.getfield 9, 3) := by decide +kernel
theorem d_AL_grow_b_4 : decode prog_30_method_6_code 4 = .ok (.arraylength, 1) := by decide +kernel
theorem d_AL_grow_b_5 : decode prog_30_method_6_code 5 = .ok (.istore_n 2, 1) := by decide +kernel
theorem d_AL_grow_b_6 : decode prog_30_method_6_code 6 = .ok (.iload_n 2, 1) := by decide +kernel
theorem d_AL_grow_b_7 : decode prog_30_method_6_code 7 = .ok (.ifCond .gt 13, 3) := by decide +kernel
theorem d_AL_grow_b_10 : decode prog_30_method_6_code 10 = .ok (.aload_n 0, 1) := by decide +kernel
theorem d_AL_grow_b_11 : decode prog_30_method_6_code 11 = .ok (.getfield 9, 3) := by decide +kernel
theorem d_AL_grow_b_14 : decode prog_30_method_6_code 14 = .ok (.getstatic 39, 3) := by decide +kernel
theorem d_AL_grow_b_17 : decode prog_30_method_6_code 17 = .ok (.if_acmp .eq 28, 3) := by decide +kernel
theorem d_AL_grow_b_20 : decode prog_30_method_6_code 20 = .ok (.iload_n 2, 1) := by decide +kernel
theorem d_AL_grow_b_21 : decode prog_30_method_6_code 21 = .ok (.iload_n 1, 1) := by decide +kernel
theorem d_AL_grow_b_22 : decode prog_30_method_6_code 22 = .ok (.iload_n 2, 1) := by decide +kernel
theorem d_AL_grow_b_23 : decode prog_30_method_6_code 23 = .ok (.isub, 1) := by decide +kernel
theorem d_AL_grow_b_24 : decode prog_30_method_6_code 24 = .ok (.iload_n 2, 1) := by decide +kernel
theorem d_AL_grow_b_25 : decode prog_30_method_6_code 25 = .ok (.iconst 1, 1) := by decide +kernel
theorem d_AL_grow_b_26 : decode prog_30_method_6_code 26 = .ok (.ishr, 1) := by decide +kernel
theorem d_AL_grow_b_27 : decode prog_30_method_6_code 27 = .ok (.invokestatic 73, 3) := by decide +kernel
theorem d_AL_grow_b_30 : decode prog_30_method_6_code 30 = .ok (.istore_n 3, 1) := by decide +kernel
theorem d_AL_grow_b_31 : decode prog_30_method_6_code 31 = .ok (.aload_n 0, 1) := by decide +kernel
theorem d_AL_grow_b_32 : decode prog_30_method_6_code 32 = .ok (.aload_n 0, 1) := by decide +kernel
theorem d_AL_grow_b_33 : decode prog_30_method_6_code 33 = .ok (.getfield 9, 3) := by decide +kernel
theorem d_AL_grow_b_36 : decode prog_30_method_6_code 36 = .ok (.iload_n 3, 1) := by decide +kernel
theorem d_AL_grow_b_37 : decode prog_30_method_6_code 37 = .ok (.invokestatic 66, 3) := by decide +kernel
theorem d_AL_grow_b_40 : decode prog_30_method_6_code 40 = .ok (.dup_x1, 1) := by decide +kernel
theorem d_AL_grow_b_41 : decode prog_30_method_6_code 41 = .ok (.putfield 9, 3) := by decide +kernel
theorem d_AL_grow_b_44 : decode prog_30_method_6_code 44 = .ok (.areturn, 1) := by decide +kernel
theorem d_AL_grow_b_45 : decode prog_30_method_6_code 45 = .ok (.aload_n 0, 1) := by decide +kernel
theorem d_AL_grow_b_46 : decode prog_30_method_6_code 46 = .ok (.bipush 10, 2) := by decide +kernel
theorem d_AL_grow_b_48 : decode prog_30_method_6_code 48 = .ok (.iload_n 1, 1) := by decide +kernel
theorem d_AL_grow_b_49 : decode prog_30_method_6_code 49 = .ok (.invokestatic 79, 3) := by decide +kernel
theorem d_AL_grow_b_52 : decode prog_30_method_6_code 52 = .ok (.anewarray 7, 3) := by decide +kernel
theorem d_AL_grow_b_55 : decode prog_30_method_6_code 55 = .ok (.dup_x1, 1) := by decide +kernel
theorem d_AL_grow_b_56 : decode prog_30_method_6_code 56 = .ok (.putfield 9, 3) := by decide +kernel
theorem d_AL_grow_b_59 : decode prog_30_method_6_code 59 = .ok (.areturn, 1) := by decide +kernel
theorem d_AL_grow_a_0 : decode prog_30_method_7_code 0 = .ok (.aload_n 0, 1) := by decide +kernel
theorem d_AL_grow_a_1 : decode prog_30_method_7_code 1 = .ok (.aload_n 0, 1) := by decide +kernel
theorem d_AL_grow_a_2 : decode prog_30_method_7_code 2 = .ok (.getfield 48, 3) := by decide +kernel
theorem d_AL_grow_a_5 : decode prog_30_method_7_code 5 = .ok (.iconst 1, 1) := by decide +kernel
theorem d_AL_grow_a_6 : decode prog_30_method_7_code 6 = .ok (.iadd, 1) := by decide +kernel
theorem d_AL_grow_a_7 : decode prog_30_method_7_code 7 = .ok (.invokevirtual 69, 3) := by decide +kernel
theorem d_AL_grow_a_10 : decode prog_30_method_7_code 10 = .ok (.areturn, 1) := by decide +kernel
theorem d_AL_size_0 : decode prog_30_method_8_code 0 = .ok (.aload_n 0, 1) := by decide +kernel
theorem d_AL_size_1 : decode prog_30_method_8_code 1 = .ok (.getfield 48, 3) := by decide +kernel
theorem d_AL_size_4 : decode prog_30_method_8_code 4 = .ok (.ireturn, 1) := by decide +kernel
theorem d_AL_elementData_0 : decode prog_30_method_18_code 0 = .ok (.aload_n 0, 1) := by decide +kernel
theorem d_AL_elementData_1 : decode prog_30_method_18_code 1 = .ok (.getfield 9, 3) := by decide +kernel
theorem d_AL_elementData_4 : decode prog_30_method_18_code 4 = .ok (.iload_n 1, 1) := by decide +kernel
theorem d_AL_elementData_5 : decode prog_30_method_18_code 5 = .ok (.aaload, 1) := by decide +kernel
theorem d_AL_elementData_6 : decode prog_30_method_18_code 6 = .ok (.areturn, 1) := by decide +kernel
theorem d_AL_get_0 : decode prog_30_method_20_code 0 = .ok (.iload_n 1, 1) := by decide +kernel
theorem d_AL_get_1 : decode prog_30_method_20_code 1 = .ok (.aload_n 0, 1) := by decide +kernel
theorem d_AL_get_2 : decode prog_30_method_20_code 2 = .ok (.getfield 48, 3) := by decide +kernel
theorem d_AL_get_5 : decode prog_30_method_20_code 5 = .ok (.invokestatic 118, 3) := by decide +kernel
theorem d_AL_get_8 : decode prog_30_method_20_code 8 = .ok (.pop, 1) := by decide +kernel
theorem d_AL_get_9 : decode prog_30_method_20_code 9 = .ok (.aload_n 0, 1) := by decide +kernel
theorem d_AL_get_10 : decode prog_30_method_20_code 10 = .ok (.iload_n 1, 1) := by decide +kernel
theorem d_AL_get_11 : decode prog_30_method_20_code 11 = .ok (.invokevirtual 123, 3) := by decide +kernel
theorem d_AL_get_14 : decode prog_30_method_20_code 14 = .ok (.areturn, 1) := by decide +kernel
theorem d_AL_add_c_0 : decode prog_30_method_24_code 0 = .ok (.iload_n 3, 1) := by decide +kernel
theorem d_AL_add_c_1 : decode prog_30_method_24_code 1 = .ok (.aload_n 2, 1) := by decide +kernel
theorem d_AL_add_c_2 : decode prog_30_method_24_code 2 = .ok (.arraylength, 1) := by decide +kernel
theorem d_AL_add_c_3 : decode prog_30_method_24_code 3 = .ok (.if_icmp .ne 8, 3) := by decide +kernel
theorem d_AL_add_c_6 : decode prog_30_method_24_code 6 = .ok (.aload_n 0, 1) := by decide +kernel
theorem d_AL_add_c_7 : decode prog_30_method_24_code 7 = .ok (.invokevirtual 129, 3) := by decide +kernel
theorem d_AL_add_c_10 : decode prog_30_method_24_code 10 = .ok (.astore_n 2, 1) := by decide +kernel
theorem d_AL_add_c_11 : decode prog_30_method_24_code 11 = .ok (.aload_n 2, 1) := by decide +kernel
theorem d_AL_add_c_12 : decode prog_30_method_24_code 12 = .ok (.iload_n 3, 1) := by decide +kernel
theorem d_AL_add_c_13 : decode prog_30_method_24_code 13 = .ok (.aload_n 1, 1) := by decide +kernel
theorem d_AL_add_c_14 : decode prog_30_method_24_code 14 = .ok (.aastore, 1) := by decide +kernel
theorem d_AL_add_c_15 : decode prog_30_method_24_code 15 = .ok (.aload_n 0, 1) := by decide +kernel
theorem d_AL_add_c_16 : decode prog_30_method_24_code 16 = .ok (.iload_n 3, 1) := by decide +kernel
theorem d_AL_add_c_17 : decode prog_30_method_24_code 17 = .ok (.iconst 1, 1) := by decide +kernel
theorem d_AL_add_c_18 : decode prog_30_method_24_code 18 = .ok (.iadd, 1) := by decide +kernel
theorem d_AL_add_c_19 : decode prog_30_method_24_code 19 = .ok (.putfield 48, 3) := by decide +kernel
theorem d_AL_add_c_22 : decode prog_30_method_24_code 22 = .ok (.return_, 1) := by decide +kernel
theorem d_AL_add_b_0 : decode prog_30_method_25_code 0 = .ok (.aload_n 0, 1) := by decide +kernel
theorem d_AL_add_b_1 : decode prog_30_method_25_code 1 = .ok (.dup, 1) := by decide +kernel
theorem d_AL_add_b_2 : decode prog_30_method_25_code 2 = .ok (.getfield 63, 3) := by decide +kernel
theorem d_AL_add_b_5 : decode prog_30_method_25_code 5 = .ok (.iconst 1, 1) := by decide +kernel
theorem d_AL_add_b_6 : decode prog_30_method_25_code 6 = .ok (.iadd, 1) := by decide +kernel
theorem d_AL_add_b_7 : decode prog_30_method_25_code 7 = .ok (.putfield 63, 3) := by decide +kernel
theorem d_AL_add_b_10 : decode prog_30_method_25_code 10 = .ok (.aload_n 0, 1) := by decide +kernel
theorem d_AL_add_b_11 : decode prog_30_method_25_code 11 = .ok (.aload_n 1, 1) := by decide +kernel
theorem d_AL_add_b_12 : decode prog_30_method_25_code 12 = .ok (.aload_n 0, 1) := by decide +kernel
theorem d_AL_add_b_13 : decode prog_30_method_25_code 13 = .ok (.getfield 9, 3) := by decide +kernel
theorem d_AL_add_b_16 : decode prog_30_method_25_code 16 = .ok (.aload_n 0, 1) := by decide +kernel
theorem d_AL_add_b_17 : decode prog_30_method_25_code 17 = .ok (.getfield 48, 3) := by decide +kernel
theorem d_AL_add_b_20 : decode prog_30_method_25_code 20 = .ok (.invokevirtual 131, 3) := by decide +kernel
theorem d_AL_add_b_23 : decode prog_30_method_25_code 23 = .ok (.iconst 1, 1) := by decide +kernel
theorem d_AL_add_b_24 : decode prog_30_method_25_code 24 = .ok (.ireturn, 1) := by decide +kernel
theorem d_AL_add_a_0 : decode prog_30_method_26_code 0 = .ok (.aload_n 0, 1) := by decide +kernel
theorem d_AL_add_a_1 : decode prog_30_method_26_code 1 = .ok (.iload_n 1, 1) := by decide +kernel
theorem d_AL_add_a_2 : decode prog_30_method_26_code 2 = .ok (.invokevirtual 135, 3) := by decide +kernel
theorem d_AL_add_a_5 : decode prog_30_method_26_code 5 = .ok (.aload_n 0, 1) := by decide +kernel
theorem d_AL_add_a_6 : decode prog_30_method_26_code 6 = .ok (.dup, 1) := by decide +kernel
theorem d_AL_add_a_7 : decode prog_30_method_26_code 7 = .ok (.getfield 63, 3) := by decide +kernel
theorem d_AL_add_a_10 : decode prog_30_method_26_code 10 = .ok (.iconst 1, 1) := by decide +kernel
theorem d_AL_add_a_11 : decode prog_30_method_26_code 11 = .ok (.iadd, 1) := by decide +kernel
theorem d_AL_add_a_12 : decode prog_30_method_26_code 12 = .ok (.putfield 63, 3) := by decide +kernel
theorem d_AL_add_a_15 : decode prog_30_method_26_code 15 = .ok (.aload_n 0, 1) := by decide +kernel
theorem d_AL_add_a_16 : decode prog_30_method_26_code 16 = .ok (.getfield 48, 3) := by decide +kernel
theorem d_AL_add_a_19 : decode prog_30_method_26_code 19 = .ok (.dup, 1) := by decide +kernel
theorem d_AL_add_a_20 : decode prog_30_method_26_code 20 = .ok (.istore_n 3, 1) := by decide +kernel
theorem d_AL_add_a_21 : decode prog_30_method_26_code 21 = .ok (.aload_n 0, 1) := by decide +kernel
theorem d_AL_add_a_22 : decode prog_30_method_26_code 22 = .ok (.getfield 9, 3) := by decide +kernel
theorem d_AL_add_a_25 : decode prog_30_method_26_code 25 = .ok (.dup, 1) := by decide +kernel
theorem d_AL_add_a_26 : decode prog_30_method_26_code 26 = .ok (.astore 4, 2) := by decide +kernel
theorem d_AL_add_a_28 : decode prog_30_method_26_code 28 = .ok (.arraylength, 1) := by decide +kernel
theorem d_AL_add_a_29 : decode prog_30_method_26_code 29 = .ok (.if_icmp .ne 9, 3) := by decide +kernel
theorem d_AL_add_a_32 : decode prog_30_method_26_code 32 = .ok (.aload_n 0, 1) := by decide +kernel
theorem d_AL_add_a_33 : decode prog_30_method_26_code 33 = .ok (.invokevirtual 129, 3) := by decide +kernel
theorem d_AL_add_a_36 : decode prog_30_method_26_code 36 = .ok (.astore 4, 2) := by decide +kernel
theorem d_AL_add_a_38 : decode prog_30_method_26_code 38 = .ok (.aload 4, 2) := by decide +kernel
theorem d_AL_add_a_40 : decode prog_30_method_26_code 40 = .ok (.iload_n 1, 1) := by decide +kernel
theorem d_AL_add_a_41 : decode prog_30_method_26_code 41 = .ok (.aload 4, 2) := by decide +kernel
theorem d_AL_add_a_43 : decode prog_30_method_26_code 43 = .ok (.iload_n 1, 1) := by decide +kernel
theorem d_AL_add_a_44 : decode prog_30_method_26_code 44 = .ok (.iconst 1, 1) := by decide +kernel
theorem d_AL_add_a_45 : decode prog_30_method_26_code 45 = .ok (.iadd, 1) := by decide +kernel
theorem d_AL_add_a_46 : decode prog_30_method_26_code 46 = .ok (.iload_n 3, 1) := by decide +kernel
theorem d_AL_add_a_47 : decode prog_30_method_26_code 47 = .ok (.iload_n 1, 1) := by decide +kernel
theorem d_AL_add_a_48 : decode prog_30_method_26_code 48 = .ok (.isub, 1) := by decide +kernel
theorem d_AL_add_a_49 : decode prog_30_method_26_code 49 = .ok (.invokestatic 112, 3) := by decide +kernel
theorem d_AL_add_a_52 : decode prog_30_method_26_code 52 = .ok (.aload 4, 2) := by decide +kernel
theorem d_AL_add_a_54 : decode prog_30_method_26_code 54 = .ok (.iload_n 1, 1) := by decide +kernel
theorem d_AL_add_a_55 : decode prog_30_method_26_code 55 = .ok (.aload_n 2, 1) := by decide +kernel
theorem d_AL_add_a_56 : decode prog_30_method_26_code 56 = .ok (.aastore, 1) := by decide +kernel
theorem d_AL_add_a_57 : decode prog_30_method_26_code 57 = .ok (.aload_n 0, 1) := by decide +kernel
theorem d_AL_add_a_58 : decode prog_30_method_26_code 58 = .ok (.iload_n 3, 1) := by decide +kernel
theorem d_AL_add_a_59 : decode prog_30_method_26_code 59 = .ok (.iconst 1, 1) := by decide +kernel
theorem d_AL_add_a_60 : decode prog_30_method_26_code 60 = .ok (.iadd, 1) := by decide +kernel
theorem d_AL_add_a_61 : decode prog_30_method_26_code 61 = .ok (.putfield 48, 3) := by decide +kernel
theorem d_AL_add_a_64 : decode prog_30_method_26_code 64 = .ok (.return_, 1) := by decide +kernel
theorem d_AL_clear_0 : decode prog_30_method_40_code 0 = .ok (.aload_n 0, 1) := by decide +kernel
theorem d_AL_clear_1 : decode prog_30_method_40_code 1 = .ok (.dup, 1) := by decide +kernel
theorem d_AL_clear_2 : decode prog_30_method_40_code 2 = .ok (.getfield 63, 3) := by decide +kernel
theorem d_AL_clear_5 : decode prog_30_method_40_code 5 = .ok (.iconst 1, 1) := by decide +kernel
theorem d_AL_clear_6 : decode prog_30_method_40_code 6 = .ok (.iadd, 1) := by decide +kernel
theorem d_AL_clear_7 : decode prog_30_method_40_code 7 = .ok (.putfield 63, 3) := by decide +kernel
theorem d_AL_clear_10 : decode prog_30_method_40_code 10 = .ok (.aload_n 0, 1) := by decide +kernel
theorem d_AL_clear_11 : decode prog_30_method_40_code 11 = .ok (.getfield 9, 3) := by decide +kernel
theorem d_AL_clear_14 : decode prog_30_method_40_code 14 = .ok (.astore_n 1, 1) := by decide +kernel
theorem d_AL_clear_15 : decode prog_30_method_40_code 15 = .ok (.aload_n 0, 1) := by decide +kernel
theorem d_AL_clear_16 : decode prog_30_method_40_code 16 = .ok (.getfield 48, 3) := by decide +kernel
theorem d_AL_clear_19 : decode prog_30_method_40_code 19 = .ok (.istore_n 2, 1) := by decide +kernel
theorem d_AL_clear_20 : decode prog_30_method_40_code 20 = .ok (.aload_n 0, 1) := by decide +kernel
theorem d_AL_clear_21 : decode prog_30_method_40_code 21 = .ok (.iconst 0, 1) := by decide +kernel
theorem d_AL_clear_22 : decode prog_30_method_40_code 22 = .ok (.dup_x1, 1) := by decide +kernel
theorem d_AL_clear_23 : decode prog_30_method_40_code 23 = .ok (.putfield 48, 3) := by decide +kernel
theorem d_AL_clear_26 : decode prog_30_method_40_code 26 = .ok (.istore_n 3, 1) := by decide +kernel
theorem d_AL_clear_27 : decode prog_30_method_40_code 27 = .ok (.iload_n 3, 1) := by decide +kernel
theorem d_AL_clear_28 : decode prog_30_method_40_code 28 = .ok (.iload_n 2, 1) := by decide +kernel
theorem d_AL_clear_29 : decode prog_30_method_40_code 29 = .ok (.if_icmp .ge 13, 3) := by decide +kernel
theorem d_AL_clear_32 : decode prog_30_method_40_code 32 = .ok (.aload_n 1, 1) := by decide +kernel
theorem d_AL_clear_33 : decode prog_30_method_40_code 33 = .ok (.iload_n 3, 1) := by decide +kernel
theorem d_AL_clear_34 : decode prog_30_method_40_code 34 = .ok (.aconst_null, 1) := by decide +kernel
theorem d_AL_clear_35 : decode prog_30_method_40_code 35 = .ok (.aastore, 1) := by decide +kernel
theorem d_AL_clear_36 : decode prog_30_method_40_code 36 = .ok (.iinc 3 1, 3) := by decide +kernel
theorem d_AL_clear_39 : decode prog_30_method_40_code 39 = .ok (.goto (-12), 3) := by decide +kernel
theorem d_AL_clear_42 : decode prog_30_method_40_code 42 = .ok (.return_, 1) := by decide +kernel
theorem d_AL_rangeCheckForAdd_0 : decode prog_30_method_45_code 0 = .ok (.iload_n 1, 1) := by decide +kernel
theorem d_AL_rangeCheckForAdd_1 : decode prog_30_method_45_code 1 = .ok (.aload_n 0, 1) := by decide +kernel
theorem d_AL_rangeCheckForAdd_2 : decode prog_30_method_45_code 2 = .ok (.getfield 48, 3) := by decide +kernel
theorem d_AL_rangeCheckForAdd_5 : decode prog_30_method_45_code 5 = .ok (.if_icmp .gt 7, 3) := by decide +kernel
theorem d_AL_rangeCheckForAdd_8 : decode prog_30_method_45_code 8 = .ok (.iload_n 1, 1) := by decide +kernel
theorem d_AL_rangeCheckForAdd_9 : decode prog_30_method_45_code 9 = .ok (.ifCond .ge 16, 3) := by decide +kernel
theorem d_AL_rangeCheckForAdd_12 : decode prog_30_method_45_code 12 = .ok (.new 187, 3) := by decide +kernel
theorem d_AL_rangeCheckForAdd_15 : decode prog_30_method_45_code 15 = .ok (.dup, 1) := by decide +kernel
theorem d_AL_rangeCheckForAdd_16 : decode prog_30_method_45_code 16 = .ok (.aload_n 0, 1) := by decide +kernel
theorem d_AL_rangeCheckForAdd_17 : decode prog_30_method_45_code 17 = .ok (.iload_n 1, 1) := by decide +kernel
theorem d_AL_rangeCheckForAdd_18 : decode prog_30_method_45_code 18 = .ok (.invokevirtual 198, 3) := by decide +kernel
theorem d_AL_rangeCheckForAdd_21 : decode prog_30_method_45_code 21 = .ok (.invokespecial 193, 3) := by decide +kernel
theorem d_AL_rangeCheckForAdd_24 : decode prog_30_method_45_code 24 = .ok (.athrow, 1) := by decide +kernel
theorem d_AL_rangeCheckForAdd_25 : decode prog_30_method_45_code 25 = .ok (.return_, 1) := by decide +kernel
theorem d_Arrays_fill_b_0 : decode prog_31_method_101_code 0 = .ok (.iconst 0, 1) := by decide +kernel
theorem d_Arrays_fill_b_1 : decode prog_31_method_101_code 1 = .ok (.istore_n 3, 1) := by decide +kernel
theorem d_Arrays_fill_b_2 : decode prog_31_method_101_code 2 = .ok (.aload_n 0, 1) := by decide +kernel
theorem d_Arrays_fill_b_3 : decode prog_31_method_101_code 3 = .ok (.arraylength, 1) := by decide +kernel
theorem d_Arrays_fill_b_4 : decode prog_31_method_101_code 4 = .ok (.istore 4, 2) := by decide +kernel
theorem d_Arrays_fill_b_6 : decode prog_31_method_101_code 6 = .ok (.iload_n 3, 1) := by decide +kernel
theorem d_Arrays_fill_b_7 : decode prog_31_method_101_code 7 = .ok (.iload 4, 2) := by decide +kernel
theorem d_Arrays_fill_b_9 : decode prog_31_method_101_code 9 = .ok (.if_icmp .ge 13, 3) := by decide +kernel
theorem d_Arrays_fill_b_12 : decode prog_31_method_101_code 12 = .ok (.aload_n 0, 1) := by decide +kernel
theorem d_Arrays_fill_b_13 : decode prog_31_method_101_code 13 = .ok (.iload_n 3, 1) := by decide +kernel
theorem d_Arrays_fill_b_14 : decode prog_31_method_101_code 14 = .ok (.lload_n 1, 1) := by decide +kernel
theorem d_Arrays_fill_b_15 : decode prog_31_method_101_code 15 = .ok (.lastore, 1) := by decide +kernel
theorem d_Arrays_fill_b_16 : decode prog_31_method_101_code 16 = .ok (.iinc 3 1, 3) := by decide +kernel
theorem d_Arrays_fill_b_19 : decode prog_31_method_101_code 19 = .ok (.goto (-13), 3) := by decide +kernel
theorem d_Arrays_fill_b_22 : decode prog_31_method_101_code 22 = .ok (.return_, 1) := by decide +kernel
theorem d_Arrays_fill_a_0 : decode prog_31_method_103_code 0 = .ok (.iconst 0, 1) := by decide +kernel
theorem d_Arrays_fill_a_1 : decode prog_31_method_103_code 1 = .ok (.istore_n 2, 1) := by decide +kernel
theorem d_Arrays_fill_a_2 : decode prog_31_method_103_code 2 = .ok (.aload_n 0, 1) := by decide +kernel
theorem d_Arrays_fill_a_3 : decode prog_31_method_103_code 3 = .ok (.arraylength, 1) := by decide +kernel
theorem d_Arrays_fill_a_4 : decode prog_31_method_103_code 4 = .ok (.istore_n 3, 1) := by decide +kernel
theorem d_Arrays_fill_a_5 : decode prog_31_method_103_code 5 = .ok (.iload_n 2, 1) := by decide +kernel
theorem d_Arrays_fill_a_6 : decode prog_31_method_103_code 6 = .ok (.iload_n 3, 1) := by decide +kernel
theorem d_Arrays_fill_a_7 : decode prog_31_method_103_code 7 = .ok (.if_icmp .ge 13, 3) := by decide +kernel
theorem d_Arrays_fill_a_10 : decode prog_31_method_103_code 10 = .ok (.aload_n 0, 1) := by decide +kernel
theorem d_Arrays_fill_a_11 : decode prog_31_method_103_code 11 = .ok (.iload_n 2, 1) := by decide +kernel
theorem d_Arrays_fill_a_12 : decode prog_31_method_103_code 12 = .ok (.iload_n 1, 1) := by decide +kernel
theorem d_Arrays_fill_a_13 : decode prog_31_method_103_code 13 = .ok (.iastore, 1) := by decide +kernel
theorem d_Arrays_fill_a_14 : decode prog_31_method_103_code 14 = .ok (.iinc 2 1, 3) := by decide +kernel
theorem d_Arrays_fill_a_17 : decode prog_31_method_103_code 17 = .ok (.goto (-12), 3) := by decide +kernel
theorem d_Arrays_fill_a_20 : decode prog_31_method_103_code 20 = .ok (.return_, 1) := by decide +kernel
theorem d_Arrays_copyOf_b_0 : decode prog_31_method_119_code 0 = .ok (.aload_n 0, 1) := by decide +kernel
theorem d_Arrays_copyOf_b_1 : decode prog_31_method_119_code 1 = .ok (.iload_n 1, 1) := by decide +kernel
theorem d_Arrays_copyOf_b_2 : decode prog_31_method_119_code 2 = .ok (.aload_n 0, 1) := by decide +kernel
theorem d_Arrays_copyOf_b_3 : decode prog_31_method_119_code 3 = .ok (.invokevirtual 86, 3) := by decide +kernel
theorem d_Arrays_copyOf_b_6 : decode prog_31_method_119_code 6 = .ok (.invokestatic 300, 3) := by decide +kernel
theorem d_Arrays_copyOf_b_9 : decode prog_31_method_119_code 9 = .ok (.areturn, 1) := by decide +kernel
theorem d_Arrays_copyOf_c_0 : decode prog_31_method_120_code 0 = .ok (.aload_n 2, 1) := by decide +kernel
theorem d_Arrays_copyOf_c_1 : decode prog_31_method_120_code 1 = .ok (.ldc 110, 2) := by decide +kernel
theorem d_Arrays_copyOf_c_3 : decode prog_31_method_120_code 3 = .ok (.if_acmp .ne 10, 3) := by decide +kernel
theorem d_Arrays_copyOf_c_6 : decode prog_31_method_120_code 6 = .ok (.iload_n 1, 1) := by decide +kernel
theorem d_Arrays_copyOf_c_7 : decode prog_31_method_120_code 7 = .ok (.anewarray 2, 3) := by decide +kernel
theorem d_Arrays_copyOf_c_10 : decode prog_31_method_120_code 10 = .ok (.goto 14, 3) := by decide +kernel
theorem d_Arrays_copyOf_c_13 : decode prog_31_method_120_code 13 = .ok (.aload_n 2, 1) := by decide +kernel
theorem d_Arrays_copyOf_c_14 : decode prog_31_method_120_code 14 = .ok (.invokevirtual 90, 3) := by decide +kernel
theorem d_Arrays_copyOf_c_17 : decode prog_31_method_120_code 17 = .ok (.iload_n 1, 1) := by decide +kernel
theorem d_Arrays_copyOf_c_18 : decode prog_31_method_120_code 18 = .ok (.invokestatic 95, 3) := by decide +kernel
theorem d_Arrays_copyOf_c_21 : decode prog_31_method_120_code 21 = .ok (.checkcast 110, 3) := by decide +kernel
theorem d_Arrays_copyOf_c_24 : decode prog_31_method_120_code 24 = .ok (.astore_n 3, 1) := by decide +kernel
theorem d_Arrays_copyOf_c_25 : decode prog_31_method_120_code 25 = .ok (.aload_n 0, 1) := by decide +kernel
theorem d_Arrays_copyOf_c_26 : decode prog_31_method_120_code 26 = .ok (.iconst 0, 1) := by decide +kernel
theorem d_Arrays_copyOf_c_27 : decode prog_31_method_120_code 27 = .ok (.aload_n 3, 1) := by decide +kernel
theorem d_Arrays_copyOf_c_28 : decode prog_31_method_120_code 28 = .ok (.iconst 0, 1) := by decide +kernel
theorem d_Arrays_copyOf_c_29 : decode prog_31_method_120_code 29 = .ok (.aload_n 0, 1) := by decide +kernel
theorem d_Arrays_copyOf_c_30 : decode prog_31_method_120_code 30 = .ok (.arraylength, 1) := by decide +kernel
theorem d_Arrays_copyOf_c_31 : decode prog_31_method_120_code 31 = .ok (.iload_n 1, 1) := by decide +kernel
theorem d_Arrays_copyOf_c_32 : decode prog_31_method_120_code 32 = .ok (.invokestatic 304, 3) := by decide +kernel
theorem d_Arrays_copyOf_c_35 : decode prog_31_method_120_code 35 = .ok (.invokestatic 150, 3) := by decide +kernel
theorem d_Arrays_copyOf_c_38 : decode prog_31_method_120_code 38 = .ok (.aload_n 3, 1) := by decide +kernel
theorem d_Arrays_copyOf_c_39 : decode prog_31_method_120_code 39 = .ok (.areturn, 1) := by decide +kernel
theorem d_Arrays_copyOf_a_0 : decode prog_31_method_123_code 0 = .ok (.iload_n 1, 1) := by decide +kernel
theorem d_Arrays_copyOf_a_1 : decode prog_31_method_123_code 1 = .ok (.aload_n 0, 1) := by decide +kernel
theorem d_Arrays_copyOf_a_2 : decode prog_31_method_123_code 2 = .ok (.arraylength, 1) := by decide +kernel
theorem d_Arrays_copyOf_a_3 : decode prog_31_method_123_code 3 = .ok (.if_icmp .ne 11, 3) := by decide +kernel
theorem d_Arrays_copyOf_a_6 : decode prog_31_method_123_code 6 = .ok (.aload_n 0, 1) := by decide +kernel
theorem d_Arrays_copyOf_a_7 : decode prog_31_method_123_code 7 = .ok (.invokevirtual 316, 3) := by decide +kernel
theorem d_Arrays_copyOf_a_10 : decode prog_31_method_123_code 10 = .ok (.checkcast 317, 3) := by decide +kernel
theorem d_Arrays_copyOf_a_13 : decode prog_31_method_123_code 13 = .ok (.areturn, 1) := by decide +kernel
theorem d_Arrays_copyOf_a_14 : decode prog_31_method_123_code 14 = .ok (.iload_n 1, 1) := by decide +kernel
theorem d_Arrays_copyOf_a_15 : decode prog_31_method_123_code 15 = .ok (.newarray .int, 2) := by decide +kernel
theorem d_Arrays_copyOf_a_17 : decode prog_31_method_123_code 17 = .ok (.astore_n 2, 1) := by decide +kernel
theorem d_Arrays_copyOf_a_18 : decode prog_31_method_123_code 18 = .ok (.aload_n 0, 1) := by decide +kernel
theorem d_Arrays_copyOf_a_19 : decode prog_31_method_123_code 19 = .ok (.iconst 0, 1) := by decide +kernel
theorem d_Arrays_copyOf_a_20 : decode prog_31_method_123_code 20 = .ok (.aload_n 2, 1) := by decide +kernel
theorem d_Arrays_copyOf_a_21 : decode prog_31_method_123_code 21 = .ok (.iconst 0, 1) := by decide +kernel
theorem d_Arrays_copyOf_a_22 : decode prog_31_method_123_code 22 = .ok (.aload_n 0, 1) := by decide +kernel
theorem d_Arrays_copyOf_a_23 : decode prog_31_method_123_code 23 = .ok (.arraylength, 1) := by decide +kernel
theorem d_Arrays_copyOf_a_24 : decode prog_31_method_123_code 24 = .ok (.iload_n 1, 1) := by decide +kernel
theorem d_Arrays_copyOf_a_25 : decode prog_31_method_123_code 25 = .ok (.invokestatic 304, 3) := by decide +kernel
theorem d_Arrays_copyOf_a_28 : decode prog_31_method_123_code 28 = .ok (.invokestatic 150, 3) := by decide +kernel
theorem d_Arrays_copyOf_a_31 : decode prog_31_method_123_code 31 = .ok (.aload_n 2, 1) := by decide +kernel
theorem d_Arrays_copyOf_a_32 : decode prog_31_method_123_code 32 = .ok (.areturn, 1) := by decide +kernel
theorem d_Objects_checkIndex_0 : decode prog_34_method_17_code 0 = .ok (.iload_n 0, 1) := by decide +kernel
theorem d_Objects_checkIndex_1 : decode prog_34_method_17_code 1 = .ok (.iload_n 1, 1) := by decide +kernel
theorem d_Objects_checkIndex_2 : decode prog_34_method_17_code 2 = .ok (.aconst_null, 1) := by decide +kernel
theorem d_Objects_checkIndex_3 : decode prog_34_method_17_code 3 = .ok (.invokestatic 105, 3) := by decide +kernel
theorem d_Objects_checkIndex_6 : decode prog_34_method_17_code 6 = .ok (.ireturn, 1) := by decide +kernel
theorem d_AS_newLength_0 : decode prog_37_method_27_code 0 = .ok (.iload_n 0, 1) := by decide +kernel
theorem d_AS_newLength_1 : decode prog_37_method_27_code 1 = .ok (.iload_n 1, 1) := by decide +kernel
theorem d_AS_newLength_2 : decode prog_37_method_27_code 2 = .ok (.iload_n 2, 1) := by decide +kernel
theorem d_AS_newLength_3 : decode prog_37_method_27_code 3 = .ok (.invokestatic 194, 3) := by decide +kernel
theorem d_AS_newLength_6 : decode prog_37_method_27_code 6 = .ok (.iadd, 1) := by decide +kernel
theorem d_AS_newLength_7 : decode prog_37_method_27_code 7 = .ok (.istore_n 3, 1) := by decide +kernel
theorem d_AS_newLength_8 : decode prog_37_method_27_code 8 = .ok (.iconst 0, 1) := by decide +kernel
theorem d_AS_newLength_9 : decode prog_37_method_27_code 9 = .ok (.iload_n 3, 1) := by decide +kernel
theorem d_AS_newLength_10 : decode prog_37_method_27_code 10 = .ok (.if_icmp .ge 11, 3) := by decide +kernel
theorem d_AS_newLength_13 : decode prog_37_method_27_code 13 = .ok (.iload_n 3, 1) := by decide +kernel
theorem d_AS_newLength_14 : decode prog_37_method_27_code 14 = .ok (.ldc 200, 2) := by decide +kernel
theorem d_AS_newLength_16 : decode prog_37_method_27_code 16 = .ok (.if_icmp .gt 5, 3) := by decide +kernel
theorem d_AS_newLength_19 : decode prog_37_method_27_code 19 = .ok (.iload_n 3, 1) := by decide +kernel
theorem d_AS_newLength_20 : decode prog_37_method_27_code 20 = .ok (.ireturn, 1) := by decide +kernel
theorem d_AS_newLength_21 : decode prog_37_method_27_code 21 = .ok (.iload_n 0, 1) := by decide +kernel
theorem d_AS_newLength_22 : decode prog_37_method_27_code 22 = .ok (.iload_n 1, 1) := by decide +kernel
theorem d_AS_newLength_23 : decode prog_37_method_27_code 23 = .ok (.invokestatic 201, 3) := by decide +kernel
theorem d_AS_newLength_26 : decode prog_37_method_27_code 26 = .ok (.ireturn, 1) := by decide +kernel
theorem d_AS_hugeLength_0 : decode prog_37_method_28_code 0 = .ok (.iload_n 0, 1) := by decide +kernel
theorem d_AS_hugeLength_1 : decode prog_37_method_28_code 1 = .ok (.iload_n 1, 1) := by decide +kernel
theorem d_AS_hugeLength_2 : decode prog_37_method_28_code 2 = .ok (.iadd, 1) := by decide +kernel
theorem d_AS_hugeLength_3 : decode prog_37_method_28_code 3 = .ok (.istore_n 2, 1) := by decide +kernel
theorem d_AS_hugeLength_4 : decode prog_37_method_28_code 4 = .ok (.iload_n 2, 1) := by decide +kernel
theorem d_AS_hugeLength_5 : decode prog_37_method_28_code 5 = .ok (.ifCond .ge 44, 3) := by decide +kernel
theorem d_AS_hugeLength_8 : decode prog_37_method_28_code 8 = .ok (.new 204, 3) := by decide +kernel
theorem d_AS_hugeLength_11 : decode prog_37_method_28_code 11 = .ok (.dup, 1) := by decide +kernel
theorem d_AS_hugeLength_12 : decode prog_37_method_28_code 12 = .ok (.new 89, 3) := by decide +kernel
theorem d_AS_hugeLength_15 : decode prog_37_method_28_code 15 = .ok (.dup, 1) := by decide +kernel
theorem d_AS_hugeLength_16 : decode prog_37_method_28_code 16 = .ok (.invokespecial 91, 3) := by decide +kernel
theorem d_AS_hugeLength_19 : decode prog_37_method_28_code 19 = .ok (.ldc 206, 2) := by decide +kernel
theorem d_AS_hugeLength_21 : decode prog_37_method_28_code 21 = .ok (.invokevirtual 94, 3) := by decide +kernel
theorem d_AS_hugeLength_24 : decode prog_37_method_28_code 24 = .ok (.iload_n 0, 1) := by decide +kernel
theorem d_AS_hugeLength_25 : decode prog_37_method_28_code 25 = .ok (.invokevirtual 98, 3) := by decide +kernel
theorem d_AS_hugeLength_28 : decode prog_37_method_28_code 28 = .ok (.ldc 208, 2) := by decide +kernel
theorem d_AS_hugeLength_30 : decode prog_37_method_28_code 30 = .ok (.invokevirtual 94, 3) := by decide +kernel
theorem d_AS_hugeLength_33 : decode prog_37_method_28_code 33 = .ok (.iload_n 1, 1) := by decide +kernel
theorem d_AS_hugeLength_34 : decode prog_37_method_28_code 34 = .ok (.invokevirtual 98, 3) := by decide +kernel
theorem d_AS_hugeLength_37 : decode prog_37_method_28_code 37 = .ok (.ldc 210, 2) := by decide +kernel
theorem d_AS_hugeLength_39 : decode prog_37_method_28_code 39 = .ok (.invokevirtual 94, 3) := by decide +kernel
theorem d_AS_hugeLength_42 : decode prog_37_method_28_code 42 = .ok (.invokevirtual 101, 3) := by decide +kernel
theorem d_AS_hugeLength_45 : decode prog_37_method_28_code 45 = .ok (.invokespecial 212, 3) := by decide +kernel
theorem d_AS_hugeLength_48 : decode prog_37_method_28_code 48 = .ok (.athrow, 1) := by decide +kernel
theorem d_AS_hugeLength_49 : decode prog_37_method_28_code 49 = .ok (.iload_n 2, 1) := by decide +kernel
theorem d_AS_hugeLength_50 : decode prog_37_method_28_code 50 = .ok (.ldc 200, 2) := by decide +kernel
theorem d_AS_hugeLength_52 : decode prog_37_method_28_code 52 = .ok (.if_icmp .gt 6, 3) := by decide +kernel
theorem d_AS_hugeLength_55 : decode prog_37_method_28_code 55 = .ok (.ldc 200, 2) := by decide +kernel
theorem d_AS_hugeLength_57 : decode prog_37_method_28_code 57 = .ok (.ireturn, 1) := by decide +kernel
theorem d_AS_hugeLength_58 : decode prog_37_method_28_code 58 = .ok (.iload_n 2, 1) := by decide +kernel
theorem d_AS_hugeLength_59 : decode prog_37_method_28_code 59 = .ok (.ireturn, 1) := by decide +kernel
theorem d_PC_checkIndex_0 : decode prog_38_method_11_code 0 = .ok (.iload_n 0, 1) := by decide +kernel
theorem d_PC_checkIndex_1 : decode prog_38_method_11_code 1 = .ok (.ifCond .lt 8, 3) := by decide +kernel
theorem d_PC_checkIndex_4 : decode prog_38_method_11_code 4 = .ok (.iload_n 0, 1) := by decide +kernel
theorem d_PC_checkIndex_5 : decode prog_38_method_11_code 5 = .ok (.iload_n 1, 1) := by decide +kernel
theorem d_PC_checkIndex_6 : decode prog_38_method_11_code 6 = .ok (.if_icmp .lt 10, 3) := by decide +kernel
theorem d_PC_checkIndex_9 : decode prog_38_method_11_code 9 = .ok (.aload_n 2, 1) := by decide +kernel
theorem d_PC_checkIndex_10 : decode prog_38_method_11_code 10 = .ok (.iload_n 0, 1) := by decide +kernel
theorem d_PC_checkIndex_11 : decode prog_38_method_11_code 11 = .ok (.iload_n 1, 1) := by decide +kernel
theorem d_PC_checkIndex_12 : decode prog_38_method_11_code 12 = .ok (.invokestatic 95, 3) := by decide +kernel
theorem d_PC_checkIndex_15 : decode prog_38_method_11_code 15 = .ok (.athrow, 1) := by decide +kernel
theorem d_PC_checkIndex_16 : decode prog_38_method_11_code 16 = .ok (.iload_n 0, 1) := by decide +kernel
theorem d_PC_checkIndex_17 : decode prog_38_method_11_code 17 = .ok (.ireturn, 1) := by decide +kernel
theorem d_L_law_0 : decode code 0 = .ok (.new 7, 3) := by decide +kernel
theorem d_L_law_3 : decode code 3 = .ok (.dup, 1) := by decide +kernel
theorem d_L_law_4 : decode code 4 = .ok (.invokespecial 9, 3) := by decide +kernel
theorem d_L_law_7 : decode code 7 = .ok (.astore_n 1, 1) := by decide +kernel
theorem d_L_law_8 : decode code 8 = .ok (.new 10, 3) := by decide +kernel
theorem d_L_law_11 : decode code 11 = .ok (.dup, 1) := by decide +kernel
theorem d_L_law_12 : decode code 12 = .ok (.invokespecial 12, 3) := by decide +kernel
theorem d_L_law_15 : decode code 15 = .ok (.astore_n 2, 1) := by decide +kernel
theorem d_L_law_16 : decode code 16 = .ok (.iconst 0, 1) := by decide +kernel
theorem d_L_law_17 : decode code 17 = .ok (.istore_n 3, 1) := by decide +kernel
theorem d_L_law_18 : decode code 18 = .ok (.iload_n 3, 1) := by decide +kernel
theorem d_L_law_19 : decode code 19 = .ok (.aload_n 0, 1) := by decide +kernel
theorem d_L_law_20 : decode code 20 = .ok (.arraylength, 1) := by decide +kernel
theorem d_L_law_21 : decode code 21 = .ok (.bipush 6, 2) := by decide +kernel
theorem d_L_law_23 : decode code 23 = .ok (.isub, 1) := by decide +kernel
theorem d_L_law_24 : decode code 24 = .ok (.if_icmp .gt 1571, 3) := by decide +kernel
theorem d_L_law_27 : decode code 27 = .ok (.aload_n 0, 1) := by decide +kernel
theorem d_L_law_28 : decode code 28 = .ok (.iload_n 3, 1) := by decide +kernel
theorem d_L_law_29 : decode code 29 = .ok (.iaload, 1) := by decide +kernel
theorem d_L_law_30 : decode code 30 = .ok (.bipush 63, 2) := by decide +kernel
theorem d_L_law_32 : decode code 32 = .ok (.iand, 1) := by decide +kernel
theorem d_L_law_33 : decode code 33 = .ok (.tableswitch 1556 0 40 #[179, 222, 245, 308, 331, 344, 377, 420, 493, 556, 590, 623, 646, 669, 692, 731, 744, 767, 800, 823, 846, 869, 892, 935, 968, 1001, 1044, 1077, 1100, 1139, 1172, 1195, 1218, 1241, 1294, 1327, 1360, 1393, 1436, 1479, 1533], 179) := by decide +kernel
theorem d_L_law_212 : decode code 212 = .ok (.aload_n 1, 1) := by decide +kernel
theorem d_L_law_213 : decode code 213 = .ok (.aload_n 0, 1) := by decide +kernel
theorem d_L_law_214 : decode code 214 = .ok (.iload_n 3, 1) := by decide +kernel
theorem d_L_law_215 : decode code 215 = .ok (.iconst 1, 1) := by decide +kernel
theorem d_L_law_216 : decode code 216 = .ok (.iadd, 1) := by decide +kernel
theorem d_L_law_217 : decode code 217 = .ok (.iaload, 1) := by decide +kernel
theorem d_L_law_218 : decode code 218 = .ok (.aload_n 0, 1) := by decide +kernel
theorem d_L_law_219 : decode code 219 = .ok (.iload_n 3, 1) := by decide +kernel
theorem d_L_law_220 : decode code 220 = .ok (.iconst 2, 1) := by decide +kernel
theorem d_L_law_221 : decode code 221 = .ok (.iadd, 1) := by decide +kernel
theorem d_L_law_222 : decode code 222 = .ok (.iaload, 1) := by decide +kernel
theorem d_L_law_223 : decode code 223 = .ok (.aload_n 0, 1) := by decide +kernel
theorem d_L_law_224 : decode code 224 = .ok (.iload_n 3, 1) := by decide +kernel
theorem d_L_law_225 : decode code 225 = .ok (.iconst 3, 1) := by decide +kernel
theorem d_L_law_226 : decode code 226 = .ok (.iadd, 1) := by decide +kernel
theorem d_L_law_227 : decode code 227 = .ok (.iaload, 1) := by decide +kernel
theorem d_L_law_228 : decode code 228 = .ok (.invokevirtual 13, 3) := by decide +kernel
theorem d_L_law_231 : decode code 231 = .ok (.aload_n 2, 1) := by decide +kernel
theorem d_L_law_232 : decode code 232 = .ok (.aload_n 0, 1) := by decide +kernel
theorem d_L_law_233 : decode code 233 = .ok (.iload_n 3, 1) := by decide +kernel
theorem d_L_law_234 : decode code 234 = .ok (.iconst 1, 1) := by decide +kernel
theorem d_L_law_235 : decode code 235 = .ok (.iadd, 1) := by decide +kernel
theorem d_L_law_236 : decode code 236 = .ok (.iaload, 1) := by decide +kernel
theorem d_L_law_237 : decode code 237 = .ok (.aload_n 0, 1) := by decide +kernel
theorem d_L_law_238 : decode code 238 = .ok (.iload_n 3, 1) := by decide +kernel
theorem d_L_law_239 : decode code 239 = .ok (.iconst 2, 1) := by decide +kernel
theorem d_L_law_240 : decode code 240 = .ok (.iadd, 1) := by decide +kernel
theorem d_L_law_241 : decode code 241 = .ok (.iaload, 1) := by decide +kernel
theorem d_L_law_242 : decode code 242 = .ok (.aload_n 0, 1) := by decide +kernel
theorem d_L_law_243 : decode code 243 = .ok (.iload_n 3, 1) := by decide +kernel
theorem d_L_law_244 : decode code 244 = .ok (.iconst 3, 1) := by decide +kernel
theorem d_L_law_245 : decode code 245 = .ok (.iadd, 1) := by decide +kernel
theorem d_L_law_246 : decode code 246 = .ok (.iaload, 1) := by decide +kernel
theorem d_L_law_247 : decode code 247 = .ok (.invokevirtual 17, 3) := by decide +kernel
theorem d_L_law_250 : decode code 250 = .ok (.if_icmp .eq 1339, 3) := by decide +kernel
theorem d_L_law_253 : decode code 253 = .ok (.iconst 0, 1) := by decide +kernel
theorem d_L_law_254 : decode code 254 = .ok (.ireturn, 1) := by decide +kernel
theorem d_L_law_255 : decode code 255 = .ok (.aload_n 1, 1) := by decide +kernel
theorem d_L_law_256 : decode code 256 = .ok (.aload_n 0, 1) := by decide +kernel
theorem d_L_law_257 : decode code 257 = .ok (.iload_n 3, 1) := by decide +kernel
theorem d_L_law_258 : decode code 258 = .ok (.iconst 1, 1) := by decide +kernel
theorem d_L_law_259 : decode code 259 = .ok (.iadd, 1) := by decide +kernel
theorem d_L_law_260 : decode code 260 = .ok (.iaload, 1) := by decide +kernel
theorem d_L_law_261 : decode code 261 = .ok (.invokevirtual 18, 3) := by decide +kernel
theorem d_L_law_264 : decode code 264 = .ok (.aload_n 2, 1) := by decide +kernel
theorem d_L_law_265 : decode code 265 = .ok (.aload_n 0, 1) := by decide +kernel
theorem d_L_law_266 : decode code 266 = .ok (.iload_n 3, 1) := by decide +kernel
theorem d_L_law_267 : decode code 267 = .ok (.iconst 1, 1) := by decide +kernel
theorem d_L_law_268 : decode code 268 = .ok (.iadd, 1) := by decide +kernel
theorem d_L_law_269 : decode code 269 = .ok (.iaload, 1) := by decide +kernel
theorem d_L_law_270 : decode code 270 = .ok (.invokevirtual 22, 3) := by decide +kernel
theorem d_L_law_273 : decode code 273 = .ok (.if_icmp .eq 1316, 3) := by decide +kernel
theorem d_L_law_276 : decode code 276 = .ok (.iconst 0, 1) := by decide +kernel
theorem d_L_law_277 : decode code 277 = .ok (.ireturn, 1) := by decide +kernel
theorem d_L_law_278 : decode code 278 = .ok (.aload_n 1, 1) := by decide +kernel
theorem d_L_law_279 : decode code 279 = .ok (.aload_n 0, 1) := by decide +kernel
theorem d_L_law_280 : decode code 280 = .ok (.iload_n 3, 1) := by decide +kernel
theorem d_L_law_281 : decode code 281 = .ok (.iconst 1, 1) := by decide +kernel
theorem d_L_law_282 : decode code 282 = .ok (.iadd, 1) := by decide +kernel
theorem d_L_law_283 : decode code 283 = .ok (.iaload, 1) := by decide +kernel
theorem d_L_law_284 : decode code 284 = .ok (.aload_n 0, 1) := by decide +kernel
theorem d_L_law_285 : decode code 285 = .ok (.iload_n 3, 1) := by decide +kernel
theorem d_L_law_286 : decode code 286 = .ok (.iconst 2, 1) := by decide +kernel
theorem d_L_law_287 : decode code 287 = .ok (.iadd, 1) := by decide +kernel
theorem d_L_law_288 : decode code 288 = .ok (.iaload, 1) := by decide +kernel
theorem d_L_law_289 : decode code 289 = .ok (.aload_n 0, 1) := by decide +kernel
theorem d_L_law_290 : decode code 290 = .ok (.iload_n 3, 1) := by decide +kernel
theorem d_L_law_291 : decode code 291 = .ok (.iconst 3, 1) := by decide +kernel
theorem d_L_law_292 : decode code 292 = .ok (.iadd, 1) := by decide +kernel
theorem d_L_law_293 : decode code 293 = .ok (.iaload, 1) := by decide +kernel
theorem d_L_law_294 : decode code 294 = .ok (.aload_n 0, 1) := by decide +kernel
theorem d_L_law_295 : decode code 295 = .ok (.iload_n 3, 1) := by decide +kernel
theorem d_L_law_296 : decode code 296 = .ok (.iconst 4, 1) := by decide +kernel
theorem d_L_law_297 : decode code 297 = .ok (.iadd, 1) := by decide +kernel
theorem d_L_law_298 : decode code 298 = .ok (.iaload, 1) := by decide +kernel
theorem d_L_law_299 : decode code 299 = .ok (.aload_n 0, 1) := by decide +kernel
theorem d_L_law_300 : decode code 300 = .ok (.iload_n 3, 1) := by decide +kernel
theorem d_L_law_301 : decode code 301 = .ok (.iconst 5, 1) := by decide +kernel
theorem d_L_law_302 : decode code 302 = .ok (.iadd, 1) := by decide +kernel
theorem d_L_law_303 : decode code 303 = .ok (.iaload, 1) := by decide +kernel
theorem d_L_law_304 : decode code 304 = .ok (.invokevirtual 23, 3) := by decide +kernel
theorem d_L_law_307 : decode code 307 = .ok (.aload_n 2, 1) := by decide +kernel
theorem d_L_law_308 : decode code 308 = .ok (.aload_n 0, 1) := by decide +kernel
theorem d_L_law_309 : decode code 309 = .ok (.iload_n 3, 1) := by decide +kernel
theorem d_L_law_310 : decode code 310 = .ok (.iconst 1, 1) := by decide +kernel
theorem d_L_law_311 : decode code 311 = .ok (.iadd, 1) := by decide +kernel
theorem d_L_law_312 : decode code 312 = .ok (.iaload, 1) := by decide +kernel
theorem d_L_law_313 : decode code 313 = .ok (.aload_n 0, 1) := by decide +kernel
theorem d_L_law_314 : decode code 314 = .ok (.iload_n 3, 1) := by decide +kernel
theorem d_L_law_315 : decode code 315 = .ok (.iconst 2, 1) := by decide +kernel
theorem d_L_law_316 : decode code 316 = .ok (.iadd, 1) := by decide +kernel
theorem d_L_law_317 : decode code 317 = .ok (.iaload, 1) := by decide +kernel
theorem d_L_law_318 : decode code 318 = .ok (.aload_n 0, 1) := by decide +kernel
theorem d_L_law_319 : decode code 319 = .ok (.iload_n 3, 1) := by decide +kernel
theorem d_L_law_320 : decode code 320 = .ok (.iconst 3, 1) := by decide +kernel
theorem d_L_law_321 : decode code 321 = .ok (.iadd, 1) := by decide +kernel
theorem d_L_law_322 : decode code 322 = .ok (.iaload, 1) := by decide +kernel
theorem d_L_law_323 : decode code 323 = .ok (.aload_n 0, 1) := by decide +kernel
theorem d_L_law_324 : decode code 324 = .ok (.iload_n 3, 1) := by decide +kernel
theorem d_L_law_325 : decode code 325 = .ok (.iconst 4, 1) := by decide +kernel
theorem d_L_law_326 : decode code 326 = .ok (.iadd, 1) := by decide +kernel
theorem d_L_law_327 : decode code 327 = .ok (.iaload, 1) := by decide +kernel
theorem d_L_law_328 : decode code 328 = .ok (.aload_n 0, 1) := by decide +kernel
theorem d_L_law_329 : decode code 329 = .ok (.iload_n 3, 1) := by decide +kernel
theorem d_L_law_330 : decode code 330 = .ok (.iconst 5, 1) := by decide +kernel
theorem d_L_law_331 : decode code 331 = .ok (.iadd, 1) := by decide +kernel
theorem d_L_law_332 : decode code 332 = .ok (.iaload, 1) := by decide +kernel
theorem d_L_law_333 : decode code 333 = .ok (.invokevirtual 27, 3) := by decide +kernel
theorem d_L_law_336 : decode code 336 = .ok (.if_icmp .eq 1253, 3) := by decide +kernel
theorem d_L_law_339 : decode code 339 = .ok (.iconst 0, 1) := by decide +kernel
theorem d_L_law_340 : decode code 340 = .ok (.ireturn, 1) := by decide +kernel
theorem d_L_law_341 : decode code 341 = .ok (.aload_n 1, 1) := by decide +kernel
theorem d_L_law_342 : decode code 342 = .ok (.aload_n 0, 1) := by decide +kernel
theorem d_L_law_343 : decode code 343 = .ok (.iload_n 3, 1) := by decide +kernel
theorem d_L_law_344 : decode code 344 = .ok (.iconst 1, 1) := by decide +kernel
theorem d_L_law_345 : decode code 345 = .ok (.iadd, 1) := by decide +kernel
theorem d_L_law_346 : decode code 346 = .ok (.iaload, 1) := by decide +kernel
theorem d_L_law_347 : decode code 347 = .ok (.invokevirtual 28, 3) := by decide +kernel
theorem d_L_law_350 : decode code 350 = .ok (.aload_n 2, 1) := by decide +kernel
theorem d_L_law_351 : decode code 351 = .ok (.aload_n 0, 1) := by decide +kernel
theorem d_L_law_352 : decode code 352 = .ok (.iload_n 3, 1) := by decide +kernel
theorem d_L_law_353 : decode code 353 = .ok (.iconst 1, 1) := by decide +kernel
theorem d_L_law_354 : decode code 354 = .ok (.iadd, 1) := by decide +kernel
theorem d_L_law_355 : decode code 355 = .ok (.iaload, 1) := by decide +kernel
theorem d_L_law_356 : decode code 356 = .ok (.invokevirtual 31, 3) := by decide +kernel
theorem d_L_law_359 : decode code 359 = .ok (.if_icmp .eq 1230, 3) := by decide +kernel
theorem d_L_law_362 : decode code 362 = .ok (.iconst 0, 1) := by decide +kernel
theorem d_L_law_363 : decode code 363 = .ok (.ireturn, 1) := by decide +kernel
theorem d_L_law_364 : decode code 364 = .ok (.aload_n 1, 1) := by decide +kernel
theorem d_L_law_365 : decode code 365 = .ok (.invokevirtual 32, 3) := by decide +kernel
theorem d_L_law_368 : decode code 368 = .ok (.aload_n 2, 1) := by decide +kernel
theorem d_L_law_369 : decode code 369 = .ok (.invokevirtual 36, 3) := by decide +kernel
theorem d_L_law_372 : decode code 372 = .ok (.if_icmp .eq 1217, 3) := by decide +kernel
theorem d_L_law_375 : decode code 375 = .ok (.iconst 0, 1) := by decide +kernel
theorem d_L_law_376 : decode code 376 = .ok (.ireturn, 1) := by decide +kernel
theorem d_L_law_377 : decode code 377 = .ok (.aload_n 1, 1) := by decide +kernel
theorem d_L_law_378 : decode code 378 = .ok (.aload_n 0, 1) := by decide +kernel
theorem d_L_law_379 : decode code 379 = .ok (.iload_n 3, 1) := by decide +kernel
theorem d_L_law_380 : decode code 380 = .ok (.iconst 1, 1) := by decide +kernel
theorem d_L_law_381 : decode code 381 = .ok (.iadd, 1) := by decide +kernel
theorem d_L_law_382 : decode code 382 = .ok (.iaload, 1) := by decide +kernel
theorem d_L_law_383 : decode code 383 = .ok (.aload_n 0, 1) := by decide +kernel
theorem d_L_law_384 : decode code 384 = .ok (.iload_n 3, 1) := by decide +kernel
theorem d_L_law_385 : decode code 385 = .ok (.iconst 2, 1) := by decide +kernel
theorem d_L_law_386 : decode code 386 = .ok (.iadd, 1) := by decide +kernel
theorem d_L_law_387 : decode code 387 = .ok (.iaload, 1) := by decide +kernel
theorem d_L_law_388 : decode code 388 = .ok (.invokevirtual 37, 3) := by decide +kernel
theorem d_L_law_391 : decode code 391 = .ok (.aload_n 2, 1) := by decide +kernel
theorem d_L_law_392 : decode code 392 = .ok (.aload_n 0, 1) := by decide +kernel
theorem d_L_law_393 : decode code 393 = .ok (.iload_n 3, 1) := by decide +kernel
theorem d_L_law_394 : decode code 394 = .ok (.iconst 1, 1) := by decide +kernel
theorem d_L_law_395 : decode code 395 = .ok (.iadd, 1) := by decide +kernel
theorem d_L_law_396 : decode code 396 = .ok (.iaload, 1) := by decide +kernel
theorem d_L_law_397 : decode code 397 = .ok (.aload_n 0, 1) := by decide +kernel
theorem d_L_law_398 : decode code 398 = .ok (.iload_n 3, 1) := by decide +kernel
theorem d_L_law_399 : decode code 399 = .ok (.iconst 2, 1) := by decide +kernel
theorem d_L_law_400 : decode code 400 = .ok (.iadd, 1) := by decide +kernel
theorem d_L_law_401 : decode code 401 = .ok (.iaload, 1) := by decide +kernel
theorem d_L_law_402 : decode code 402 = .ok (.invokevirtual 41, 3) := by decide +kernel
theorem d_L_law_405 : decode code 405 = .ok (.if_icmp .eq 1184, 3) := by decide +kernel
theorem d_L_law_408 : decode code 408 = .ok (.iconst 0, 1) := by decide +kernel
theorem d_L_law_409 : decode code 409 = .ok (.ireturn, 1) := by decide +kernel
theorem d_L_law_410 : decode code 410 = .ok (.aload_n 1, 1) := by decide +kernel
theorem d_L_law_411 : decode code 411 = .ok (.aload_n 0, 1) := by decide +kernel
theorem d_L_law_412 : decode code 412 = .ok (.iload_n 3, 1) := by decide +kernel
theorem d_L_law_413 : decode code 413 = .ok (.iconst 1, 1) := by decide +kernel
theorem d_L_law_414 : decode code 414 = .ok (.iadd, 1) := by decide +kernel
theorem d_L_law_415 : decode code 415 = .ok (.iaload, 1) := by decide +kernel
theorem d_L_law_416 : decode code 416 = .ok (.aload_n 0, 1) := by decide +kernel
theorem d_L_law_417 : decode code 417 = .ok (.iload_n 3, 1) := by decide +kernel
theorem d_L_law_418 : decode code 418 = .ok (.iconst 2, 1) := by decide +kernel
theorem d_L_law_419 : decode code 419 = .ok (.iadd, 1) := by decide +kernel
theorem d_L_law_420 : decode code 420 = .ok (.iaload, 1) := by decide +kernel
theorem d_L_law_421 : decode code 421 = .ok (.aload_n 0, 1) := by decide +kernel
theorem d_L_law_422 : decode code 422 = .ok (.iload_n 3, 1) := by decide +kernel
theorem d_L_law_423 : decode code 423 = .ok (.iconst 3, 1) := by decide +kernel
theorem d_L_law_424 : decode code 424 = .ok (.iadd, 1) := by decide +kernel
theorem d_L_law_425 : decode code 425 = .ok (.iaload, 1) := by decide +kernel
theorem d_L_law_426 : decode code 426 = .ok (.invokevirtual 42, 3) := by decide +kernel
theorem d_L_law_429 : decode code 429 = .ok (.aload_n 2, 1) := by decide +kernel
theorem d_L_law_430 : decode code 430 = .ok (.aload_n 0, 1) := by decide +kernel
theorem d_L_law_431 : decode code 431 = .ok (.iload_n 3, 1) := by decide +kernel
theorem d_L_law_432 : decode code 432 = .ok (.iconst 1, 1) := by decide +kernel
theorem d_L_law_433 : decode code 433 = .ok (.iadd, 1) := by decide +kernel
theorem d_L_law_434 : decode code 434 = .ok (.iaload, 1) := by decide +kernel
theorem d_L_law_435 : decode code 435 = .ok (.aload_n 0, 1) := by decide +kernel
theorem d_L_law_436 : decode code 436 = .ok (.iload_n 3, 1) := by decide +kernel
theorem d_L_law_437 : decode code 437 = .ok (.iconst 2, 1) := by decide +kernel
theorem d_L_law_438 : decode code 438 = .ok (.iadd, 1) := by decide +kernel
theorem d_L_law_439 : decode code 439 = .ok (.iaload, 1) := by decide +kernel
theorem d_L_law_440 : decode code 440 = .ok (.aload_n 0, 1) := by decide +kernel
theorem d_L_law_441 : decode code 441 = .ok (.iload_n 3, 1) := by decide +kernel
theorem d_L_law_442 : decode code 442 = .ok (.iconst 3, 1) := by decide +kernel
theorem d_L_law_443 : decode code 443 = .ok (.iadd, 1) := by decide +kernel
theorem d_L_law_444 : decode code 444 = .ok (.iaload, 1) := by decide +kernel
theorem d_L_law_445 : decode code 445 = .ok (.invokevirtual 45, 3) := by decide +kernel
theorem d_L_law_448 : decode code 448 = .ok (.if_icmp .eq 1141, 3) := by decide +kernel
theorem d_L_law_451 : decode code 451 = .ok (.iconst 0, 1) := by decide +kernel
theorem d_L_law_452 : decode code 452 = .ok (.ireturn, 1) := by decide +kernel
theorem d_L_law_453 : decode code 453 = .ok (.aload_n 1, 1) := by decide +kernel
theorem d_L_law_454 : decode code 454 = .ok (.aload_n 0, 1) := by decide +kernel
theorem d_L_law_455 : decode code 455 = .ok (.iload_n 3, 1) := by decide +kernel
theorem d_L_law_456 : decode code 456 = .ok (.iconst 1, 1) := by decide +kernel
theorem d_L_law_457 : decode code 457 = .ok (.iadd, 1) := by decide +kernel
theorem d_L_law_458 : decode code 458 = .ok (.iaload, 1) := by decide +kernel
theorem d_L_law_459 : decode code 459 = .ok (.aload_n 0, 1) := by decide +kernel
theorem d_L_law_460 : decode code 460 = .ok (.iload_n 3, 1) := by decide +kernel
theorem d_L_law_461 : decode code 461 = .ok (.iconst 2, 1) := by decide +kernel
theorem d_L_law_462 : decode code 462 = .ok (.iadd, 1) := by decide +kernel
theorem d_L_law_463 : decode code 463 = .ok (.iaload, 1) := by decide +kernel
theorem d_L_law_464 : decode code 464 = .ok (.aload_n 0, 1) := by decide +kernel
theorem d_L_law_465 : decode code 465 = .ok (.iload_n 3, 1) := by decide +kernel
theorem d_L_law_466 : decode code 466 = .ok (.iconst 3, 1) := by decide +kernel
theorem d_L_law_467 : decode code 467 = .ok (.iadd, 1) := by decide +kernel
theorem d_L_law_468 : decode code 468 = .ok (.iaload, 1) := by decide +kernel
theorem d_L_law_469 : decode code 469 = .ok (.i2l, 1) := by decide +kernel
theorem d_L_law_470 : decode code 470 = .ok (.bipush 32, 2) := by decide +kernel
theorem d_L_law_472 : decode code 472 = .ok (.lshl, 1) := by decide +kernel
theorem d_L_law_473 : decode code 473 = .ok (.aload_n 0, 1) := by decide +kernel
theorem d_L_law_474 : decode code 474 = .ok (.iload_n 3, 1) := by decide +kernel
theorem d_L_law_475 : decode code 475 = .ok (.iconst 4, 1) := by decide +kernel
theorem d_L_law_476 : decode code 476 = .ok (.iadd, 1) := by decide +kernel
theorem d_L_law_477 : decode code 477 = .ok (.iaload, 1) := by decide +kernel
theorem d_L_law_478 : decode code 478 = .ok (.i2l, 1) := by decide +kernel
theorem d_L_law_479 : decode code 479 = .ok (.ldc2_w 46, 3) := by decide +kernel
theorem d_L_law_482 : decode code 482 = .ok (.land, 1) := by decide +kernel
theorem d_L_law_483 : decode code 483 = .ok (.lor, 1) := by decide +kernel
theorem d_L_law_484 : decode code 484 = .ok (.invokevirtual 48, 3) := by decide +kernel
theorem d_L_law_487 : decode code 487 = .ok (.aload_n 2, 1) := by decide +kernel
theorem d_L_law_488 : decode code 488 = .ok (.aload_n 0, 1) := by decide +kernel
theorem d_L_law_489 : decode code 489 = .ok (.iload_n 3, 1) := by decide +kernel
theorem d_L_law_490 : decode code 490 = .ok (.iconst 1, 1) := by decide +kernel
theorem d_L_law_491 : decode code 491 = .ok (.iadd, 1) := by decide +kernel
theorem d_L_law_492 : decode code 492 = .ok (.iaload, 1) := by decide +kernel
theorem d_L_law_493 : decode code 493 = .ok (.aload_n 0, 1) := by decide +kernel
theorem d_L_law_494 : decode code 494 = .ok (.iload_n 3, 1) := by decide +kernel
theorem d_L_law_495 : decode code 495 = .ok (.iconst 2, 1) := by decide +kernel
theorem d_L_law_496 : decode code 496 = .ok (.iadd, 1) := by decide +kernel
theorem d_L_law_497 : decode code 497 = .ok (.iaload, 1) := by decide +kernel
theorem d_L_law_498 : decode code 498 = .ok (.aload_n 0, 1) := by decide +kernel
theorem d_L_law_499 : decode code 499 = .ok (.iload_n 3, 1) := by decide +kernel
theorem d_L_law_500 : decode code 500 = .ok (.iconst 3, 1) := by decide +kernel
theorem d_L_law_501 : decode code 501 = .ok (.iadd, 1) := by decide +kernel
theorem d_L_law_502 : decode code 502 = .ok (.iaload, 1) := by decide +kernel
theorem d_L_law_503 : decode code 503 = .ok (.i2l, 1) := by decide +kernel
theorem d_L_law_504 : decode code 504 = .ok (.bipush 32, 2) := by decide +kernel
theorem d_L_law_506 : decode code 506 = .ok (.lshl, 1) := by decide +kernel
theorem d_L_law_507 : decode code 507 = .ok (.aload_n 0, 1) := by decide +kernel
theorem d_L_law_508 : decode code 508 = .ok (.iload_n 3, 1) := by decide +kernel
theorem d_L_law_509 : decode code 509 = .ok (.iconst 4, 1) := by decide +kernel
theorem d_L_law_510 : decode code 510 = .ok (.iadd, 1) := by decide +kernel
theorem d_L_law_511 : decode code 511 = .ok (.iaload, 1) := by decide +kernel
theorem d_L_law_512 : decode code 512 = .ok (.i2l, 1) := by decide +kernel
theorem d_L_law_513 : decode code 513 = .ok (.ldc2_w 46, 3) := by decide +kernel
theorem d_L_law_516 : decode code 516 = .ok (.land, 1) := by decide +kernel
theorem d_L_law_517 : decode code 517 = .ok (.lor, 1) := by decide +kernel
theorem d_L_law_518 : decode code 518 = .ok (.invokevirtual 52, 3) := by decide +kernel
theorem d_L_law_521 : decode code 521 = .ok (.if_icmp .eq 1068, 3) := by decide +kernel
theorem d_L_law_524 : decode code 524 = .ok (.iconst 0, 1) := by decide +kernel
theorem d_L_law_525 : decode code 525 = .ok (.ireturn, 1) := by decide +kernel
theorem d_L_law_526 : decode code 526 = .ok (.aload_n 1, 1) := by decide +kernel
theorem d_L_law_527 : decode code 527 = .ok (.aload_n 0, 1) := by decide +kernel
theorem d_L_law_528 : decode code 528 = .ok (.iload_n 3, 1) := by decide +kernel
theorem d_L_law_529 : decode code 529 = .ok (.iconst 1, 1) := by decide +kernel
theorem d_L_law_530 : decode code 530 = .ok (.iadd, 1) := by decide +kernel
theorem d_L_law_531 : decode code 531 = .ok (.iaload, 1) := by decide +kernel
theorem d_L_law_532 : decode code 532 = .ok (.aload_n 0, 1) := by decide +kernel
theorem d_L_law_533 : decode code 533 = .ok (.iload_n 3, 1) := by decide +kernel
theorem d_L_law_534 : decode code 534 = .ok (.iconst 2, 1) := by decide +kernel
theorem d_L_law_535 : decode code 535 = .ok (.iadd, 1) := by decide +kernel
theorem d_L_law_536 : decode code 536 = .ok (.iaload, 1) := by decide +kernel
theorem d_L_law_537 : decode code 537 = .ok (.aload_n 0, 1) := by decide +kernel
theorem d_L_law_538 : decode code 538 = .ok (.iload_n 3, 1) := by decide +kernel
theorem d_L_law_539 : decode code 539 = .ok (.iconst 3, 1) := by decide +kernel
theorem d_L_law_540 : decode code 540 = .ok (.iadd, 1) := by decide +kernel
theorem d_L_law_541 : decode code 541 = .ok (.iaload, 1) := by decide +kernel
theorem d_L_law_542 : decode code 542 = .ok (.aload_n 0, 1) := by decide +kernel
theorem d_L_law_543 : decode code 543 = .ok (.iload_n 3, 1) := by decide +kernel
theorem d_L_law_544 : decode code 544 = .ok (.iconst 4, 1) := by decide +kernel
theorem d_L_law_545 : decode code 545 = .ok (.iadd, 1) := by decide +kernel
theorem d_L_law_546 : decode code 546 = .ok (.iaload, 1) := by decide +kernel
theorem d_L_law_547 : decode code 547 = .ok (.aload_n 0, 1) := by decide +kernel
theorem d_L_law_548 : decode code 548 = .ok (.iload_n 3, 1) := by decide +kernel
theorem d_L_law_549 : decode code 549 = .ok (.iconst 5, 1) := by decide +kernel
theorem d_L_law_550 : decode code 550 = .ok (.iadd, 1) := by decide +kernel
theorem d_L_law_551 : decode code 551 = .ok (.iaload, 1) := by decide +kernel
theorem d_L_law_552 : decode code 552 = .ok (.invokevirtual 53, 3) := by decide +kernel
theorem d_L_law_555 : decode code 555 = .ok (.aload_n 2, 1) := by decide +kernel
theorem d_L_law_556 : decode code 556 = .ok (.aload_n 0, 1) := by decide +kernel
theorem d_L_law_557 : decode code 557 = .ok (.iload_n 3, 1) := by decide +kernel
theorem d_L_law_558 : decode code 558 = .ok (.iconst 1, 1) := by decide +kernel
theorem d_L_law_559 : decode code 559 = .ok (.iadd, 1) := by decide +kernel
theorem d_L_law_560 : decode code 560 = .ok (.iaload, 1) := by decide +kernel
theorem d_L_law_561 : decode code 561 = .ok (.aload_n 0, 1) := by decide +kernel
theorem d_L_law_562 : decode code 562 = .ok (.iload_n 3, 1) := by decide +kernel
theorem d_L_law_563 : decode code 563 = .ok (.iconst 2, 1) := by decide +kernel
theorem d_L_law_564 : decode code 564 = .ok (.iadd, 1) := by decide +kernel
theorem d_L_law_565 : decode code 565 = .ok (.iaload, 1) := by decide +kernel
theorem d_L_law_566 : decode code 566 = .ok (.aload_n 0, 1) := by decide +kernel
theorem d_L_law_567 : decode code 567 = .ok (.iload_n 3, 1) := by decide +kernel
theorem d_L_law_568 : decode code 568 = .ok (.iconst 3, 1) := by decide +kernel
theorem d_L_law_569 : decode code 569 = .ok (.iadd, 1) := by decide +kernel
theorem d_L_law_570 : decode code 570 = .ok (.iaload, 1) := by decide +kernel
theorem d_L_law_571 : decode code 571 = .ok (.aload_n 0, 1) := by decide +kernel
theorem d_L_law_572 : decode code 572 = .ok (.iload_n 3, 1) := by decide +kernel
theorem d_L_law_573 : decode code 573 = .ok (.iconst 4, 1) := by decide +kernel
theorem d_L_law_574 : decode code 574 = .ok (.iadd, 1) := by decide +kernel
theorem d_L_law_575 : decode code 575 = .ok (.iaload, 1) := by decide +kernel
theorem d_L_law_576 : decode code 576 = .ok (.aload_n 0, 1) := by decide +kernel
theorem d_L_law_577 : decode code 577 = .ok (.iload_n 3, 1) := by decide +kernel
theorem d_L_law_578 : decode code 578 = .ok (.iconst 5, 1) := by decide +kernel
theorem d_L_law_579 : decode code 579 = .ok (.iadd, 1) := by decide +kernel
theorem d_L_law_580 : decode code 580 = .ok (.iaload, 1) := by decide +kernel
theorem d_L_law_581 : decode code 581 = .ok (.invokevirtual 56, 3) := by decide +kernel
theorem d_L_law_584 : decode code 584 = .ok (.if_icmp .eq 1005, 3) := by decide +kernel
theorem d_L_law_587 : decode code 587 = .ok (.iconst 0, 1) := by decide +kernel
theorem d_L_law_588 : decode code 588 = .ok (.ireturn, 1) := by decide +kernel
theorem d_L_law_589 : decode code 589 = .ok (.aload_n 1, 1) := by decide +kernel
theorem d_L_law_590 : decode code 590 = .ok (.aload_n 0, 1) := by decide +kernel
theorem d_L_law_591 : decode code 591 = .ok (.iload_n 3, 1) := by decide +kernel
theorem d_L_law_592 : decode code 592 = .ok (.iconst 1, 1) := by decide +kernel
theorem d_L_law_593 : decode code 593 = .ok (.iadd, 1) := by decide +kernel
theorem d_L_law_594 : decode code 594 = .ok (.iaload, 1) := by decide +kernel
theorem d_L_law_595 : decode code 595 = .ok (.aload_n 0, 1) := by decide +kernel
theorem d_L_law_596 : decode code 596 = .ok (.iload_n 3, 1) := by decide +kernel
theorem d_L_law_597 : decode code 597 = .ok (.iconst 2, 1) := by decide +kernel
theorem d_L_law_598 : decode code 598 = .ok (.iadd, 1) := by decide +kernel
theorem d_L_law_599 : decode code 599 = .ok (.iaload, 1) := by decide +kernel
theorem d_L_law_600 : decode code 600 = .ok (.invokevirtual 57, 3) := by decide +kernel
theorem d_L_law_603 : decode code 603 = .ok (.aload_n 2, 1) := by decide +kernel
theorem d_L_law_604 : decode code 604 = .ok (.aload_n 0, 1) := by decide +kernel
theorem d_L_law_605 : decode code 605 = .ok (.iload_n 3, 1) := by decide +kernel
theorem d_L_law_606 : decode code 606 = .ok (.iconst 1, 1) := by decide +kernel
theorem d_L_law_607 : decode code 607 = .ok (.iadd, 1) := by decide +kernel
theorem d_L_law_608 : decode code 608 = .ok (.iaload, 1) := by decide +kernel
theorem d_L_law_609 : decode code 609 = .ok (.aload_n 0, 1) := by decide +kernel
theorem d_L_law_610 : decode code 610 = .ok (.iload_n 3, 1) := by decide +kernel
theorem d_L_law_611 : decode code 611 = .ok (.iconst 2, 1) := by decide +kernel
theorem d_L_law_612 : decode code 612 = .ok (.iadd, 1) := by decide +kernel
theorem d_L_law_613 : decode code 613 = .ok (.iaload, 1) := by decide +kernel
theorem d_L_law_614 : decode code 614 = .ok (.invokevirtual 61, 3) := by decide +kernel
theorem d_L_law_617 : decode code 617 = .ok (.lcmp, 1) := by decide +kernel
theorem d_L_law_618 : decode code 618 = .ok (.ifCond .eq 971, 3) := by decide +kernel
theorem d_L_law_621 : decode code 621 = .ok (.iconst 0, 1) := by decide +kernel
theorem d_L_law_622 : decode code 622 = .ok (.ireturn, 1) := by decide +kernel
theorem d_L_law_623 : decode code 623 = .ok (.aload_n 1, 1) := by decide +kernel
theorem d_L_law_624 : decode code 624 = .ok (.aload_n 0, 1) := by decide +kernel
theorem d_L_law_625 : decode code 625 = .ok (.iload_n 3, 1) := by decide +kernel
theorem d_L_law_626 : decode code 626 = .ok (.iconst 1, 1) := by decide +kernel
theorem d_L_law_627 : decode code 627 = .ok (.iadd, 1) := by decide +kernel
theorem d_L_law_628 : decode code 628 = .ok (.iaload, 1) := by decide +kernel
theorem d_L_law_629 : decode code 629 = .ok (.aload_n 0, 1) := by decide +kernel
theorem d_L_law_630 : decode code 630 = .ok (.iload_n 3, 1) := by decide +kernel
theorem d_L_law_631 : decode code 631 = .ok (.iconst 2, 1) := by decide +kernel
theorem d_L_law_632 : decode code 632 = .ok (.iadd, 1) := by decide +kernel
theorem d_L_law_633 : decode code 633 = .ok (.iaload, 1) := by decide +kernel
theorem d_L_law_634 : decode code 634 = .ok (.invokevirtual 62, 3) := by decide +kernel
theorem d_L_law_637 : decode code 637 = .ok (.aload_n 2, 1) := by decide +kernel
theorem d_L_law_638 : decode code 638 = .ok (.aload_n 0, 1) := by decide +kernel
theorem d_L_law_639 : decode code 639 = .ok (.iload_n 3, 1) := by decide +kernel
theorem d_L_law_640 : decode code 640 = .ok (.iconst 1, 1) := by decide +kernel
theorem d_L_law_641 : decode code 641 = .ok (.iadd, 1) := by decide +kernel
theorem d_L_law_642 : decode code 642 = .ok (.iaload, 1) := by decide +kernel
theorem d_L_law_643 : decode code 643 = .ok (.aload_n 0, 1) := by decide +kernel
theorem d_L_law_644 : decode code 644 = .ok (.iload_n 3, 1) := by decide +kernel
theorem d_L_law_645 : decode code 645 = .ok (.iconst 2, 1) := by decide +kernel
theorem d_L_law_646 : decode code 646 = .ok (.iadd, 1) := by decide +kernel
theorem d_L_law_647 : decode code 647 = .ok (.iaload, 1) := by decide +kernel
theorem d_L_law_648 : decode code 648 = .ok (.invokevirtual 65, 3) := by decide +kernel
theorem d_L_law_651 : decode code 651 = .ok (.if_icmp .eq 938, 3) := by decide +kernel
theorem d_L_law_654 : decode code 654 = .ok (.iconst 0, 1) := by decide +kernel
theorem d_L_law_655 : decode code 655 = .ok (.ireturn, 1) := by decide +kernel
theorem d_L_law_656 : decode code 656 = .ok (.aload_n 1, 1) := by decide +kernel
theorem d_L_law_657 : decode code 657 = .ok (.aload_n 0, 1) := by decide +kernel
theorem d_L_law_658 : decode code 658 = .ok (.iload_n 3, 1) := by decide +kernel
theorem d_L_law_659 : decode code 659 = .ok (.iconst 1, 1) := by decide +kernel
theorem d_L_law_660 : decode code 660 = .ok (.iadd, 1) := by decide +kernel
theorem d_L_law_661 : decode code 661 = .ok (.iaload, 1) := by decide +kernel
theorem d_L_law_662 : decode code 662 = .ok (.invokevirtual 66, 3) := by decide +kernel
theorem d_L_law_665 : decode code 665 = .ok (.aload_n 2, 1) := by decide +kernel
theorem d_L_law_666 : decode code 666 = .ok (.aload_n 0, 1) := by decide +kernel
theorem d_L_law_667 : decode code 667 = .ok (.iload_n 3, 1) := by decide +kernel
theorem d_L_law_668 : decode code 668 = .ok (.iconst 1, 1) := by decide +kernel
theorem d_L_law_669 : decode code 669 = .ok (.iadd, 1) := by decide +kernel
theorem d_L_law_670 : decode code 670 = .ok (.iaload, 1) := by decide +kernel
theorem d_L_law_671 : decode code 671 = .ok (.invokevirtual 69, 3) := by decide +kernel
theorem d_L_law_674 : decode code 674 = .ok (.if_icmp .eq 915, 3) := by decide +kernel
theorem d_L_law_677 : decode code 677 = .ok (.iconst 0, 1) := by decide +kernel
theorem d_L_law_678 : decode code 678 = .ok (.ireturn, 1) := by decide +kernel
theorem d_L_law_679 : decode code 679 = .ok (.aload_n 1, 1) := by decide +kernel
theorem d_L_law_680 : decode code 680 = .ok (.aload_n 0, 1) := by decide +kernel
theorem d_L_law_681 : decode code 681 = .ok (.iload_n 3, 1) := by decide +kernel
theorem d_L_law_682 : decode code 682 = .ok (.iconst 1, 1) := by decide +kernel
theorem d_L_law_683 : decode code 683 = .ok (.iadd, 1) := by decide +kernel
theorem d_L_law_684 : decode code 684 = .ok (.iaload, 1) := by decide +kernel
theorem d_L_law_685 : decode code 685 = .ok (.invokevirtual 70, 3) := by decide +kernel
theorem d_L_law_688 : decode code 688 = .ok (.aload_n 2, 1) := by decide +kernel
theorem d_L_law_689 : decode code 689 = .ok (.aload_n 0, 1) := by decide +kernel
theorem d_L_law_690 : decode code 690 = .ok (.iload_n 3, 1) := by decide +kernel
theorem d_L_law_691 : decode code 691 = .ok (.iconst 1, 1) := by decide +kernel
theorem d_L_law_692 : decode code 692 = .ok (.iadd, 1) := by decide +kernel
theorem d_L_law_693 : decode code 693 = .ok (.iaload, 1) := by decide +kernel
theorem d_L_law_694 : decode code 694 = .ok (.invokevirtual 73, 3) := by decide +kernel
theorem d_L_law_697 : decode code 697 = .ok (.if_icmp .eq 892, 3) := by decide +kernel
theorem d_L_law_700 : decode code 700 = .ok (.iconst 0, 1) := by decide +kernel
theorem d_L_law_701 : decode code 701 = .ok (.ireturn, 1) := by decide +kernel
theorem d_L_law_702 : decode code 702 = .ok (.aload_n 1, 1) := by decide +kernel
theorem d_L_law_703 : decode code 703 = .ok (.aload_n 0, 1) := by decide +kernel
theorem d_L_law_704 : decode code 704 = .ok (.iload_n 3, 1) := by decide +kernel
theorem d_L_law_705 : decode code 705 = .ok (.iconst 1, 1) := by decide +kernel
theorem d_L_law_706 : decode code 706 = .ok (.iadd, 1) := by decide +kernel
theorem d_L_law_707 : decode code 707 = .ok (.iaload, 1) := by decide +kernel
theorem d_L_law_708 : decode code 708 = .ok (.invokevirtual 74, 3) := by decide +kernel
theorem d_L_law_711 : decode code 711 = .ok (.aload_n 2, 1) := by decide +kernel
theorem d_L_law_712 : decode code 712 = .ok (.aload_n 0, 1) := by decide +kernel
theorem d_L_law_713 : decode code 713 = .ok (.iload_n 3, 1) := by decide +kernel
theorem d_L_law_714 : decode code 714 = .ok (.iconst 1, 1) := by decide +kernel
theorem d_L_law_715 : decode code 715 = .ok (.iadd, 1) := by decide +kernel
theorem d_L_law_716 : decode code 716 = .ok (.iaload, 1) := by decide +kernel
theorem d_L_law_717 : decode code 717 = .ok (.invokevirtual 77, 3) := by decide +kernel
theorem d_L_law_720 : decode code 720 = .ok (.if_icmp .eq 869, 3) := by decide +kernel
theorem d_L_law_723 : decode code 723 = .ok (.iconst 0, 1) := by decide +kernel
theorem d_L_law_724 : decode code 724 = .ok (.ireturn, 1) := by decide +kernel
theorem d_L_law_725 : decode code 725 = .ok (.aload_n 1, 1) := by decide +kernel
theorem d_L_law_726 : decode code 726 = .ok (.aload_n 0, 1) := by decide +kernel
theorem d_L_law_727 : decode code 727 = .ok (.iload_n 3, 1) := by decide +kernel
theorem d_L_law_728 : decode code 728 = .ok (.iconst 1, 1) := by decide +kernel
theorem d_L_law_729 : decode code 729 = .ok (.iadd, 1) := by decide +kernel
theorem d_L_law_730 : decode code 730 = .ok (.iaload, 1) := by decide +kernel
theorem d_L_law_731 : decode code 731 = .ok (.ifCond .eq 7, 3) := by decide +kernel
theorem d_L_law_734 : decode code 734 = .ok (.iconst 1, 1) := by decide +kernel
theorem d_L_law_735 : decode code 735 = .ok (.goto 4, 3) := by decide +kernel
theorem d_L_law_738 : decode code 738 = .ok (.iconst 0, 1) := by decide +kernel
theorem d_L_law_739 : decode code 739 = .ok (.invokevirtual 78, 3) := by decide +kernel
theorem d_L_law_742 : decode code 742 = .ok (.aload_n 2, 1) := by decide +kernel
theorem d_L_law_743 : decode code 743 = .ok (.aload_n 0, 1) := by decide +kernel
theorem d_L_law_744 : decode code 744 = .ok (.iload_n 3, 1) := by decide +kernel
theorem d_L_law_745 : decode code 745 = .ok (.iconst 1, 1) := by decide +kernel
theorem d_L_law_746 : decode code 746 = .ok (.iadd, 1) := by decide +kernel
theorem d_L_law_747 : decode code 747 = .ok (.iaload, 1) := by decide +kernel
theorem d_L_law_748 : decode code 748 = .ok (.ifCond .eq 7, 3) := by decide +kernel
theorem d_L_law_751 : decode code 751 = .ok (.iconst 1, 1) := by decide +kernel
theorem d_L_law_752 : decode code 752 = .ok (.goto 4, 3) := by decide +kernel
theorem d_L_law_755 : decode code 755 = .ok (.iconst 0, 1) := by decide +kernel
theorem d_L_law_756 : decode code 756 = .ok (.invokevirtual 82, 3) := by decide +kernel
theorem d_L_law_759 : decode code 759 = .ok (.if_icmp .eq 830, 3) := by decide +kernel
theorem d_L_law_762 : decode code 762 = .ok (.iconst 0, 1) := by decide +kernel
theorem d_L_law_763 : decode code 763 = .ok (.ireturn, 1) := by decide +kernel
theorem d_L_law_764 : decode code 764 = .ok (.aload_n 1, 1) := by decide +kernel
theorem d_L_law_765 : decode code 765 = .ok (.invokevirtual 83, 3) := by decide +kernel
theorem d_L_law_768 : decode code 768 = .ok (.aload_n 2, 1) := by decide +kernel
theorem d_L_law_769 : decode code 769 = .ok (.invokevirtual 86, 3) := by decide +kernel
theorem d_L_law_772 : decode code 772 = .ok (.if_icmp .eq 817, 3) := by decide +kernel
theorem d_L_law_775 : decode code 775 = .ok (.iconst 0, 1) := by decide +kernel
theorem d_L_law_776 : decode code 776 = .ok (.ireturn, 1) := by decide +kernel
theorem d_L_law_777 : decode code 777 = .ok (.aload_n 1, 1) := by decide +kernel
theorem d_L_law_778 : decode code 778 = .ok (.aload_n 0, 1) := by decide +kernel
theorem d_L_law_779 : decode code 779 = .ok (.iload_n 3, 1) := by decide +kernel
theorem d_L_law_780 : decode code 780 = .ok (.iconst 1, 1) := by decide +kernel
theorem d_L_law_781 : decode code 781 = .ok (.iadd, 1) := by decide +kernel
theorem d_L_law_782 : decode code 782 = .ok (.iaload, 1) := by decide +kernel
theorem d_L_law_783 : decode code 783 = .ok (.invokevirtual 87, 3) := by decide +kernel
theorem d_L_law_786 : decode code 786 = .ok (.aload_n 2, 1) := by decide +kernel
theorem d_L_law_787 : decode code 787 = .ok (.aload_n 0, 1) := by decide +kernel
theorem d_L_law_788 : decode code 788 = .ok (.iload_n 3, 1) := by decide +kernel
theorem d_L_law_789 : decode code 789 = .ok (.iconst 1, 1) := by decide +kernel
theorem d_L_law_790 : decode code 790 = .ok (.iadd, 1) := by decide +kernel
theorem d_L_law_791 : decode code 791 = .ok (.iaload, 1) := by decide +kernel
theorem d_L_law_792 : decode code 792 = .ok (.invokevirtual 90, 3) := by decide +kernel
theorem d_L_law_795 : decode code 795 = .ok (.if_icmp .eq 794, 3) := by decide +kernel
theorem d_L_law_798 : decode code 798 = .ok (.iconst 0, 1) := by decide +kernel
theorem d_L_law_799 : decode code 799 = .ok (.ireturn, 1) := by decide +kernel
theorem d_L_law_800 : decode code 800 = .ok (.aload_n 1, 1) := by decide +kernel
theorem d_L_law_801 : decode code 801 = .ok (.aload_n 0, 1) := by decide +kernel
theorem d_L_law_802 : decode code 802 = .ok (.iload_n 3, 1) := by decide +kernel
theorem d_L_law_803 : decode code 803 = .ok (.iconst 1, 1) := by decide +kernel
theorem d_L_law_804 : decode code 804 = .ok (.iadd, 1) := by decide +kernel
theorem d_L_law_805 : decode code 805 = .ok (.iaload, 1) := by decide +kernel
theorem d_L_law_806 : decode code 806 = .ok (.aload_n 0, 1) := by decide +kernel
theorem d_L_law_807 : decode code 807 = .ok (.iload_n 3, 1) := by decide +kernel
theorem d_L_law_808 : decode code 808 = .ok (.iconst 2, 1) := by decide +kernel
theorem d_L_law_809 : decode code 809 = .ok (.iadd, 1) := by decide +kernel
theorem d_L_law_810 : decode code 810 = .ok (.iaload, 1) := by decide +kernel
theorem d_L_law_811 : decode code 811 = .ok (.invokevirtual 91, 3) := by decide +kernel
theorem d_L_law_814 : decode code 814 = .ok (.aload_n 2, 1) := by decide +kernel
theorem d_L_law_815 : decode code 815 = .ok (.aload_n 0, 1) := by decide +kernel
theorem d_L_law_816 : decode code 816 = .ok (.iload_n 3, 1) := by decide +kernel
theorem d_L_law_817 : decode code 817 = .ok (.iconst 1, 1) := by decide +kernel
theorem d_L_law_818 : decode code 818 = .ok (.iadd, 1) := by decide +kernel
theorem d_L_law_819 : decode code 819 = .ok (.iaload, 1) := by decide +kernel
theorem d_L_law_820 : decode code 820 = .ok (.aload_n 0, 1) := by decide +kernel
theorem d_L_law_821 : decode code 821 = .ok (.iload_n 3, 1) := by decide +kernel
theorem d_L_law_822 : decode code 822 = .ok (.iconst 2, 1) := by decide +kernel
theorem d_L_law_823 : decode code 823 = .ok (.iadd, 1) := by decide +kernel
theorem d_L_law_824 : decode code 824 = .ok (.iaload, 1) := by decide +kernel
theorem d_L_law_825 : decode code 825 = .ok (.invokevirtual 94, 3) := by decide +kernel
theorem d_L_law_828 : decode code 828 = .ok (.if_icmp .eq 761, 3) := by decide +kernel
theorem d_L_law_831 : decode code 831 = .ok (.iconst 0, 1) := by decide +kernel
theorem d_L_law_832 : decode code 832 = .ok (.ireturn, 1) := by decide +kernel
theorem d_L_law_833 : decode code 833 = .ok (.aload_n 1, 1) := by decide +kernel
theorem d_L_law_834 : decode code 834 = .ok (.aload_n 0, 1) := by decide +kernel
theorem d_L_law_835 : decode code 835 = .ok (.iload_n 3, 1) := by decide +kernel
theorem d_L_law_836 : decode code 836 = .ok (.iconst 1, 1) := by decide +kernel
theorem d_L_law_837 : decode code 837 = .ok (.iadd, 1) := by decide +kernel
theorem d_L_law_838 : decode code 838 = .ok (.iaload, 1) := by decide +kernel
theorem d_L_law_839 : decode code 839 = .ok (.invokevirtual 95, 3) := by decide +kernel
theorem d_L_law_842 : decode code 842 = .ok (.aload_n 2, 1) := by decide +kernel
theorem d_L_law_843 : decode code 843 = .ok (.aload_n 0, 1) := by decide +kernel
theorem d_L_law_844 : decode code 844 = .ok (.iload_n 3, 1) := by decide +kernel
theorem d_L_law_845 : decode code 845 = .ok (.iconst 1, 1) := by decide +kernel
theorem d_L_law_846 : decode code 846 = .ok (.iadd, 1) := by decide +kernel
theorem d_L_law_847 : decode code 847 = .ok (.iaload, 1) := by decide +kernel
theorem d_L_law_848 : decode code 848 = .ok (.invokevirtual 98, 3) := by decide +kernel
theorem d_L_law_851 : decode code 851 = .ok (.if_icmp .eq 738, 3) := by decide +kernel
theorem d_L_law_854 : decode code 854 = .ok (.iconst 0, 1) := by decide +kernel
theorem d_L_law_855 : decode code 855 = .ok (.ireturn, 1) := by decide +kernel
theorem d_L_law_856 : decode code 856 = .ok (.aload_n 1, 1) := by decide +kernel
theorem d_L_law_857 : decode code 857 = .ok (.aload_n 0, 1) := by decide +kernel
theorem d_L_law_858 : decode code 858 = .ok (.iload_n 3, 1) := by decide +kernel
theorem d_L_law_859 : decode code 859 = .ok (.iconst 1, 1) := by decide +kernel
theorem d_L_law_860 : decode code 860 = .ok (.iadd, 1) := by decide +kernel
theorem d_L_law_861 : decode code 861 = .ok (.iaload, 1) := by decide +kernel
theorem d_L_law_862 : decode code 862 = .ok (.invokevirtual 99, 3) := by decide +kernel
theorem d_L_law_865 : decode code 865 = .ok (.aload_n 2, 1) := by decide +kernel
theorem d_L_law_866 : decode code 866 = .ok (.aload_n 0, 1) := by decide +kernel
theorem d_L_law_867 : decode code 867 = .ok (.iload_n 3, 1) := by decide +kernel
theorem d_L_law_868 : decode code 868 = .ok (.iconst 1, 1) := by decide +kernel
theorem d_L_law_869 : decode code 869 = .ok (.iadd, 1) := by decide +kernel
theorem d_L_law_870 : decode code 870 = .ok (.iaload, 1) := by decide +kernel
theorem d_L_law_871 : decode code 871 = .ok (.invokevirtual 102, 3) := by decide +kernel
theorem d_L_law_874 : decode code 874 = .ok (.if_icmp .eq 715, 3) := by decide +kernel
theorem d_L_law_877 : decode code 877 = .ok (.iconst 0, 1) := by decide +kernel
theorem d_L_law_878 : decode code 878 = .ok (.ireturn, 1) := by decide +kernel
theorem d_L_law_879 : decode code 879 = .ok (.aload_n 1, 1) := by decide +kernel
theorem d_L_law_880 : decode code 880 = .ok (.aload_n 0, 1) := by decide +kernel
theorem d_L_law_881 : decode code 881 = .ok (.iload_n 3, 1) := by decide +kernel
theorem d_L_law_882 : decode code 882 = .ok (.iconst 1, 1) := by decide +kernel
theorem d_L_law_883 : decode code 883 = .ok (.iadd, 1) := by decide +kernel
theorem d_L_law_884 : decode code 884 = .ok (.iaload, 1) := by decide +kernel
theorem d_L_law_885 : decode code 885 = .ok (.invokevirtual 103, 3) := by decide +kernel
theorem d_L_law_888 : decode code 888 = .ok (.aload_n 2, 1) := by decide +kernel
theorem d_L_law_889 : decode code 889 = .ok (.aload_n 0, 1) := by decide +kernel
theorem d_L_law_890 : decode code 890 = .ok (.iload_n 3, 1) := by decide +kernel
theorem d_L_law_891 : decode code 891 = .ok (.iconst 1, 1) := by decide +kernel
theorem d_L_law_892 : decode code 892 = .ok (.iadd, 1) := by decide +kernel
theorem d_L_law_893 : decode code 893 = .ok (.iaload, 1) := by decide +kernel
theorem d_L_law_894 : decode code 894 = .ok (.invokevirtual 106, 3) := by decide +kernel
theorem d_L_law_897 : decode code 897 = .ok (.if_icmp .eq 692, 3) := by decide +kernel
theorem d_L_law_900 : decode code 900 = .ok (.iconst 0, 1) := by decide +kernel
theorem d_L_law_901 : decode code 901 = .ok (.ireturn, 1) := by decide +kernel
theorem d_L_law_902 : decode code 902 = .ok (.aload_n 1, 1) := by decide +kernel
theorem d_L_law_903 : decode code 903 = .ok (.aload_n 0, 1) := by decide +kernel
theorem d_L_law_904 : decode code 904 = .ok (.iload_n 3, 1) := by decide +kernel
theorem d_L_law_905 : decode code 905 = .ok (.iconst 1, 1) := by decide +kernel
theorem d_L_law_906 : decode code 906 = .ok (.iadd, 1) := by decide +kernel
theorem d_L_law_907 : decode code 907 = .ok (.iaload, 1) := by decide +kernel
theorem d_L_law_908 : decode code 908 = .ok (.invokevirtual 107, 3) := by decide +kernel
theorem d_L_law_911 : decode code 911 = .ok (.aload_n 2, 1) := by decide +kernel
theorem d_L_law_912 : decode code 912 = .ok (.aload_n 0, 1) := by decide +kernel
theorem d_L_law_913 : decode code 913 = .ok (.iload_n 3, 1) := by decide +kernel
theorem d_L_law_914 : decode code 914 = .ok (.iconst 1, 1) := by decide +kernel
theorem d_L_law_915 : decode code 915 = .ok (.iadd, 1) := by decide +kernel
theorem d_L_law_916 : decode code 916 = .ok (.iaload, 1) := by decide +kernel
theorem d_L_law_917 : decode code 917 = .ok (.invokevirtual 110, 3) := by decide +kernel
theorem d_L_law_920 : decode code 920 = .ok (.if_icmp .eq 669, 3) := by decide +kernel
theorem d_L_law_923 : decode code 923 = .ok (.iconst 0, 1) := by decide +kernel
theorem d_L_law_924 : decode code 924 = .ok (.ireturn, 1) := by decide +kernel
theorem d_L_law_925 : decode code 925 = .ok (.aload_n 1, 1) := by decide +kernel
theorem d_L_law_926 : decode code 926 = .ok (.aload_n 0, 1) := by decide +kernel
theorem d_L_law_927 : decode code 927 = .ok (.iload_n 3, 1) := by decide +kernel
theorem d_L_law_928 : decode code 928 = .ok (.iconst 1, 1) := by decide +kernel
theorem d_L_law_929 : decode code 929 = .ok (.iadd, 1) := by decide +kernel
theorem d_L_law_930 : decode code 930 = .ok (.iaload, 1) := by decide +kernel
theorem d_L_law_931 : decode code 931 = .ok (.aload_n 0, 1) := by decide +kernel
theorem d_L_law_932 : decode code 932 = .ok (.iload_n 3, 1) := by decide +kernel
theorem d_L_law_933 : decode code 933 = .ok (.iconst 2, 1) := by decide +kernel
theorem d_L_law_934 : decode code 934 = .ok (.iadd, 1) := by decide +kernel
theorem d_L_law_935 : decode code 935 = .ok (.iaload, 1) := by decide +kernel
theorem d_L_law_936 : decode code 936 = .ok (.aload_n 0, 1) := by decide +kernel
theorem d_L_law_937 : decode code 937 = .ok (.iload_n 3, 1) := by decide +kernel
theorem d_L_law_938 : decode code 938 = .ok (.iconst 3, 1) := by decide +kernel
theorem d_L_law_939 : decode code 939 = .ok (.iadd, 1) := by decide +kernel
theorem d_L_law_940 : decode code 940 = .ok (.iaload, 1) := by decide +kernel
theorem d_L_law_941 : decode code 941 = .ok (.invokevirtual 111, 3) := by decide +kernel
theorem d_L_law_944 : decode code 944 = .ok (.aload_n 2, 1) := by decide +kernel
theorem d_L_law_945 : decode code 945 = .ok (.aload_n 0, 1) := by decide +kernel
theorem d_L_law_946 : decode code 946 = .ok (.iload_n 3, 1) := by decide +kernel
theorem d_L_law_947 : decode code 947 = .ok (.iconst 1, 1) := by decide +kernel
theorem d_L_law_948 : decode code 948 = .ok (.iadd, 1) := by decide +kernel
theorem d_L_law_949 : decode code 949 = .ok (.iaload, 1) := by decide +kernel
theorem d_L_law_950 : decode code 950 = .ok (.aload_n 0, 1) := by decide +kernel
theorem d_L_law_951 : decode code 951 = .ok (.iload_n 3, 1) := by decide +kernel
theorem d_L_law_952 : decode code 952 = .ok (.iconst 2, 1) := by decide +kernel
theorem d_L_law_953 : decode code 953 = .ok (.iadd, 1) := by decide +kernel
theorem d_L_law_954 : decode code 954 = .ok (.iaload, 1) := by decide +kernel
theorem d_L_law_955 : decode code 955 = .ok (.aload_n 0, 1) := by decide +kernel
theorem d_L_law_956 : decode code 956 = .ok (.iload_n 3, 1) := by decide +kernel
theorem d_L_law_957 : decode code 957 = .ok (.iconst 3, 1) := by decide +kernel
theorem d_L_law_958 : decode code 958 = .ok (.iadd, 1) := by decide +kernel
theorem d_L_law_959 : decode code 959 = .ok (.iaload, 1) := by decide +kernel
theorem d_L_law_960 : decode code 960 = .ok (.invokevirtual 114, 3) := by decide +kernel
theorem d_L_law_963 : decode code 963 = .ok (.if_icmp .eq 626, 3) := by decide +kernel
theorem d_L_law_966 : decode code 966 = .ok (.iconst 0, 1) := by decide +kernel
theorem d_L_law_967 : decode code 967 = .ok (.ireturn, 1) := by decide +kernel
theorem d_L_law_968 : decode code 968 = .ok (.aload_n 1, 1) := by decide +kernel
theorem d_L_law_969 : decode code 969 = .ok (.aload_n 0, 1) := by decide +kernel
theorem d_L_law_970 : decode code 970 = .ok (.iload_n 3, 1) := by decide +kernel
theorem d_L_law_971 : decode code 971 = .ok (.iconst 1, 1) := by decide +kernel
theorem d_L_law_972 : decode code 972 = .ok (.iadd, 1) := by decide +kernel
theorem d_L_law_973 : decode code 973 = .ok (.iaload, 1) := by decide +kernel
theorem d_L_law_974 : decode code 974 = .ok (.aload_n 0, 1) := by decide +kernel
theorem d_L_law_975 : decode code 975 = .ok (.iload_n 3, 1) := by decide +kernel
theorem d_L_law_976 : decode code 976 = .ok (.iconst 2, 1) := by decide +kernel
theorem d_L_law_977 : decode code 977 = .ok (.iadd, 1) := by decide +kernel
theorem d_L_law_978 : decode code 978 = .ok (.iaload, 1) := by decide +kernel
theorem d_L_law_979 : decode code 979 = .ok (.invokevirtual 115, 3) := by decide +kernel
theorem d_L_law_982 : decode code 982 = .ok (.aload_n 2, 1) := by decide +kernel
theorem d_L_law_983 : decode code 983 = .ok (.aload_n 0, 1) := by decide +kernel
theorem d_L_law_984 : decode code 984 = .ok (.iload_n 3, 1) := by decide +kernel
theorem d_L_law_985 : decode code 985 = .ok (.iconst 1, 1) := by decide +kernel
theorem d_L_law_986 : decode code 986 = .ok (.iadd, 1) := by decide +kernel
theorem d_L_law_987 : decode code 987 = .ok (.iaload, 1) := by decide +kernel
theorem d_L_law_988 : decode code 988 = .ok (.aload_n 0, 1) := by decide +kernel
theorem d_L_law_989 : decode code 989 = .ok (.iload_n 3, 1) := by decide +kernel
theorem d_L_law_990 : decode code 990 = .ok (.iconst 2, 1) := by decide +kernel
theorem d_L_law_991 : decode code 991 = .ok (.iadd, 1) := by decide +kernel
theorem d_L_law_992 : decode code 992 = .ok (.iaload, 1) := by decide +kernel
theorem d_L_law_993 : decode code 993 = .ok (.invokevirtual 118, 3) := by decide +kernel
theorem d_L_law_996 : decode code 996 = .ok (.if_icmp .eq 593, 3) := by decide +kernel
theorem d_L_law_999 : decode code 999 = .ok (.iconst 0, 1) := by decide +kernel
theorem d_L_law_1000 : decode code 1000 = .ok (.ireturn, 1) := by decide +kernel
theorem d_L_law_1001 : decode code 1001 = .ok (.aload_n 1, 1) := by decide +kernel
theorem d_L_law_1002 : decode code 1002 = .ok (.aload_n 0, 1) := by decide +kernel
theorem d_L_law_1003 : decode code 1003 = .ok (.iload_n 3, 1) := by decide +kernel
theorem d_L_law_1004 : decode code 1004 = .ok (.iconst 1, 1) := by decide +kernel
theorem d_L_law_1005 : decode code 1005 = .ok (.iadd, 1) := by decide +kernel
theorem d_L_law_1006 : decode code 1006 = .ok (.iaload, 1) := by decide +kernel
theorem d_L_law_1007 : decode code 1007 = .ok (.aload_n 0, 1) := by decide +kernel
theorem d_L_law_1008 : decode code 1008 = .ok (.iload_n 3, 1) := by decide +kernel
theorem d_L_law_1009 : decode code 1009 = .ok (.iconst 2, 1) := by decide +kernel
theorem d_L_law_1010 : decode code 1010 = .ok (.iadd, 1) := by decide +kernel
theorem d_L_law_1011 : decode code 1011 = .ok (.iaload, 1) := by decide +kernel
theorem d_L_law_1012 : decode code 1012 = .ok (.invokevirtual 119, 3) := by decide +kernel
theorem d_L_law_1015 : decode code 1015 = .ok (.aload_n 2, 1) := by decide +kernel
theorem d_L_law_1016 : decode code 1016 = .ok (.aload_n 0, 1) := by decide +kernel
theorem d_L_law_1017 : decode code 1017 = .ok (.iload_n 3, 1) := by decide +kernel
theorem d_L_law_1018 : decode code 1018 = .ok (.iconst 1, 1) := by decide +kernel
theorem d_L_law_1019 : decode code 1019 = .ok (.iadd, 1) := by decide +kernel
theorem d_L_law_1020 : decode code 1020 = .ok (.iaload, 1) := by decide +kernel
theorem d_L_law_1021 : decode code 1021 = .ok (.aload_n 0, 1) := by decide +kernel
theorem d_L_law_1022 : decode code 1022 = .ok (.iload_n 3, 1) := by decide +kernel
theorem d_L_law_1023 : decode code 1023 = .ok (.iconst 2, 1) := by decide +kernel
theorem d_L_law_1024 : decode code 1024 = .ok (.iadd, 1) := by decide +kernel
theorem d_L_law_1025 : decode code 1025 = .ok (.iaload, 1) := by decide +kernel
theorem d_L_law_1026 : decode code 1026 = .ok (.invokevirtual 122, 3) := by decide +kernel
theorem d_L_law_1029 : decode code 1029 = .ok (.if_icmp .eq 560, 3) := by decide +kernel
theorem d_L_law_1032 : decode code 1032 = .ok (.iconst 0, 1) := by decide +kernel
theorem d_L_law_1033 : decode code 1033 = .ok (.ireturn, 1) := by decide +kernel
theorem d_L_law_1034 : decode code 1034 = .ok (.aload_n 1, 1) := by decide +kernel
theorem d_L_law_1035 : decode code 1035 = .ok (.aload_n 0, 1) := by decide +kernel
theorem d_L_law_1036 : decode code 1036 = .ok (.iload_n 3, 1) := by decide +kernel
theorem d_L_law_1037 : decode code 1037 = .ok (.iconst 1, 1) := by decide +kernel
theorem d_L_law_1038 : decode code 1038 = .ok (.iadd, 1) := by decide +kernel
theorem d_L_law_1039 : decode code 1039 = .ok (.iaload, 1) := by decide +kernel
theorem d_L_law_1040 : decode code 1040 = .ok (.aload_n 0, 1) := by decide +kernel
theorem d_L_law_1041 : decode code 1041 = .ok (.iload_n 3, 1) := by decide +kernel
theorem d_L_law_1042 : decode code 1042 = .ok (.iconst 2, 1) := by decide +kernel
theorem d_L_law_1043 : decode code 1043 = .ok (.iadd, 1) := by decide +kernel
theorem d_L_law_1044 : decode code 1044 = .ok (.iaload, 1) := by decide +kernel
theorem d_L_law_1045 : decode code 1045 = .ok (.aload_n 0, 1) := by decide +kernel
theorem d_L_law_1046 : decode code 1046 = .ok (.iload_n 3, 1) := by decide +kernel
theorem d_L_law_1047 : decode code 1047 = .ok (.iconst 3, 1) := by decide +kernel
theorem d_L_law_1048 : decode code 1048 = .ok (.iadd, 1) := by decide +kernel
theorem d_L_law_1049 : decode code 1049 = .ok (.iaload, 1) := by decide +kernel
theorem d_L_law_1050 : decode code 1050 = .ok (.invokevirtual 123, 3) := by decide +kernel
theorem d_L_law_1053 : decode code 1053 = .ok (.aload_n 2, 1) := by decide +kernel
theorem d_L_law_1054 : decode code 1054 = .ok (.aload_n 0, 1) := by decide +kernel
theorem d_L_law_1055 : decode code 1055 = .ok (.iload_n 3, 1) := by decide +kernel
theorem d_L_law_1056 : decode code 1056 = .ok (.iconst 1, 1) := by decide +kernel
theorem d_L_law_1057 : decode code 1057 = .ok (.iadd, 1) := by decide +kernel
theorem d_L_law_1058 : decode code 1058 = .ok (.iaload, 1) := by decide +kernel
theorem d_L_law_1059 : decode code 1059 = .ok (.aload_n 0, 1) := by decide +kernel
theorem d_L_law_1060 : decode code 1060 = .ok (.iload_n 3, 1) := by decide +kernel
theorem d_L_law_1061 : decode code 1061 = .ok (.iconst 2, 1) := by decide +kernel
theorem d_L_law_1062 : decode code 1062 = .ok (.iadd, 1) := by decide +kernel
theorem d_L_law_1063 : decode code 1063 = .ok (.iaload, 1) := by decide +kernel
theorem d_L_law_1064 : decode code 1064 = .ok (.aload_n 0, 1) := by decide +kernel
theorem d_L_law_1065 : decode code 1065 = .ok (.iload_n 3, 1) := by decide +kernel
theorem d_L_law_1066 : decode code 1066 = .ok (.iconst 3, 1) := by decide +kernel
theorem d_L_law_1067 : decode code 1067 = .ok (.iadd, 1) := by decide +kernel
theorem d_L_law_1068 : decode code 1068 = .ok (.iaload, 1) := by decide +kernel
theorem d_L_law_1069 : decode code 1069 = .ok (.invokevirtual 126, 3) := by decide +kernel
theorem d_L_law_1072 : decode code 1072 = .ok (.if_icmp .eq 517, 3) := by decide +kernel
theorem d_L_law_1075 : decode code 1075 = .ok (.iconst 0, 1) := by decide +kernel
theorem d_L_law_1076 : decode code 1076 = .ok (.ireturn, 1) := by decide +kernel
theorem d_L_law_1077 : decode code 1077 = .ok (.aload_n 1, 1) := by decide +kernel
theorem d_L_law_1078 : decode code 1078 = .ok (.aload_n 0, 1) := by decide +kernel
theorem d_L_law_1079 : decode code 1079 = .ok (.iload_n 3, 1) := by decide +kernel
theorem d_L_law_1080 : decode code 1080 = .ok (.iconst 1, 1) := by decide +kernel
theorem d_L_law_1081 : decode code 1081 = .ok (.iadd, 1) := by decide +kernel
theorem d_L_law_1082 : decode code 1082 = .ok (.iaload, 1) := by decide +kernel
theorem d_L_law_1083 : decode code 1083 = .ok (.aload_n 0, 1) := by decide +kernel
theorem d_L_law_1084 : decode code 1084 = .ok (.iload_n 3, 1) := by decide +kernel
theorem d_L_law_1085 : decode code 1085 = .ok (.iconst 2, 1) := by decide +kernel
theorem d_L_law_1086 : decode code 1086 = .ok (.iadd, 1) := by decide +kernel
theorem d_L_law_1087 : decode code 1087 = .ok (.iaload, 1) := by decide +kernel
theorem d_L_law_1088 : decode code 1088 = .ok (.invokevirtual 127, 3) := by decide +kernel
theorem d_L_law_1091 : decode code 1091 = .ok (.aload_n 2, 1) := by decide +kernel
theorem d_L_law_1092 : decode code 1092 = .ok (.aload_n 0, 1) := by decide +kernel
theorem d_L_law_1093 : decode code 1093 = .ok (.iload_n 3, 1) := by decide +kernel
theorem d_L_law_1094 : decode code 1094 = .ok (.iconst 1, 1) := by decide +kernel
theorem d_L_law_1095 : decode code 1095 = .ok (.iadd, 1) := by decide +kernel
theorem d_L_law_1096 : decode code 1096 = .ok (.iaload, 1) := by decide +kernel
theorem d_L_law_1097 : decode code 1097 = .ok (.aload_n 0, 1) := by decide +kernel
theorem d_L_law_1098 : decode code 1098 = .ok (.iload_n 3, 1) := by decide +kernel
theorem d_L_law_1099 : decode code 1099 = .ok (.iconst 2, 1) := by decide +kernel
theorem d_L_law_1100 : decode code 1100 = .ok (.iadd, 1) := by decide +kernel
theorem d_L_law_1101 : decode code 1101 = .ok (.iaload, 1) := by decide +kernel
theorem d_L_law_1102 : decode code 1102 = .ok (.invokevirtual 130, 3) := by decide +kernel
theorem d_L_law_1105 : decode code 1105 = .ok (.if_icmp .eq 484, 3) := by decide +kernel
theorem d_L_law_1108 : decode code 1108 = .ok (.iconst 0, 1) := by decide +kernel
theorem d_L_law_1109 : decode code 1109 = .ok (.ireturn, 1) := by decide +kernel
theorem d_L_law_1110 : decode code 1110 = .ok (.aload_n 1, 1) := by decide +kernel
theorem d_L_law_1111 : decode code 1111 = .ok (.aload_n 0, 1) := by decide +kernel
theorem d_L_law_1112 : decode code 1112 = .ok (.iload_n 3, 1) := by decide +kernel
theorem d_L_law_1113 : decode code 1113 = .ok (.iconst 1, 1) := by decide +kernel
theorem d_L_law_1114 : decode code 1114 = .ok (.iadd, 1) := by decide +kernel
theorem d_L_law_1115 : decode code 1115 = .ok (.iaload, 1) := by decide +kernel
theorem d_L_law_1116 : decode code 1116 = .ok (.invokevirtual 131, 3) := by decide +kernel
theorem d_L_law_1119 : decode code 1119 = .ok (.aload_n 2, 1) := by decide +kernel
theorem d_L_law_1120 : decode code 1120 = .ok (.aload_n 0, 1) := by decide +kernel
theorem d_L_law_1121 : decode code 1121 = .ok (.iload_n 3, 1) := by decide +kernel
theorem d_L_law_1122 : decode code 1122 = .ok (.iconst 1, 1) := by decide +kernel
theorem d_L_law_1123 : decode code 1123 = .ok (.iadd, 1) := by decide +kernel
theorem d_L_law_1124 : decode code 1124 = .ok (.iaload, 1) := by decide +kernel
theorem d_L_law_1125 : decode code 1125 = .ok (.invokevirtual 134, 3) := by decide +kernel
theorem d_L_law_1128 : decode code 1128 = .ok (.if_icmp .eq 461, 3) := by decide +kernel
theorem d_L_law_1131 : decode code 1131 = .ok (.iconst 0, 1) := by decide +kernel
theorem d_L_law_1132 : decode code 1132 = .ok (.ireturn, 1) := by decide +kernel
theorem d_L_law_1133 : decode code 1133 = .ok (.aload_n 1, 1) := by decide +kernel
theorem d_L_law_1134 : decode code 1134 = .ok (.aload_n 0, 1) := by decide +kernel
theorem d_L_law_1135 : decode code 1135 = .ok (.iload_n 3, 1) := by decide +kernel
theorem d_L_law_1136 : decode code 1136 = .ok (.iconst 1, 1) := by decide +kernel
theorem d_L_law_1137 : decode code 1137 = .ok (.iadd, 1) := by decide +kernel
theorem d_L_law_1138 : decode code 1138 = .ok (.iaload, 1) := by decide +kernel
theorem d_L_law_1139 : decode code 1139 = .ok (.ifCond .eq 7, 3) := by decide +kernel
theorem d_L_law_1142 : decode code 1142 = .ok (.iconst 1, 1) := by decide +kernel
theorem d_L_law_1143 : decode code 1143 = .ok (.goto 4, 3) := by decide +kernel
theorem d_L_law_1146 : decode code 1146 = .ok (.iconst 0, 1) := by decide +kernel
theorem d_L_law_1147 : decode code 1147 = .ok (.invokevirtual 135, 3) := by decide +kernel
theorem d_L_law_1150 : decode code 1150 = .ok (.aload_n 2, 1) := by decide +kernel
theorem d_L_law_1151 : decode code 1151 = .ok (.aload_n 0, 1) := by decide +kernel
theorem d_L_law_1152 : decode code 1152 = .ok (.iload_n 3, 1) := by decide +kernel
theorem d_L_law_1153 : decode code 1153 = .ok (.iconst 1, 1) := by decide +kernel
theorem d_L_law_1154 : decode code 1154 = .ok (.iadd, 1) := by decide +kernel
theorem d_L_law_1155 : decode code 1155 = .ok (.iaload, 1) := by decide +kernel
theorem d_L_law_1156 : decode code 1156 = .ok (.ifCond .eq 7, 3) := by decide +kernel
theorem d_L_law_1159 : decode code 1159 = .ok (.iconst 1, 1) := by decide +kernel
theorem d_L_law_1160 : decode code 1160 = .ok (.goto 4, 3) := by decide +kernel
theorem d_L_law_1163 : decode code 1163 = .ok (.iconst 0, 1) := by decide +kernel
theorem d_L_law_1164 : decode code 1164 = .ok (.invokevirtual 138, 3) := by decide +kernel
theorem d_L_law_1167 : decode code 1167 = .ok (.if_icmp .eq 422, 3) := by decide +kernel
theorem d_L_law_1170 : decode code 1170 = .ok (.iconst 0, 1) := by decide +kernel
theorem d_L_law_1171 : decode code 1171 = .ok (.ireturn, 1) := by decide +kernel
theorem d_L_law_1172 : decode code 1172 = .ok (.aload_n 1, 1) := by decide +kernel
theorem d_L_law_1173 : decode code 1173 = .ok (.aload_n 0, 1) := by decide +kernel
theorem d_L_law_1174 : decode code 1174 = .ok (.iload_n 3, 1) := by decide +kernel
theorem d_L_law_1175 : decode code 1175 = .ok (.iconst 1, 1) := by decide +kernel
theorem d_L_law_1176 : decode code 1176 = .ok (.iadd, 1) := by decide +kernel
theorem d_L_law_1177 : decode code 1177 = .ok (.iaload, 1) := by decide +kernel
theorem d_L_law_1178 : decode code 1178 = .ok (.aload_n 0, 1) := by decide +kernel
theorem d_L_law_1179 : decode code 1179 = .ok (.iload_n 3, 1) := by decide +kernel
theorem d_L_law_1180 : decode code 1180 = .ok (.iconst 2, 1) := by decide +kernel
theorem d_L_law_1181 : decode code 1181 = .ok (.iadd, 1) := by decide +kernel
theorem d_L_law_1182 : decode code 1182 = .ok (.iaload, 1) := by decide +kernel
theorem d_L_law_1183 : decode code 1183 = .ok (.invokevirtual 139, 3) := by decide +kernel
theorem d_L_law_1186 : decode code 1186 = .ok (.aload_n 2, 1) := by decide +kernel
theorem d_L_law_1187 : decode code 1187 = .ok (.aload_n 0, 1) := by decide +kernel
theorem d_L_law_1188 : decode code 1188 = .ok (.iload_n 3, 1) := by decide +kernel
theorem d_L_law_1189 : decode code 1189 = .ok (.iconst 1, 1) := by decide +kernel
theorem d_L_law_1190 : decode code 1190 = .ok (.iadd, 1) := by decide +kernel
theorem d_L_law_1191 : decode code 1191 = .ok (.iaload, 1) := by decide +kernel
theorem d_L_law_1192 : decode code 1192 = .ok (.aload_n 0, 1) := by decide +kernel
theorem d_L_law_1193 : decode code 1193 = .ok (.iload_n 3, 1) := by decide +kernel
theorem d_L_law_1194 : decode code 1194 = .ok (.iconst 2, 1) := by decide +kernel
theorem d_L_law_1195 : decode code 1195 = .ok (.iadd, 1) := by decide +kernel
theorem d_L_law_1196 : decode code 1196 = .ok (.iaload, 1) := by decide +kernel
theorem d_L_law_1197 : decode code 1197 = .ok (.invokevirtual 142, 3) := by decide +kernel
theorem d_L_law_1200 : decode code 1200 = .ok (.if_icmp .eq 389, 3) := by decide +kernel
theorem d_L_law_1203 : decode code 1203 = .ok (.iconst 0, 1) := by decide +kernel
theorem d_L_law_1204 : decode code 1204 = .ok (.ireturn, 1) := by decide +kernel
theorem d_L_law_1205 : decode code 1205 = .ok (.aload_n 1, 1) := by decide +kernel
theorem d_L_law_1206 : decode code 1206 = .ok (.aload_n 0, 1) := by decide +kernel
theorem d_L_law_1207 : decode code 1207 = .ok (.iload_n 3, 1) := by decide +kernel
theorem d_L_law_1208 : decode code 1208 = .ok (.iconst 1, 1) := by decide +kernel
theorem d_L_law_1209 : decode code 1209 = .ok (.iadd, 1) := by decide +kernel
theorem d_L_law_1210 : decode code 1210 = .ok (.iaload, 1) := by decide +kernel
theorem d_L_law_1211 : decode code 1211 = .ok (.invokevirtual 143, 3) := by decide +kernel
theorem d_L_law_1214 : decode code 1214 = .ok (.aload_n 2, 1) := by decide +kernel
theorem d_L_law_1215 : decode code 1215 = .ok (.aload_n 0, 1) := by decide +kernel
theorem d_L_law_1216 : decode code 1216 = .ok (.iload_n 3, 1) := by decide +kernel
theorem d_L_law_1217 : decode code 1217 = .ok (.iconst 1, 1) := by decide +kernel
theorem d_L_law_1218 : decode code 1218 = .ok (.iadd, 1) := by decide +kernel
theorem d_L_law_1219 : decode code 1219 = .ok (.iaload, 1) := by decide +kernel
theorem d_L_law_1220 : decode code 1220 = .ok (.invokevirtual 146, 3) := by decide +kernel
theorem d_L_law_1223 : decode code 1223 = .ok (.if_icmp .eq 366, 3) := by decide +kernel
theorem d_L_law_1226 : decode code 1226 = .ok (.iconst 0, 1) := by decide +kernel
theorem d_L_law_1227 : decode code 1227 = .ok (.ireturn, 1) := by decide +kernel
theorem d_L_law_1228 : decode code 1228 = .ok (.aload_n 1, 1) := by decide +kernel
theorem d_L_law_1229 : decode code 1229 = .ok (.aload_n 0, 1) := by decide +kernel
theorem d_L_law_1230 : decode code 1230 = .ok (.iload_n 3, 1) := by decide +kernel
theorem d_L_law_1231 : decode code 1231 = .ok (.iconst 1, 1) := by decide +kernel
theorem d_L_law_1232 : decode code 1232 = .ok (.iadd, 1) := by decide +kernel
theorem d_L_law_1233 : decode code 1233 = .ok (.iaload, 1) := by decide +kernel
theorem d_L_law_1234 : decode code 1234 = .ok (.invokevirtual 147, 3) := by decide +kernel
theorem d_L_law_1237 : decode code 1237 = .ok (.aload_n 2, 1) := by decide +kernel
theorem d_L_law_1238 : decode code 1238 = .ok (.aload_n 0, 1) := by decide +kernel
theorem d_L_law_1239 : decode code 1239 = .ok (.iload_n 3, 1) := by decide +kernel
theorem d_L_law_1240 : decode code 1240 = .ok (.iconst 1, 1) := by decide +kernel
theorem d_L_law_1241 : decode code 1241 = .ok (.iadd, 1) := by decide +kernel
theorem d_L_law_1242 : decode code 1242 = .ok (.iaload, 1) := by decide +kernel
theorem d_L_law_1243 : decode code 1243 = .ok (.invokevirtual 150, 3) := by decide +kernel
theorem d_L_law_1246 : decode code 1246 = .ok (.if_icmp .eq 343, 3) := by decide +kernel
theorem d_L_law_1249 : decode code 1249 = .ok (.iconst 0, 1) := by decide +kernel
theorem d_L_law_1250 : decode code 1250 = .ok (.ireturn, 1) := by decide +kernel
theorem d_L_law_1251 : decode code 1251 = .ok (.aload_n 1, 1) := by decide +kernel
theorem d_L_law_1252 : decode code 1252 = .ok (.aload_n 0, 1) := by decide +kernel
theorem d_L_law_1253 : decode code 1253 = .ok (.iload_n 3, 1) := by decide +kernel
theorem d_L_law_1254 : decode code 1254 = .ok (.iconst 1, 1) := by decide +kernel
theorem d_L_law_1255 : decode code 1255 = .ok (.iadd, 1) := by decide +kernel
theorem d_L_law_1256 : decode code 1256 = .ok (.iaload, 1) := by decide +kernel
theorem d_L_law_1257 : decode code 1257 = .ok (.invokevirtual 151, 3) := by decide +kernel
theorem d_L_law_1260 : decode code 1260 = .ok (.aload_n 2, 1) := by decide +kernel
theorem d_L_law_1261 : decode code 1261 = .ok (.aload_n 0, 1) := by decide +kernel
theorem d_L_law_1262 : decode code 1262 = .ok (.iload_n 3, 1) := by decide +kernel
theorem d_L_law_1263 : decode code 1263 = .ok (.iconst 1, 1) := by decide +kernel
theorem d_L_law_1264 : decode code 1264 = .ok (.iadd, 1) := by decide +kernel
theorem d_L_law_1265 : decode code 1265 = .ok (.iaload, 1) := by decide +kernel
theorem d_L_law_1266 : decode code 1266 = .ok (.invokevirtual 154, 3) := by decide +kernel
theorem d_L_law_1269 : decode code 1269 = .ok (.if_icmp .eq 320, 3) := by decide +kernel
theorem d_L_law_1272 : decode code 1272 = .ok (.iconst 0, 1) := by decide +kernel
theorem d_L_law_1273 : decode code 1273 = .ok (.ireturn, 1) := by decide +kernel
theorem d_L_law_1274 : decode code 1274 = .ok (.aload_n 1, 1) := by decide +kernel
theorem d_L_law_1275 : decode code 1275 = .ok (.aload_n 0, 1) := by decide +kernel
theorem d_L_law_1276 : decode code 1276 = .ok (.iload_n 3, 1) := by decide +kernel
theorem d_L_law_1277 : decode code 1277 = .ok (.iconst 1, 1) := by decide +kernel
theorem d_L_law_1278 : decode code 1278 = .ok (.iadd, 1) := by decide +kernel
theorem d_L_law_1279 : decode code 1279 = .ok (.iaload, 1) := by decide +kernel
theorem d_L_law_1280 : decode code 1280 = .ok (.aload_n 0, 1) := by decide +kernel
theorem d_L_law_1281 : decode code 1281 = .ok (.iload_n 3, 1) := by decide +kernel
theorem d_L_law_1282 : decode code 1282 = .ok (.iconst 2, 1) := by decide +kernel
theorem d_L_law_1283 : decode code 1283 = .ok (.iadd, 1) := by decide +kernel
theorem d_L_law_1284 : decode code 1284 = .ok (.iaload, 1) := by decide +kernel
theorem d_L_law_1285 : decode code 1285 = .ok (.aload_n 0, 1) := by decide +kernel
theorem d_L_law_1286 : decode code 1286 = .ok (.iload_n 3, 1) := by decide +kernel
theorem d_L_law_1287 : decode code 1287 = .ok (.iconst 3, 1) := by decide +kernel
theorem d_L_law_1288 : decode code 1288 = .ok (.iadd, 1) := by decide +kernel
theorem d_L_law_1289 : decode code 1289 = .ok (.iaload, 1) := by decide +kernel
theorem d_L_law_1290 : decode code 1290 = .ok (.aload_n 0, 1) := by decide +kernel
theorem d_L_law_1291 : decode code 1291 = .ok (.iload_n 3, 1) := by decide +kernel
theorem d_L_law_1292 : decode code 1292 = .ok (.iconst 4, 1) := by decide +kernel
theorem d_L_law_1293 : decode code 1293 = .ok (.iadd, 1) := by decide +kernel
theorem d_L_law_1294 : decode code 1294 = .ok (.iaload, 1) := by decide +kernel
theorem d_L_law_1295 : decode code 1295 = .ok (.invokevirtual 155, 3) := by decide +kernel
theorem d_L_law_1298 : decode code 1298 = .ok (.aload_n 2, 1) := by decide +kernel
theorem d_L_law_1299 : decode code 1299 = .ok (.aload_n 0, 1) := by decide +kernel
theorem d_L_law_1300 : decode code 1300 = .ok (.iload_n 3, 1) := by decide +kernel
theorem d_L_law_1301 : decode code 1301 = .ok (.iconst 1, 1) := by decide +kernel
theorem d_L_law_1302 : decode code 1302 = .ok (.iadd, 1) := by decide +kernel
theorem d_L_law_1303 : decode code 1303 = .ok (.iaload, 1) := by decide +kernel
theorem d_L_law_1304 : decode code 1304 = .ok (.aload_n 0, 1) := by decide +kernel
theorem d_L_law_1305 : decode code 1305 = .ok (.iload_n 3, 1) := by decide +kernel
theorem d_L_law_1306 : decode code 1306 = .ok (.iconst 2, 1) := by decide +kernel
theorem d_L_law_1307 : decode code 1307 = .ok (.iadd, 1) := by decide +kernel
theorem d_L_law_1308 : decode code 1308 = .ok (.iaload, 1) := by decide +kernel
theorem d_L_law_1309 : decode code 1309 = .ok (.aload_n 0, 1) := by decide +kernel
theorem d_L_law_1310 : decode code 1310 = .ok (.iload_n 3, 1) := by decide +kernel
theorem d_L_law_1311 : decode code 1311 = .ok (.iconst 3, 1) := by decide +kernel
theorem d_L_law_1312 : decode code 1312 = .ok (.iadd, 1) := by decide +kernel
theorem d_L_law_1313 : decode code 1313 = .ok (.iaload, 1) := by decide +kernel
theorem d_L_law_1314 : decode code 1314 = .ok (.aload_n 0, 1) := by decide +kernel
theorem d_L_law_1315 : decode code 1315 = .ok (.iload_n 3, 1) := by decide +kernel
theorem d_L_law_1316 : decode code 1316 = .ok (.iconst 4, 1) := by decide +kernel
theorem d_L_law_1317 : decode code 1317 = .ok (.iadd, 1) := by decide +kernel
theorem d_L_law_1318 : decode code 1318 = .ok (.iaload, 1) := by decide +kernel
theorem d_L_law_1319 : decode code 1319 = .ok (.invokevirtual 159, 3) := by decide +kernel
theorem d_L_law_1322 : decode code 1322 = .ok (.if_icmp .eq 267, 3) := by decide +kernel
theorem d_L_law_1325 : decode code 1325 = .ok (.iconst 0, 1) := by decide +kernel
theorem d_L_law_1326 : decode code 1326 = .ok (.ireturn, 1) := by decide +kernel
theorem d_L_law_1327 : decode code 1327 = .ok (.aload_n 1, 1) := by decide +kernel
theorem d_L_law_1328 : decode code 1328 = .ok (.aload_n 0, 1) := by decide +kernel
theorem d_L_law_1329 : decode code 1329 = .ok (.iload_n 3, 1) := by decide +kernel
theorem d_L_law_1330 : decode code 1330 = .ok (.iconst 1, 1) := by decide +kernel
theorem d_L_law_1331 : decode code 1331 = .ok (.iadd, 1) := by decide +kernel
theorem d_L_law_1332 : decode code 1332 = .ok (.iaload, 1) := by decide +kernel
theorem d_L_law_1333 : decode code 1333 = .ok (.aload_n 0, 1) := by decide +kernel
theorem d_L_law_1334 : decode code 1334 = .ok (.iload_n 3, 1) := by decide +kernel
theorem d_L_law_1335 : decode code 1335 = .ok (.iconst 2, 1) := by decide +kernel
theorem d_L_law_1336 : decode code 1336 = .ok (.iadd, 1) := by decide +kernel
theorem d_L_law_1337 : decode code 1337 = .ok (.iaload, 1) := by decide +kernel
theorem d_L_law_1338 : decode code 1338 = .ok (.invokevirtual 160, 3) := by decide +kernel
theorem d_L_law_1341 : decode code 1341 = .ok (.aload_n 2, 1) := by decide +kernel
theorem d_L_law_1342 : decode code 1342 = .ok (.aload_n 0, 1) := by decide +kernel
theorem d_L_law_1343 : decode code 1343 = .ok (.iload_n 3, 1) := by decide +kernel
theorem d_L_law_1344 : decode code 1344 = .ok (.iconst 1, 1) := by decide +kernel
theorem d_L_law_1345 : decode code 1345 = .ok (.iadd, 1) := by decide +kernel
theorem d_L_law_1346 : decode code 1346 = .ok (.iaload, 1) := by decide +kernel
theorem d_L_law_1347 : decode code 1347 = .ok (.aload_n 0, 1) := by decide +kernel
theorem d_L_law_1348 : decode code 1348 = .ok (.iload_n 3, 1) := by decide +kernel
theorem d_L_law_1349 : decode code 1349 = .ok (.iconst 2, 1) := by decide +kernel
theorem d_L_law_1350 : decode code 1350 = .ok (.iadd, 1) := by decide +kernel
theorem d_L_law_1351 : decode code 1351 = .ok (.iaload, 1) := by decide +kernel
theorem d_L_law_1352 : decode code 1352 = .ok (.invokevirtual 163, 3) := by decide +kernel
theorem d_L_law_1355 : decode code 1355 = .ok (.if_icmp .eq 234, 3) := by decide +kernel
theorem d_L_law_1358 : decode code 1358 = .ok (.iconst 0, 1) := by decide +kernel
theorem d_L_law_1359 : decode code 1359 = .ok (.ireturn, 1) := by decide +kernel
theorem d_L_law_1360 : decode code 1360 = .ok (.aload_n 1, 1) := by decide +kernel
theorem d_L_law_1361 : decode code 1361 = .ok (.aload_n 0, 1) := by decide +kernel
theorem d_L_law_1362 : decode code 1362 = .ok (.iload_n 3, 1) := by decide +kernel
theorem d_L_law_1363 : decode code 1363 = .ok (.iconst 1, 1) := by decide +kernel
theorem d_L_law_1364 : decode code 1364 = .ok (.iadd, 1) := by decide +kernel
theorem d_L_law_1365 : decode code 1365 = .ok (.iaload, 1) := by decide +kernel
theorem d_L_law_1366 : decode code 1366 = .ok (.aload_n 0, 1) := by decide +kernel
theorem d_L_law_1367 : decode code 1367 = .ok (.iload_n 3, 1) := by decide +kernel
theorem d_L_law_1368 : decode code 1368 = .ok (.iconst 2, 1) := by decide +kernel
theorem d_L_law_1369 : decode code 1369 = .ok (.iadd, 1) := by decide +kernel
theorem d_L_law_1370 : decode code 1370 = .ok (.iaload, 1) := by decide +kernel
theorem d_L_law_1371 : decode code 1371 = .ok (.invokevirtual 164, 3) := by decide +kernel
theorem d_L_law_1374 : decode code 1374 = .ok (.aload_n 2, 1) := by decide +kernel
theorem d_L_law_1375 : decode code 1375 = .ok (.aload_n 0, 1) := by decide +kernel
theorem d_L_law_1376 : decode code 1376 = .ok (.iload_n 3, 1) := by decide +kernel
theorem d_L_law_1377 : decode code 1377 = .ok (.iconst 1, 1) := by decide +kernel
theorem d_L_law_1378 : decode code 1378 = .ok (.iadd, 1) := by decide +kernel
theorem d_L_law_1379 : decode code 1379 = .ok (.iaload, 1) := by decide +kernel
theorem d_L_law_1380 : decode code 1380 = .ok (.aload_n 0, 1) := by decide +kernel
theorem d_L_law_1381 : decode code 1381 = .ok (.iload_n 3, 1) := by decide +kernel
theorem d_L_law_1382 : decode code 1382 = .ok (.iconst 2, 1) := by decide +kernel
theorem d_L_law_1383 : decode code 1383 = .ok (.iadd, 1) := by decide +kernel
theorem d_L_law_1384 : decode code 1384 = .ok (.iaload, 1) := by decide +kernel
theorem d_L_law_1385 : decode code 1385 = .ok (.invokevirtual 167, 3) := by decide +kernel
theorem d_L_law_1388 : decode code 1388 = .ok (.if_icmp .eq 201, 3) := by decide +kernel
theorem d_L_law_1391 : decode code 1391 = .ok (.iconst 0, 1) := by decide +kernel
theorem d_L_law_1392 : decode code 1392 = .ok (.ireturn, 1) := by decide +kernel
theorem d_L_law_1393 : decode code 1393 = .ok (.aload_n 1, 1) := by decide +kernel
theorem d_L_law_1394 : decode code 1394 = .ok (.aload_n 0, 1) := by decide +kernel
theorem d_L_law_1395 : decode code 1395 = .ok (.iload_n 3, 1) := by decide +kernel
theorem d_L_law_1396 : decode code 1396 = .ok (.iconst 1, 1) := by decide +kernel
theorem d_L_law_1397 : decode code 1397 = .ok (.iadd, 1) := by decide +kernel
theorem d_L_law_1398 : decode code 1398 = .ok (.iaload, 1) := by decide +kernel
theorem d_L_law_1399 : decode code 1399 = .ok (.aload_n 0, 1) := by decide +kernel
theorem d_L_law_1400 : decode code 1400 = .ok (.iload_n 3, 1) := by decide +kernel
theorem d_L_law_1401 : decode code 1401 = .ok (.iconst 2, 1) := by decide +kernel
theorem d_L_law_1402 : decode code 1402 = .ok (.iadd, 1) := by decide +kernel
theorem d_L_law_1403 : decode code 1403 = .ok (.iaload, 1) := by decide +kernel
theorem d_L_law_1404 : decode code 1404 = .ok (.invokevirtual 168, 3) := by decide +kernel
theorem d_L_law_1407 : decode code 1407 = .ok (.aload_n 2, 1) := by decide +kernel
theorem d_L_law_1408 : decode code 1408 = .ok (.aload_n 0, 1) := by decide +kernel
theorem d_L_law_1409 : decode code 1409 = .ok (.iload_n 3, 1) := by decide +kernel
theorem d_L_law_1410 : decode code 1410 = .ok (.iconst 1, 1) := by decide +kernel
theorem d_L_law_1411 : decode code 1411 = .ok (.iadd, 1) := by decide +kernel
theorem d_L_law_1412 : decode code 1412 = .ok (.iaload, 1) := by decide +kernel
theorem d_L_law_1413 : decode code 1413 = .ok (.aload_n 0, 1) := by decide +kernel
theorem d_L_law_1414 : decode code 1414 = .ok (.iload_n 3, 1) := by decide +kernel
theorem d_L_law_1415 : decode code 1415 = .ok (.iconst 2, 1) := by decide +kernel
theorem d_L_law_1416 : decode code 1416 = .ok (.iadd, 1) := by decide +kernel
theorem d_L_law_1417 : decode code 1417 = .ok (.iaload, 1) := by decide +kernel
theorem d_L_law_1418 : decode code 1418 = .ok (.invokevirtual 171, 3) := by decide +kernel
theorem d_L_law_1421 : decode code 1421 = .ok (.if_icmp .eq 168, 3) := by decide +kernel
theorem d_L_law_1424 : decode code 1424 = .ok (.iconst 0, 1) := by decide +kernel
theorem d_L_law_1425 : decode code 1425 = .ok (.ireturn, 1) := by decide +kernel
theorem d_L_law_1426 : decode code 1426 = .ok (.aload_n 1, 1) := by decide +kernel
theorem d_L_law_1427 : decode code 1427 = .ok (.aload_n 0, 1) := by decide +kernel
theorem d_L_law_1428 : decode code 1428 = .ok (.iload_n 3, 1) := by decide +kernel
theorem d_L_law_1429 : decode code 1429 = .ok (.iconst 1, 1) := by decide +kernel
theorem d_L_law_1430 : decode code 1430 = .ok (.iadd, 1) := by decide +kernel
theorem d_L_law_1431 : decode code 1431 = .ok (.iaload, 1) := by decide +kernel
theorem d_L_law_1432 : decode code 1432 = .ok (.aload_n 0, 1) := by decide +kernel
theorem d_L_law_1433 : decode code 1433 = .ok (.iload_n 3, 1) := by decide +kernel
theorem d_L_law_1434 : decode code 1434 = .ok (.iconst 2, 1) := by decide +kernel
theorem d_L_law_1435 : decode code 1435 = .ok (.iadd, 1) := by decide +kernel
theorem d_L_law_1436 : decode code 1436 = .ok (.iaload, 1) := by decide +kernel
theorem d_L_law_1437 : decode code 1437 = .ok (.aload_n 0, 1) := by decide +kernel
theorem d_L_law_1438 : decode code 1438 = .ok (.iload_n 3, 1) := by decide +kernel
theorem d_L_law_1439 : decode code 1439 = .ok (.iconst 3, 1) := by decide +kernel
theorem d_L_law_1440 : decode code 1440 = .ok (.iadd, 1) := by decide +kernel
theorem d_L_law_1441 : decode code 1441 = .ok (.iaload, 1) := by decide +kernel
theorem d_L_law_1442 : decode code 1442 = .ok (.invokevirtual 172, 3) := by decide +kernel
theorem d_L_law_1445 : decode code 1445 = .ok (.aload_n 2, 1) := by decide +kernel
theorem d_L_law_1446 : decode code 1446 = .ok (.aload_n 0, 1) := by decide +kernel
theorem d_L_law_1447 : decode code 1447 = .ok (.iload_n 3, 1) := by decide +kernel
theorem d_L_law_1448 : decode code 1448 = .ok (.iconst 1, 1) := by decide +kernel
theorem d_L_law_1449 : decode code 1449 = .ok (.iadd, 1) := by decide +kernel
theorem d_L_law_1450 : decode code 1450 = .ok (.iaload, 1) := by decide +kernel
theorem d_L_law_1451 : decode code 1451 = .ok (.aload_n 0, 1) := by decide +kernel
theorem d_L_law_1452 : decode code 1452 = .ok (.iload_n 3, 1) := by decide +kernel
theorem d_L_law_1453 : decode code 1453 = .ok (.iconst 2, 1) := by decide +kernel
theorem d_L_law_1454 : decode code 1454 = .ok (.iadd, 1) := by decide +kernel
theorem d_L_law_1455 : decode code 1455 = .ok (.iaload, 1) := by decide +kernel
theorem d_L_law_1456 : decode code 1456 = .ok (.aload_n 0, 1) := by decide +kernel
theorem d_L_law_1457 : decode code 1457 = .ok (.iload_n 3, 1) := by decide +kernel
theorem d_L_law_1458 : decode code 1458 = .ok (.iconst 3, 1) := by decide +kernel
theorem d_L_law_1459 : decode code 1459 = .ok (.iadd, 1) := by decide +kernel
theorem d_L_law_1460 : decode code 1460 = .ok (.iaload, 1) := by decide +kernel
theorem d_L_law_1461 : decode code 1461 = .ok (.invokevirtual 175, 3) := by decide +kernel
theorem d_L_law_1464 : decode code 1464 = .ok (.if_icmp .eq 125, 3) := by decide +kernel
theorem d_L_law_1467 : decode code 1467 = .ok (.iconst 0, 1) := by decide +kernel
theorem d_L_law_1468 : decode code 1468 = .ok (.ireturn, 1) := by decide +kernel
theorem d_L_law_1469 : decode code 1469 = .ok (.aload_n 1, 1) := by decide +kernel
theorem d_L_law_1470 : decode code 1470 = .ok (.aload_n 0, 1) := by decide +kernel
theorem d_L_law_1471 : decode code 1471 = .ok (.iload_n 3, 1) := by decide +kernel
theorem d_L_law_1472 : decode code 1472 = .ok (.iconst 1, 1) := by decide +kernel
theorem d_L_law_1473 : decode code 1473 = .ok (.iadd, 1) := by decide +kernel
theorem d_L_law_1474 : decode code 1474 = .ok (.iaload, 1) := by decide +kernel
theorem d_L_law_1475 : decode code 1475 = .ok (.aload_n 0, 1) := by decide +kernel
theorem d_L_law_1476 : decode code 1476 = .ok (.iload_n 3, 1) := by decide +kernel
theorem d_L_law_1477 : decode code 1477 = .ok (.iconst 2, 1) := by decide +kernel
theorem d_L_law_1478 : decode code 1478 = .ok (.iadd, 1) := by decide +kernel
theorem d_L_law_1479 : decode code 1479 = .ok (.iaload, 1) := by decide +kernel
theorem d_L_law_1480 : decode code 1480 = .ok (.aload_n 0, 1) := by decide +kernel
theorem d_L_law_1481 : decode code 1481 = .ok (.iload_n 3, 1) := by decide +kernel
theorem d_L_law_1482 : decode code 1482 = .ok (.iconst 3, 1) := by decide +kernel
theorem d_L_law_1483 : decode code 1483 = .ok (.iadd, 1) := by decide +kernel
theorem d_L_law_1484 : decode code 1484 = .ok (.iaload, 1) := by decide +kernel
theorem d_L_law_1485 : decode code 1485 = .ok (.invokevirtual 176, 3) := by decide +kernel
theorem d_L_law_1488 : decode code 1488 = .ok (.aload_n 2, 1) := by decide +kernel
theorem d_L_law_1489 : decode code 1489 = .ok (.aload_n 0, 1) := by decide +kernel
theorem d_L_law_1490 : decode code 1490 = .ok (.iload_n 3, 1) := by decide +kernel
theorem d_L_law_1491 : decode code 1491 = .ok (.iconst 1, 1) := by decide +kernel
theorem d_L_law_1492 : decode code 1492 = .ok (.iadd, 1) := by decide +kernel
theorem d_L_law_1493 : decode code 1493 = .ok (.iaload, 1) := by decide +kernel
theorem d_L_law_1494 : decode code 1494 = .ok (.aload_n 0, 1) := by decide +kernel
theorem d_L_law_1495 : decode code 1495 = .ok (.iload_n 3, 1) := by decide +kernel
theorem d_L_law_1496 : decode code 1496 = .ok (.iconst 2, 1) := by decide +kernel
theorem d_L_law_1497 : decode code 1497 = .ok (.iadd, 1) := by decide +kernel
theorem d_L_law_1498 : decode code 1498 = .ok (.iaload, 1) := by decide +kernel
theorem d_L_law_1499 : decode code 1499 = .ok (.aload_n 0, 1) := by decide +kernel
theorem d_L_law_1500 : decode code 1500 = .ok (.iload_n 3, 1) := by decide +kernel
theorem d_L_law_1501 : decode code 1501 = .ok (.iconst 3, 1) := by decide +kernel
theorem d_L_law_1502 : decode code 1502 = .ok (.iadd, 1) := by decide +kernel
theorem d_L_law_1503 : decode code 1503 = .ok (.iaload, 1) := by decide +kernel
theorem d_L_law_1504 : decode code 1504 = .ok (.invokevirtual 179, 3) := by decide +kernel
theorem d_L_law_1507 : decode code 1507 = .ok (.if_icmp .eq 82, 3) := by decide +kernel
theorem d_L_law_1510 : decode code 1510 = .ok (.iconst 0, 1) := by decide +kernel
theorem d_L_law_1511 : decode code 1511 = .ok (.ireturn, 1) := by decide +kernel
theorem d_L_law_1512 : decode code 1512 = .ok (.aload_n 1, 1) := by decide +kernel
theorem d_L_law_1513 : decode code 1513 = .ok (.aload_n 0, 1) := by decide +kernel
theorem d_L_law_1514 : decode code 1514 = .ok (.iload_n 3, 1) := by decide +kernel
theorem d_L_law_1515 : decode code 1515 = .ok (.iconst 1, 1) := by decide +kernel
theorem d_L_law_1516 : decode code 1516 = .ok (.iadd, 1) := by decide +kernel
theorem d_L_law_1517 : decode code 1517 = .ok (.iaload, 1) := by decide +kernel
theorem d_L_law_1518 : decode code 1518 = .ok (.aload_n 0, 1) := by decide +kernel
theorem d_L_law_1519 : decode code 1519 = .ok (.iload_n 3, 1) := by decide +kernel
theorem d_L_law_1520 : decode code 1520 = .ok (.iconst 2, 1) := by decide +kernel
theorem d_L_law_1521 : decode code 1521 = .ok (.iadd, 1) := by decide +kernel
theorem d_L_law_1522 : decode code 1522 = .ok (.iaload, 1) := by decide +kernel
theorem d_L_law_1523 : decode code 1523 = .ok (.aload_n 0, 1) := by decide +kernel
theorem d_L_law_1524 : decode code 1524 = .ok (.iload_n 3, 1) := by decide +kernel
theorem d_L_law_1525 : decode code 1525 = .ok (.iconst 3, 1) := by decide +kernel
theorem d_L_law_1526 : decode code 1526 = .ok (.iadd, 1) := by decide +kernel
theorem d_L_law_1527 : decode code 1527 = .ok (.iaload, 1) := by decide +kernel
theorem d_L_law_1528 : decode code 1528 = .ok (.aload_n 0, 1) := by decide +kernel
theorem d_L_law_1529 : decode code 1529 = .ok (.iload_n 3, 1) := by decide +kernel
theorem d_L_law_1530 : decode code 1530 = .ok (.iconst 4, 1) := by decide +kernel
theorem d_L_law_1531 : decode code 1531 = .ok (.iadd, 1) := by decide +kernel
theorem d_L_law_1532 : decode code 1532 = .ok (.iaload, 1) := by decide +kernel
theorem d_L_law_1533 : decode code 1533 = .ok (.invokevirtual 180, 3) := by decide +kernel
theorem d_L_law_1536 : decode code 1536 = .ok (.aload_n 2, 1) := by decide +kernel
theorem d_L_law_1537 : decode code 1537 = .ok (.aload_n 0, 1) := by decide +kernel
theorem d_L_law_1538 : decode code 1538 = .ok (.iload_n 3, 1) := by decide +kernel
theorem d_L_law_1539 : decode code 1539 = .ok (.iconst 1, 1) := by decide +kernel
theorem d_L_law_1540 : decode code 1540 = .ok (.iadd, 1) := by decide +kernel
theorem d_L_law_1541 : decode code 1541 = .ok (.iaload, 1) := by decide +kernel
theorem d_L_law_1542 : decode code 1542 = .ok (.aload_n 0, 1) := by decide +kernel
theorem d_L_law_1543 : decode code 1543 = .ok (.iload_n 3, 1) := by decide +kernel
theorem d_L_law_1544 : decode code 1544 = .ok (.iconst 2, 1) := by decide +kernel
theorem d_L_law_1545 : decode code 1545 = .ok (.iadd, 1) := by decide +kernel
theorem d_L_law_1546 : decode code 1546 = .ok (.iaload, 1) := by decide +kernel
theorem d_L_law_1547 : decode code 1547 = .ok (.aload_n 0, 1) := by decide +kernel
theorem d_L_law_1548 : decode code 1548 = .ok (.iload_n 3, 1) := by decide +kernel
theorem d_L_law_1549 : decode code 1549 = .ok (.iconst 3, 1) := by decide +kernel
theorem d_L_law_1550 : decode code 1550 = .ok (.iadd, 1) := by decide +kernel
theorem d_L_law_1551 : decode code 1551 = .ok (.iaload, 1) := by decide +kernel
theorem d_L_law_1552 : decode code 1552 = .ok (.aload_n 0, 1) := by decide +kernel
theorem d_L_law_1553 : decode code 1553 = .ok (.iload_n 3, 1) := by decide +kernel
theorem d_L_law_1554 : decode code 1554 = .ok (.iconst 4, 1) := by decide +kernel
theorem d_L_law_1555 : decode code 1555 = .ok (.iadd, 1) := by decide +kernel
theorem d_L_law_1556 : decode code 1556 = .ok (.iaload, 1) := by decide +kernel
theorem d_L_law_1557 : decode code 1557 = .ok (.invokevirtual 184, 3) := by decide +kernel
theorem d_L_law_1560 : decode code 1560 = .ok (.lcmp, 1) := by decide +kernel
theorem d_L_law_1561 : decode code 1561 = .ok (.ifCond .eq 28, 3) := by decide +kernel
theorem d_L_law_1564 : decode code 1564 = .ok (.iconst 0, 1) := by decide +kernel
theorem d_L_law_1565 : decode code 1565 = .ok (.ireturn, 1) := by decide +kernel
theorem d_L_law_1566 : decode code 1566 = .ok (.aload_n 1, 1) := by decide +kernel
theorem d_L_law_1567 : decode code 1567 = .ok (.aload_n 0, 1) := by decide +kernel
theorem d_L_law_1568 : decode code 1568 = .ok (.iload_n 3, 1) := by decide +kernel
theorem d_L_law_1569 : decode code 1569 = .ok (.iconst 1, 1) := by decide +kernel
theorem d_L_law_1570 : decode code 1570 = .ok (.iadd, 1) := by decide +kernel
theorem d_L_law_1571 : decode code 1571 = .ok (.iaload, 1) := by decide +kernel
theorem d_L_law_1572 : decode code 1572 = .ok (.invokevirtual 185, 3) := by decide +kernel
theorem d_L_law_1575 : decode code 1575 = .ok (.aload_n 2, 1) := by decide +kernel
theorem d_L_law_1576 : decode code 1576 = .ok (.aload_n 0, 1) := by decide +kernel
theorem d_L_law_1577 : decode code 1577 = .ok (.iload_n 3, 1) := by decide +kernel
theorem d_L_law_1578 : decode code 1578 = .ok (.iconst 1, 1) := by decide +kernel
theorem d_L_law_1579 : decode code 1579 = .ok (.iadd, 1) := by decide +kernel
theorem d_L_law_1580 : decode code 1580 = .ok (.iaload, 1) := by decide +kernel
theorem d_L_law_1581 : decode code 1581 = .ok (.invokevirtual 188, 3) := by decide +kernel
theorem d_L_law_1584 : decode code 1584 = .ok (.if_icmp .eq 5, 3) := by decide +kernel
theorem d_L_law_1587 : decode code 1587 = .ok (.iconst 0, 1) := by decide +kernel
theorem d_L_law_1588 : decode code 1588 = .ok (.ireturn, 1) := by decide +kernel
theorem d_L_law_1589 : decode code 1589 = .ok (.iinc 3 6, 3) := by decide +kernel
theorem d_L_law_1592 : decode code 1592 = .ok (.goto (-1574), 3) := by decide +kernel
theorem d_L_law_1595 : decode code 1595 = .ok (.iconst 1, 1) := by decide +kernel
theorem d_L_law_1596 : decode code 1596 = .ok (.ireturn, 1) := by decide +kernel
