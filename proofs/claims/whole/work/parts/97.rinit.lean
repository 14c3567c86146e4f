/-! THE INIT OF THE REFERENCE -/
theorem dc_14_1_0 : decode prog_14_method_1_code 0 = .ok (.aload_n 0, 1) := by decide +kernel
theorem dc_14_1_1 : decode prog_14_method_1_code 1 = .ok (.invokespecial 1, 3) := by decide +kernel
theorem dc_14_1_4 : decode prog_14_method_1_code 4 = .ok (.aload_n 0, 1) := by decide +kernel
theorem dc_14_1_5 : decode prog_14_method_1_code 5 = .ok (.iconst 4, 1) := by decide +kernel
theorem dc_14_1_6 : decode prog_14_method_1_code 6 = .ok (.newarray .int, 2) := by decide +kernel
theorem dc_14_1_8 : decode prog_14_method_1_code 8 = .ok (.putfield 7, 3) := by decide +kernel
theorem dc_14_1_11 : decode prog_14_method_1_code 11 = .ok (.aload_n 0, 1) := by decide +kernel
theorem dc_14_1_12 : decode prog_14_method_1_code 12 = .ok (.iconst 4, 1) := by decide +kernel
theorem dc_14_1_13 : decode prog_14_method_1_code 13 = .ok (.newarray .int, 2) := by decide +kernel
theorem dc_14_1_15 : decode prog_14_method_1_code 15 = .ok (.putfield 13, 3) := by decide +kernel
theorem dc_14_1_18 : decode prog_14_method_1_code 18 = .ok (.aload_n 0, 1) := by decide +kernel
theorem dc_14_1_19 : decode prog_14_method_1_code 19 = .ok (.bipush 44, 2) := by decide +kernel
theorem dc_14_1_21 : decode prog_14_method_1_code 21 = .ok (.newarray .int, 2) := by decide +kernel
theorem dc_14_1_23 : decode prog_14_method_1_code 23 = .ok (.putfield 16, 3) := by decide +kernel
theorem dc_14_1_26 : decode prog_14_method_1_code 26 = .ok (.aload_n 0, 1) := by decide +kernel
theorem dc_14_1_27 : decode prog_14_method_1_code 27 = .ok (.bipush 8, 2) := by decide +kernel
theorem dc_14_1_29 : decode prog_14_method_1_code 29 = .ok (.newarray .int, 2) := by decide +kernel
theorem dc_14_1_31 : decode prog_14_method_1_code 31 = .ok (.putfield 19, 3) := by decide +kernel
theorem dc_14_1_34 : decode prog_14_method_1_code 34 = .ok (.aload_n 0, 1) := by decide +kernel
theorem dc_14_1_35 : decode prog_14_method_1_code 35 = .ok (.bipush 8, 2) := by decide +kernel
theorem dc_14_1_37 : decode prog_14_method_1_code 37 = .ok (.newarray .int, 2) := by decide +kernel
theorem dc_14_1_39 : decode prog_14_method_1_code 39 = .ok (.putfield 22, 3) := by decide +kernel
theorem dc_14_1_42 : decode prog_14_method_1_code 42 = .ok (.aload_n 0, 1) := by decide +kernel
theorem dc_14_1_43 : decode prog_14_method_1_code 43 = .ok (.bipush 8, 2) := by decide +kernel
theorem dc_14_1_45 : decode prog_14_method_1_code 45 = .ok (.newarray .int, 2) := by decide +kernel
theorem dc_14_1_47 : decode prog_14_method_1_code 47 = .ok (.putfield 25, 3) := by decide +kernel
theorem dc_14_1_50 : decode prog_14_method_1_code 50 = .ok (.aload_n 0, 1) := by decide +kernel
theorem dc_14_1_51 : decode prog_14_method_1_code 51 = .ok (.bipush 8, 2) := by decide +kernel
theorem dc_14_1_53 : decode prog_14_method_1_code 53 = .ok (.newarray .int, 2) := by decide +kernel
theorem dc_14_1_55 : decode prog_14_method_1_code 55 = .ok (.putfield 28, 3) := by decide +kernel
theorem dc_14_1_58 : decode prog_14_method_1_code 58 = .ok (.aload_n 0, 1) := by decide +kernel
theorem dc_14_1_59 : decode prog_14_method_1_code 59 = .ok (.bipush 8, 2) := by decide +kernel
theorem dc_14_1_61 : decode prog_14_method_1_code 61 = .ok (.newarray .int, 2) := by decide +kernel
theorem dc_14_1_63 : decode prog_14_method_1_code 63 = .ok (.putfield 31, 3) := by decide +kernel
theorem dc_14_1_66 : decode prog_14_method_1_code 66 = .ok (.aload_n 0, 1) := by decide +kernel
theorem dc_14_1_67 : decode prog_14_method_1_code 67 = .ok (.bipush 8, 2) := by decide +kernel
theorem dc_14_1_69 : decode prog_14_method_1_code 69 = .ok (.newarray .int, 2) := by decide +kernel
theorem dc_14_1_71 : decode prog_14_method_1_code 71 = .ok (.putfield 34, 3) := by decide +kernel
theorem dc_14_1_74 : decode prog_14_method_1_code 74 = .ok (.aload_n 0, 1) := by decide +kernel
theorem dc_14_1_75 : decode prog_14_method_1_code 75 = .ok (.bipush 8, 2) := by decide +kernel
theorem dc_14_1_77 : decode prog_14_method_1_code 77 = .ok (.newarray .int, 2) := by decide +kernel
theorem dc_14_1_79 : decode prog_14_method_1_code 79 = .ok (.putfield 37, 3) := by decide +kernel
theorem dc_14_1_82 : decode prog_14_method_1_code 82 = .ok (.aload_n 0, 1) := by decide +kernel
theorem dc_14_1_83 : decode prog_14_method_1_code 83 = .ok (.bipush 8, 2) := by decide +kernel
theorem dc_14_1_85 : decode prog_14_method_1_code 85 = .ok (.newarray .int, 2) := by decide +kernel
theorem dc_14_1_87 : decode prog_14_method_1_code 87 = .ok (.putfield 40, 3) := by decide +kernel
theorem dc_14_1_90 : decode prog_14_method_1_code 90 = .ok (.aload_n 0, 1) := by decide +kernel
theorem dc_14_1_91 : decode prog_14_method_1_code 91 = .ok (.bipush 48, 2) := by decide +kernel
theorem dc_14_1_93 : decode prog_14_method_1_code 93 = .ok (.newarray .int, 2) := by decide +kernel
theorem dc_14_1_95 : decode prog_14_method_1_code 95 = .ok (.putfield 43, 3) := by decide +kernel
theorem dc_14_1_98 : decode prog_14_method_1_code 98 = .ok (.aload_n 0, 1) := by decide +kernel
theorem dc_14_1_99 : decode prog_14_method_1_code 99 = .ok (.bipush 48, 2) := by decide +kernel
theorem dc_14_1_101 : decode prog_14_method_1_code 101 = .ok (.newarray .int, 2) := by decide +kernel
theorem dc_14_1_103 : decode prog_14_method_1_code 103 = .ok (.putfield 46, 3) := by decide +kernel
theorem dc_14_1_106 : decode prog_14_method_1_code 106 = .ok (.aload_n 0, 1) := by decide +kernel
theorem dc_14_1_107 : decode prog_14_method_1_code 107 = .ok (.bipush 48, 2) := by decide +kernel
theorem dc_14_1_109 : decode prog_14_method_1_code 109 = .ok (.newarray .int, 2) := by decide +kernel
theorem dc_14_1_111 : decode prog_14_method_1_code 111 = .ok (.putfield 49, 3) := by decide +kernel
theorem dc_14_1_114 : decode prog_14_method_1_code 114 = .ok (.aload_n 0, 1) := by decide +kernel
theorem dc_14_1_115 : decode prog_14_method_1_code 115 = .ok (.bipush 48, 2) := by decide +kernel
theorem dc_14_1_117 : decode prog_14_method_1_code 117 = .ok (.newarray .int, 2) := by decide +kernel
theorem dc_14_1_119 : decode prog_14_method_1_code 119 = .ok (.putfield 52, 3) := by decide +kernel
theorem dc_14_1_122 : decode prog_14_method_1_code 122 = .ok (.aload_n 0, 1) := by decide +kernel
theorem dc_14_1_123 : decode prog_14_method_1_code 123 = .ok (.bipush 48, 2) := by decide +kernel
theorem dc_14_1_125 : decode prog_14_method_1_code 125 = .ok (.newarray .boolean, 2) := by decide +kernel
theorem dc_14_1_127 : decode prog_14_method_1_code 127 = .ok (.putfield 55, 3) := by decide +kernel
theorem dc_14_1_130 : decode prog_14_method_1_code 130 = .ok (.aload_n 0, 1) := by decide +kernel
theorem dc_14_1_131 : decode prog_14_method_1_code 131 = .ok (.bipush 80, 2) := by decide +kernel
theorem dc_14_1_133 : decode prog_14_method_1_code 133 = .ok (.newarray .byte, 2) := by decide +kernel
theorem dc_14_1_135 : decode prog_14_method_1_code 135 = .ok (.putfield 59, 3) := by decide +kernel
theorem dc_14_1_138 : decode prog_14_method_1_code 138 = .ok (.aload_n 0, 1) := by decide +kernel
theorem dc_14_1_139 : decode prog_14_method_1_code 139 = .ok (.bipush 12, 2) := by decide +kernel
theorem dc_14_1_141 : decode prog_14_method_1_code 141 = .ok (.newarray .int, 2) := by decide +kernel
theorem dc_14_1_143 : decode prog_14_method_1_code 143 = .ok (.putfield 63, 3) := by decide +kernel
theorem dc_14_1_146 : decode prog_14_method_1_code 146 = .ok (.aload_n 0, 1) := by decide +kernel
theorem dc_14_1_147 : decode prog_14_method_1_code 147 = .ok (.bipush 12, 2) := by decide +kernel
theorem dc_14_1_149 : decode prog_14_method_1_code 149 = .ok (.newarray .int, 2) := by decide +kernel
theorem dc_14_1_151 : decode prog_14_method_1_code 151 = .ok (.putfield 66, 3) := by decide +kernel
theorem dc_14_1_154 : decode prog_14_method_1_code 154 = .ok (.aload_n 0, 1) := by decide +kernel
theorem dc_14_1_155 : decode prog_14_method_1_code 155 = .ok (.bipush 12, 2) := by decide +kernel
theorem dc_14_1_157 : decode prog_14_method_1_code 157 = .ok (.newarray .int, 2) := by decide +kernel
theorem dc_14_1_159 : decode prog_14_method_1_code 159 = .ok (.putfield 69, 3) := by decide +kernel
theorem dc_14_1_162 : decode prog_14_method_1_code 162 = .ok (.aload_n 0, 1) := by decide +kernel
theorem dc_14_1_163 : decode prog_14_method_1_code 163 = .ok (.bipush 12, 2) := by decide +kernel
theorem dc_14_1_165 : decode prog_14_method_1_code 165 = .ok (.newarray .int, 2) := by decide +kernel
theorem dc_14_1_167 : decode prog_14_method_1_code 167 = .ok (.putfield 72, 3) := by decide +kernel
theorem dc_14_1_170 : decode prog_14_method_1_code 170 = .ok (.aload_n 0, 1) := by decide +kernel
theorem dc_14_1_171 : decode prog_14_method_1_code 171 = .ok (.bipush 12, 2) := by decide +kernel
theorem dc_14_1_173 : decode prog_14_method_1_code 173 = .ok (.newarray .int, 2) := by decide +kernel
theorem dc_14_1_175 : decode prog_14_method_1_code 175 = .ok (.putfield 75, 3) := by decide +kernel
theorem dc_14_1_178 : decode prog_14_method_1_code 178 = .ok (.aload_n 0, 1) := by decide +kernel
theorem dc_14_1_179 : decode prog_14_method_1_code 179 = .ok (.bipush 12, 2) := by decide +kernel
theorem dc_14_1_181 : decode prog_14_method_1_code 181 = .ok (.newarray .int, 2) := by decide +kernel
theorem dc_14_1_183 : decode prog_14_method_1_code 183 = .ok (.putfield 78, 3) := by decide +kernel
theorem dc_14_1_186 : decode prog_14_method_1_code 186 = .ok (.aload_n 0, 1) := by decide +kernel
theorem dc_14_1_187 : decode prog_14_method_1_code 187 = .ok (.bipush 12, 2) := by decide +kernel
theorem dc_14_1_189 : decode prog_14_method_1_code 189 = .ok (.newarray .int, 2) := by decide +kernel
theorem dc_14_1_191 : decode prog_14_method_1_code 191 = .ok (.putfield 81, 3) := by decide +kernel
theorem dc_14_1_194 : decode prog_14_method_1_code 194 = .ok (.aload_n 0, 1) := by decide +kernel
theorem dc_14_1_195 : decode prog_14_method_1_code 195 = .ok (.bipush 12, 2) := by decide +kernel
theorem dc_14_1_197 : decode prog_14_method_1_code 197 = .ok (.newarray .int, 2) := by decide +kernel
theorem dc_14_1_199 : decode prog_14_method_1_code 199 = .ok (.putfield 84, 3) := by decide +kernel
theorem dc_14_1_202 : decode prog_14_method_1_code 202 = .ok (.aload_n 0, 1) := by decide +kernel
theorem dc_14_1_203 : decode prog_14_method_1_code 203 = .ok (.sipush 960, 3) := by decide +kernel
theorem dc_14_1_206 : decode prog_14_method_1_code 206 = .ok (.newarray .int, 2) := by decide +kernel
theorem dc_14_1_208 : decode prog_14_method_1_code 208 = .ok (.putfield 87, 3) := by decide +kernel
theorem dc_14_1_211 : decode prog_14_method_1_code 211 = .ok (.aload_n 0, 1) := by decide +kernel
theorem dc_14_1_212 : decode prog_14_method_1_code 212 = .ok (.bipush 12, 2) := by decide +kernel
theorem dc_14_1_214 : decode prog_14_method_1_code 214 = .ok (.newarray .int, 2) := by decide +kernel
theorem dc_14_1_216 : decode prog_14_method_1_code 216 = .ok (.putfield 90, 3) := by decide +kernel
theorem dc_14_1_219 : decode prog_14_method_1_code 219 = .ok (.aload_n 0, 1) := by decide +kernel
theorem dc_14_1_220 : decode prog_14_method_1_code 220 = .ok (.bipush 80, 2) := by decide +kernel
theorem dc_14_1_222 : decode prog_14_method_1_code 222 = .ok (.newarray .int, 2) := by decide +kernel
theorem dc_14_1_224 : decode prog_14_method_1_code 224 = .ok (.putfield 93, 3) := by decide +kernel
theorem dc_14_1_227 : decode prog_14_method_1_code 227 = .ok (.aload_n 0, 1) := by decide +kernel
theorem dc_14_1_228 : decode prog_14_method_1_code 228 = .ok (.bipush 80, 2) := by decide +kernel
theorem dc_14_1_230 : decode prog_14_method_1_code 230 = .ok (.newarray .int, 2) := by decide +kernel
theorem dc_14_1_232 : decode prog_14_method_1_code 232 = .ok (.putfield 96, 3) := by decide +kernel
theorem dc_14_1_235 : decode prog_14_method_1_code 235 = .ok (.aload_n 0, 1) := by decide +kernel
theorem dc_14_1_236 : decode prog_14_method_1_code 236 = .ok (.bipush 80, 2) := by decide +kernel
theorem dc_14_1_238 : decode prog_14_method_1_code 238 = .ok (.newarray .boolean, 2) := by decide +kernel
theorem dc_14_1_240 : decode prog_14_method_1_code 240 = .ok (.putfield 99, 3) := by decide +kernel
theorem dc_14_1_243 : decode prog_14_method_1_code 243 = .ok (.aload_n 0, 1) := by decide +kernel
theorem dc_14_1_244 : decode prog_14_method_1_code 244 = .ok (.sipush 400, 3) := by decide +kernel
theorem dc_14_1_247 : decode prog_14_method_1_code 247 = .ok (.newarray .int, 2) := by decide +kernel
theorem dc_14_1_249 : decode prog_14_method_1_code 249 = .ok (.putfield 102, 3) := by decide +kernel
theorem dc_14_1_252 : decode prog_14_method_1_code 252 = .ok (.aload_n 0, 1) := by decide +kernel
theorem dc_14_1_253 : decode prog_14_method_1_code 253 = .ok (.iconst 4, 1) := by decide +kernel
theorem dc_14_1_254 : decode prog_14_method_1_code 254 = .ok (.newarray .int, 2) := by decide +kernel
theorem dc_14_1_256 : decode prog_14_method_1_code 256 = .ok (.putfield 105, 3) := by decide +kernel
theorem dc_14_1_259 : decode prog_14_method_1_code 259 = .ok (.aload_n 0, 1) := by decide +kernel
theorem dc_14_1_260 : decode prog_14_method_1_code 260 = .ok (.bipush 16, 2) := by decide +kernel
theorem dc_14_1_262 : decode prog_14_method_1_code 262 = .ok (.newarray .int, 2) := by decide +kernel
theorem dc_14_1_264 : decode prog_14_method_1_code 264 = .ok (.putfield 108, 3) := by decide +kernel
theorem dc_14_1_267 : decode prog_14_method_1_code 267 = .ok (.aload_n 0, 1) := by decide +kernel
theorem dc_14_1_268 : decode prog_14_method_1_code 268 = .ok (.bipush 16, 2) := by decide +kernel
theorem dc_14_1_270 : decode prog_14_method_1_code 270 = .ok (.newarray .int, 2) := by decide +kernel
theorem dc_14_1_272 : decode prog_14_method_1_code 272 = .ok (.putfield 111, 3) := by decide +kernel
theorem dc_14_1_275 : decode prog_14_method_1_code 275 = .ok (.aload_n 0, 1) := by decide +kernel
theorem dc_14_1_276 : decode prog_14_method_1_code 276 = .ok (.bipush 16, 2) := by decide +kernel
theorem dc_14_1_278 : decode prog_14_method_1_code 278 = .ok (.newarray .int, 2) := by decide +kernel
theorem dc_14_1_280 : decode prog_14_method_1_code 280 = .ok (.putfield 114, 3) := by decide +kernel
theorem dc_14_1_283 : decode prog_14_method_1_code 283 = .ok (.aload_n 0, 1) := by decide +kernel
theorem dc_14_1_284 : decode prog_14_method_1_code 284 = .ok (.bipush 16, 2) := by decide +kernel
theorem dc_14_1_286 : decode prog_14_method_1_code 286 = .ok (.newarray .int, 2) := by decide +kernel
theorem dc_14_1_288 : decode prog_14_method_1_code 288 = .ok (.putfield 117, 3) := by decide +kernel
theorem dc_14_1_291 : decode prog_14_method_1_code 291 = .ok (.aload_n 0, 1) := by decide +kernel
theorem dc_14_1_292 : decode prog_14_method_1_code 292 = .ok (.bipush 16, 2) := by decide +kernel
theorem dc_14_1_294 : decode prog_14_method_1_code 294 = .ok (.newarray .int, 2) := by decide +kernel
theorem dc_14_1_296 : decode prog_14_method_1_code 296 = .ok (.putfield 120, 3) := by decide +kernel
theorem dc_14_1_299 : decode prog_14_method_1_code 299 = .ok (.aload_n 0, 1) := by decide +kernel
theorem dc_14_1_300 : decode prog_14_method_1_code 300 = .ok (.bipush 16, 2) := by decide +kernel
theorem dc_14_1_302 : decode prog_14_method_1_code 302 = .ok (.newarray .int, 2) := by decide +kernel
theorem dc_14_1_304 : decode prog_14_method_1_code 304 = .ok (.putfield 123, 3) := by decide +kernel
theorem dc_14_1_307 : decode prog_14_method_1_code 307 = .ok (.aload_n 0, 1) := by decide +kernel
theorem dc_14_1_308 : decode prog_14_method_1_code 308 = .ok (.bipush 16, 2) := by decide +kernel
theorem dc_14_1_310 : decode prog_14_method_1_code 310 = .ok (.newarray .int, 2) := by decide +kernel
theorem dc_14_1_312 : decode prog_14_method_1_code 312 = .ok (.putfield 126, 3) := by decide +kernel
theorem dc_14_1_315 : decode prog_14_method_1_code 315 = .ok (.aload_n 0, 1) := by decide +kernel
theorem dc_14_1_316 : decode prog_14_method_1_code 316 = .ok (.bipush 16, 2) := by decide +kernel
theorem dc_14_1_318 : decode prog_14_method_1_code 318 = .ok (.newarray .int, 2) := by decide +kernel
theorem dc_14_1_320 : decode prog_14_method_1_code 320 = .ok (.putfield 129, 3) := by decide +kernel
theorem dc_14_1_323 : decode prog_14_method_1_code 323 = .ok (.aload_n 0, 1) := by decide +kernel
theorem dc_14_1_324 : decode prog_14_method_1_code 324 = .ok (.bipush 16, 2) := by decide +kernel
theorem dc_14_1_326 : decode prog_14_method_1_code 326 = .ok (.newarray .int, 2) := by decide +kernel
theorem dc_14_1_328 : decode prog_14_method_1_code 328 = .ok (.putfield 132, 3) := by decide +kernel
theorem dc_14_1_331 : decode prog_14_method_1_code 331 = .ok (.aload_n 0, 1) := by decide +kernel
theorem dc_14_1_332 : decode prog_14_method_1_code 332 = .ok (.bipush 64, 2) := by decide +kernel
theorem dc_14_1_334 : decode prog_14_method_1_code 334 = .ok (.newarray .int, 2) := by decide +kernel
theorem dc_14_1_336 : decode prog_14_method_1_code 336 = .ok (.putfield 135, 3) := by decide +kernel
theorem dc_14_1_339 : decode prog_14_method_1_code 339 = .ok (.aload_n 0, 1) := by decide +kernel
theorem dc_14_1_340 : decode prog_14_method_1_code 340 = .ok (.bipush 64, 2) := by decide +kernel
theorem dc_14_1_342 : decode prog_14_method_1_code 342 = .ok (.newarray .int, 2) := by decide +kernel
theorem dc_14_1_344 : decode prog_14_method_1_code 344 = .ok (.putfield 138, 3) := by decide +kernel
theorem dc_14_1_347 : decode prog_14_method_1_code 347 = .ok (.aload_n 0, 1) := by decide +kernel
theorem dc_14_1_348 : decode prog_14_method_1_code 348 = .ok (.bipush 7, 2) := by decide +kernel
theorem dc_14_1_350 : decode prog_14_method_1_code 350 = .ok (.newarray .int, 2) := by decide +kernel
theorem dc_14_1_352 : decode prog_14_method_1_code 352 = .ok (.putfield 141, 3) := by decide +kernel
theorem dc_14_1_355 : decode prog_14_method_1_code 355 = .ok (.aload_n 0, 1) := by decide +kernel
theorem dc_14_1_356 : decode prog_14_method_1_code 356 = .ok (.bipush 7, 2) := by decide +kernel
theorem dc_14_1_358 : decode prog_14_method_1_code 358 = .ok (.newarray .int, 2) := by decide +kernel
theorem dc_14_1_360 : decode prog_14_method_1_code 360 = .ok (.putfield 144, 3) := by decide +kernel
theorem dc_14_1_363 : decode prog_14_method_1_code 363 = .ok (.aload_n 0, 1) := by decide +kernel
theorem dc_14_1_364 : decode prog_14_method_1_code 364 = .ok (.bipush 7, 2) := by decide +kernel
theorem dc_14_1_366 : decode prog_14_method_1_code 366 = .ok (.newarray .int, 2) := by decide +kernel
theorem dc_14_1_368 : decode prog_14_method_1_code 368 = .ok (.putfield 147, 3) := by decide +kernel
theorem dc_14_1_371 : decode prog_14_method_1_code 371 = .ok (.aload_n 0, 1) := by decide +kernel
theorem dc_14_1_372 : decode prog_14_method_1_code 372 = .ok (.bipush 7, 2) := by decide +kernel
theorem dc_14_1_374 : decode prog_14_method_1_code 374 = .ok (.newarray .int, 2) := by decide +kernel
theorem dc_14_1_376 : decode prog_14_method_1_code 376 = .ok (.putfield 150, 3) := by decide +kernel
theorem dc_14_1_379 : decode prog_14_method_1_code 379 = .ok (.aload_n 0, 1) := by decide +kernel
theorem dc_14_1_380 : decode prog_14_method_1_code 380 = .ok (.bipush 7, 2) := by decide +kernel
theorem dc_14_1_382 : decode prog_14_method_1_code 382 = .ok (.newarray .int, 2) := by decide +kernel
theorem dc_14_1_384 : decode prog_14_method_1_code 384 = .ok (.putfield 153, 3) := by decide +kernel
theorem dc_14_1_387 : decode prog_14_method_1_code 387 = .ok (.aload_n 0, 1) := by decide +kernel
theorem dc_14_1_388 : decode prog_14_method_1_code 388 = .ok (.bipush 7, 2) := by decide +kernel
theorem dc_14_1_390 : decode prog_14_method_1_code 390 = .ok (.newarray .int, 2) := by decide +kernel
theorem dc_14_1_392 : decode prog_14_method_1_code 392 = .ok (.putfield 156, 3) := by decide +kernel
theorem dc_14_1_395 : decode prog_14_method_1_code 395 = .ok (.aload_n 0, 1) := by decide +kernel
theorem dc_14_1_396 : decode prog_14_method_1_code 396 = .ok (.bipush 64, 2) := by decide +kernel
theorem dc_14_1_398 : decode prog_14_method_1_code 398 = .ok (.newarray .int, 2) := by decide +kernel
theorem dc_14_1_400 : decode prog_14_method_1_code 400 = .ok (.putfield 159, 3) := by decide +kernel
theorem dc_14_1_403 : decode prog_14_method_1_code 403 = .ok (.aload_n 0, 1) := by decide +kernel
theorem dc_14_1_404 : decode prog_14_method_1_code 404 = .ok (.iconst 4, 1) := by decide +kernel
theorem dc_14_1_405 : decode prog_14_method_1_code 405 = .ok (.newarray .int, 2) := by decide +kernel
theorem dc_14_1_407 : decode prog_14_method_1_code 407 = .ok (.putfield 162, 3) := by decide +kernel
theorem dc_14_1_410 : decode prog_14_method_1_code 410 = .ok (.aload_n 0, 1) := by decide +kernel
theorem dc_14_1_411 : decode prog_14_method_1_code 411 = .ok (.iconst 4, 1) := by decide +kernel
theorem dc_14_1_412 : decode prog_14_method_1_code 412 = .ok (.newarray .int, 2) := by decide +kernel
theorem dc_14_1_414 : decode prog_14_method_1_code 414 = .ok (.putfield 165, 3) := by decide +kernel
theorem dc_14_1_417 : decode prog_14_method_1_code 417 = .ok (.aload_n 0, 1) := by decide +kernel
theorem dc_14_1_418 : decode prog_14_method_1_code 418 = .ok (.sipush 200, 3) := by decide +kernel
theorem dc_14_1_421 : decode prog_14_method_1_code 421 = .ok (.newarray .int, 2) := by decide +kernel
theorem dc_14_1_423 : decode prog_14_method_1_code 423 = .ok (.putfield 168, 3) := by decide +kernel
theorem dc_14_1_426 : decode prog_14_method_1_code 426 = .ok (.aload_n 0, 1) := by decide +kernel
theorem dc_14_1_427 : decode prog_14_method_1_code 427 = .ok (.sipush 200, 3) := by decide +kernel
theorem dc_14_1_430 : decode prog_14_method_1_code 430 = .ok (.newarray .int, 2) := by decide +kernel
theorem dc_14_1_432 : decode prog_14_method_1_code 432 = .ok (.putfield 171, 3) := by decide +kernel
theorem dc_14_1_435 : decode prog_14_method_1_code 435 = .ok (.aload_n 0, 1) := by decide +kernel
theorem dc_14_1_436 : decode prog_14_method_1_code 436 = .ok (.sipush 200, 3) := by decide +kernel
theorem dc_14_1_439 : decode prog_14_method_1_code 439 = .ok (.newarray .int, 2) := by decide +kernel
theorem dc_14_1_441 : decode prog_14_method_1_code 441 = .ok (.putfield 174, 3) := by decide +kernel
theorem dc_14_1_444 : decode prog_14_method_1_code 444 = .ok (.aload_n 0, 1) := by decide +kernel
theorem dc_14_1_445 : decode prog_14_method_1_code 445 = .ok (.sipush 200, 3) := by decide +kernel
theorem dc_14_1_448 : decode prog_14_method_1_code 448 = .ok (.newarray .int, 2) := by decide +kernel
theorem dc_14_1_450 : decode prog_14_method_1_code 450 = .ok (.putfield 177, 3) := by decide +kernel
theorem dc_14_1_453 : decode prog_14_method_1_code 453 = .ok (.iconst 0, 1) := by decide +kernel
theorem dc_14_1_454 : decode prog_14_method_1_code 454 = .ok (.istore_n 1, 1) := by decide +kernel
theorem dc_14_1_455 : decode prog_14_method_1_code 455 = .ok (.iload_n 1, 1) := by decide +kernel
theorem dc_14_1_456 : decode prog_14_method_1_code 456 = .ok (.iconst 4, 1) := by decide +kernel
theorem dc_14_1_457 : decode prog_14_method_1_code 457 = .ok (.if_icmp .ge 25, 3) := by decide +kernel
theorem dc_14_1_460 : decode prog_14_method_1_code 460 = .ok (.aload_n 0, 1) := by decide +kernel
theorem dc_14_1_461 : decode prog_14_method_1_code 461 = .ok (.getfield 7, 3) := by decide +kernel
theorem dc_14_1_464 : decode prog_14_method_1_code 464 = .ok (.iload_n 1, 1) := by decide +kernel
theorem dc_14_1_465 : decode prog_14_method_1_code 465 = .ok (.bipush 10, 2) := by decide +kernel
theorem dc_14_1_467 : decode prog_14_method_1_code 467 = .ok (.iastore, 1) := by decide +kernel
theorem dc_14_1_468 : decode prog_14_method_1_code 468 = .ok (.aload_n 0, 1) := by decide +kernel
theorem dc_14_1_469 : decode prog_14_method_1_code 469 = .ok (.getfield 13, 3) := by decide +kernel
theorem dc_14_1_472 : decode prog_14_method_1_code 472 = .ok (.iload_n 1, 1) := by decide +kernel
theorem dc_14_1_473 : decode prog_14_method_1_code 473 = .ok (.bipush 30, 2) := by decide +kernel
theorem dc_14_1_475 : decode prog_14_method_1_code 475 = .ok (.iastore, 1) := by decide +kernel
theorem dc_14_1_476 : decode prog_14_method_1_code 476 = .ok (.iinc 1 1, 3) := by decide +kernel
theorem dc_14_1_479 : decode prog_14_method_1_code 479 = .ok (.goto (-24), 3) := by decide +kernel
theorem dc_14_1_482 : decode prog_14_method_1_code 482 = .ok (.iconst 0, 1) := by decide +kernel
theorem dc_14_1_483 : decode prog_14_method_1_code 483 = .ok (.istore_n 1, 1) := by decide +kernel
theorem dc_14_1_484 : decode prog_14_method_1_code 484 = .ok (.iload_n 1, 1) := by decide +kernel
theorem dc_14_1_485 : decode prog_14_method_1_code 485 = .ok (.bipush 44, 2) := by decide +kernel
theorem dc_14_1_487 : decode prog_14_method_1_code 487 = .ok (.if_icmp .ge 16, 3) := by decide +kernel
theorem dc_14_1_490 : decode prog_14_method_1_code 490 = .ok (.aload_n 0, 1) := by decide +kernel
theorem dc_14_1_491 : decode prog_14_method_1_code 491 = .ok (.getfield 16, 3) := by decide +kernel
theorem dc_14_1_494 : decode prog_14_method_1_code 494 = .ok (.iload_n 1, 1) := by decide +kernel
theorem dc_14_1_495 : decode prog_14_method_1_code 495 = .ok (.iconst 1, 1) := by decide +kernel
theorem dc_14_1_496 : decode prog_14_method_1_code 496 = .ok (.iastore, 1) := by decide +kernel
theorem dc_14_1_497 : decode prog_14_method_1_code 497 = .ok (.iinc 1 1, 3) := by decide +kernel
theorem dc_14_1_500 : decode prog_14_method_1_code 500 = .ok (.goto (-16), 3) := by decide +kernel
theorem dc_14_1_503 : decode prog_14_method_1_code 503 = .ok (.return_, 1) := by decide +kernel
theorem iv_13_i1 : mm_iv 13 (.invokespecial 1) = some (7, 0) := by decide +kernel
def pfs (j : Nat) : List Value := (rf_fs (fun _ => 0)).map (fun v => match v with
  | .ref a => if a < 101 + j then .ref a else .null
  | x => x)
def PR (g : Nat → va_E) (s j : Nat) : mH := (101 + j, s, fun a => if a = 100 then .inr (13, pfs j) else if 101 ≤ a ∧ a < 101 + j then rf_cell (fun _ => 0) (fun _ _ => 0) a else g a)
def PQ (g : Nat → va_E) (s j : Nat) : mH := (102 + j, s, fun a => if a = 100 then .inr (13, pfs j) else if 101 ≤ a ∧ a < 102 + j then rf_cell (fun _ => 0) (fun _ _ => 0) a else g a)
section RI
variable {d nL pc : Nat} {ini : Bool} {b : ByteArray} {ret : Option FieldType} {ls : List (Nat × Value)} {st : List Value} {R : Option Value × mH → Prop} {g : Nat → va_E} {s : Nat}
theorem ri_na {j n u : Nat} {t : ArrayType} (ht : mm_tag t = some u) (hn : n ≤ 100000) (hj : j < 100) (hc : rf_cell (fun _ => 0) (fun _ _ => 0) (101 + j) = .inl (u, n, .inl (fun _ => 0))) (hd : decode b pc = .ok (.newarray t, 2)) (kk : mm_Ru d (13, nL, ini, b, ret) (pc + 2) ls (.ref (101 + j) :: st) (PQ g (s + n) j) R) : mm_Ru d (13, nL, ini, b, ret) pc ls (.int (nI n) :: st) (PR g s j) R := r_st (C := (13, nL, ini, b, ret)) hd rfl rfl rfl (by
  simp only [mm_st, ht]
  rw [nI_clamp (show n < 2 ^ 31 by omega), if_pos ⟨nI_pos (by omega), hn, (show 101 + j < 1000000 by omega)⟩]
  refine congrArg (fun z => some (pc + 2, ls, Value.ref (101 + j) :: st, z)) ?_
  refine Prod.ext (show 101 + j + 1 = 102 + j by omega) (Prod.ext rfl (funext fun a => ?_))
  show va_up _ (101 + j) _ a = (if a = 100 then _ else if 101 ≤ a ∧ a < 102 + j then _ else g a)
  by_cases h : a = 101 + j
  · subst h
    rw [if_neg (by omega), if_pos (by omega), hc]
    exact if_pos rfl
  · rw [up_o _ _ h]
    show (if a = 100 then _ else if 101 ≤ a ∧ a < 101 + j then _ else g a) = _
    by_cases h1 : a = 100
    · rw [if_pos h1, if_pos h1]
    · rw [if_neg h1, if_neg h1]
      by_cases h2 : 101 ≤ a ∧ a < 101 + j
      · rw [if_pos h2, if_pos (by omega)]
      · rw [if_neg h2, if_neg (by omega)]) kk
theorem ri_pf {j x k : Nat} (hx : mm_fr 13 x = some (13, k)) (hi : ini = true) (hk : k < (pfs j).length) (hn : narrow (mm_ty 13 k) (.ref (101 + j)) = .ref (101 + j)) (hf : fits (mm_ty 13 k) (.ref (101 + j)) = true) (hs : (pfs j).set k (.ref (101 + j)) = pfs (j + 1)) (hd : decode b pc = .ok (.putfield x, 3)) (kk : mm_Ru d (13, nL, ini, b, ret) (pc + 3) ls st (PR g s (j + 1)) R) : mm_Ru d (13, nL, ini, b, ret) pc ls (.ref (101 + j) :: .ref 100 :: st) (PQ g s j) R := r_putf (by
  unfold mm_pf
  rw [hx]
  dsimp only
  rw [if_pos ⟨(show 100 < 102 + j by omega), Or.inr ⟨hi, rfl⟩, hn, hf⟩]
  show (if 13 = 13 ∧ k < (pfs j).length then some (mm_wr (PQ g s j) 100 (.inr (13, (pfs j).set k (.ref (101 + j))))) else none) = _
  rw [if_pos ⟨rfl, hk⟩, hs]
  refine congrArg some (Prod.ext (show 102 + j = 101 + (j + 1) by omega) (Prod.ext rfl (funext fun a => ?_)))
  show va_up _ 100 _ a = (if a = 100 then _ else if 101 ≤ a ∧ a < 101 + (j + 1) then _ else g a)
  by_cases h : a = 100
  · subst h
    rw [if_pos rfl]
    exact if_pos rfl
  · rw [up_o _ _ h, if_neg h]
    show (if a = 100 then _ else if 101 ≤ a ∧ a < 102 + j then _ else g a) = _
    rw [if_neg h]
    by_cases h2 : 101 ≤ a ∧ a < 102 + j
    · rw [if_pos h2, if_pos (by omega)]
    · rw [if_neg h2, if_neg (by omega)]) hd kk
end RI
theorem PR_56 (g : Nat → va_E) (s : Nat) : PR g s 56 = rf_mk (157, s, g) (fun _ => 0) (fun _ _ => 0) := by
  refine Prod.ext rfl (Prod.ext rfl (funext fun a => ?_))
  show (if a = 100 then _ else if 101 ≤ a ∧ a < 157 then _ else g a) = (if 100 ≤ a ∧ a < 157 then rf_cell (fun _ => 0) (fun _ _ => 0) a else g a)
  by_cases h : a = 100
  · subst h
    rw [if_pos rfl, if_pos (by omega)]
    rfl
  · rw [if_neg h]
    by_cases h2 : 101 ≤ a ∧ a < 157
    · rw [if_pos h2, if_pos (by omega)]
    · rw [if_neg h2, if_neg (by omega)]
set_option maxHeartbeats 4000000 in
theorem c_init (g : Nat → va_E) (s : Nat) : ∃ (sg2 : Nat → Nat → Int32), ((∀ l, l < 4 → sg2 0 l = nI 10 ∧ sg2 1 l = nI 30) ∧ (∀ j, j < 44 → sg2 2 j = nI 1) ∧ ∀ k, ¬ k ≤ 2 → sg2 k = fun _ => 0) ∧ mm_Ev 2 185 [.ref 100] (PR g s 0) (none, rf_mk (157, s + 3334, g) (fun _ => 0) sg2) := by
  have hq9 : ∃ z, (fun r9 => ∃ (sg2 : Nat → Nat → Int32), ((∀ l, l < 4 → sg2 0 l = nI 10 ∧ sg2 1 l = nI 30) ∧ (∀ j, j < 44 → sg2 2 j = nI 1) ∧ ∀ k, ¬ k ≤ 2 → sg2 k = fun _ => 0) ∧ r9 = (none, rf_mk (157, s + 3334, g) (fun _ => 0) sg2)) z ∧ mm_Ev 2 185 [.ref 100] (PR g s 0) z := by
    refine r_evQ (by decide +kernel) (show (1 : Nat) ≤ mm_nL 185 by decide +kernel) ?_
    show mm_Ru 1 (13, 2, true, prog_14_method_1_code, none) 0 [(0, .ref 100)] [] (PR g s 0) (fun r9 => ∃ (sg2 : Nat → Nat → Int32), ((∀ l, l < 4 → sg2 0 l = nI 10 ∧ sg2 1 l = nI 30) ∧ (∀ j, j < 44 → sg2 2 j = nI 1) ∧ ∀ k, ¬ k ≤ 2 → sg2 k = fun _ => 0) ∧ r9 = (none, rf_mk (157, s + 3334, g) (fun _ => 0) sg2))
    refine r_aload_n rfl dc_14_1_0 ?_
    refine r_obj (C := (13, 2, true, prog_14_method_1_code, none)) (j := 0) dc_14_1_1 rfl rfl iv_13_i1 (show (0 : Nat) ≤ 8 by decide) ?_
    refine r_aload_n rfl dc_14_1_4 ?_
    refine r_iconst (v := nI 4) (by decide) dc_14_1_5 ?_
    refine ri_na (j := 0) (n := 4) (u := 0) (by decide) (by decide) (by decide) rfl dc_14_1_6 ?_
    refine ri_pf (j := 0) (k := 0) rx_7 rfl (by decide) rfl rfl rfl dc_14_1_8 ?_
    refine r_aload_n rfl dc_14_1_11 ?_
    refine r_iconst (v := nI 4) (by decide) dc_14_1_12 ?_
    refine ri_na (j := 1) (n := 4) (u := 0) (by decide) (by decide) (by decide) rfl dc_14_1_13 ?_
    refine ri_pf (j := 1) (k := 1) rx_13 rfl (by decide) rfl rfl rfl dc_14_1_15 ?_
    refine r_aload_n rfl dc_14_1_18 ?_
    refine r_bipush (v := nI 44) (by decide) dc_14_1_19 ?_
    refine ri_na (j := 2) (n := 44) (u := 0) (by decide) (by decide) (by decide) rfl dc_14_1_21 ?_
    refine ri_pf (j := 2) (k := 2) rx_16 rfl (by decide) rfl rfl rfl dc_14_1_23 ?_
    refine r_aload_n rfl dc_14_1_26 ?_
    refine r_bipush (v := nI 8) (by decide) dc_14_1_27 ?_
    refine ri_na (j := 3) (n := 8) (u := 0) (by decide) (by decide) (by decide) rfl dc_14_1_29 ?_
    refine ri_pf (j := 3) (k := 9) rx_19 rfl (by decide) rfl rfl rfl dc_14_1_31 ?_
    refine r_aload_n rfl dc_14_1_34 ?_
    refine r_bipush (v := nI 8) (by decide) dc_14_1_35 ?_
    refine ri_na (j := 4) (n := 8) (u := 0) (by decide) (by decide) (by decide) rfl dc_14_1_37 ?_
    refine ri_pf (j := 4) (k := 10) rx_22 rfl (by decide) rfl rfl rfl dc_14_1_39 ?_
    refine r_aload_n rfl dc_14_1_42 ?_
    refine r_bipush (v := nI 8) (by decide) dc_14_1_43 ?_
    refine ri_na (j := 5) (n := 8) (u := 0) (by decide) (by decide) (by decide) rfl dc_14_1_45 ?_
    refine ri_pf (j := 5) (k := 11) rx_25 rfl (by decide) rfl rfl rfl dc_14_1_47 ?_
    refine r_aload_n rfl dc_14_1_50 ?_
    refine r_bipush (v := nI 8) (by decide) dc_14_1_51 ?_
    refine ri_na (j := 6) (n := 8) (u := 0) (by decide) (by decide) (by decide) rfl dc_14_1_53 ?_
    refine ri_pf (j := 6) (k := 12) rx_28 rfl (by decide) rfl rfl rfl dc_14_1_55 ?_
    refine r_aload_n rfl dc_14_1_58 ?_
    refine r_bipush (v := nI 8) (by decide) dc_14_1_59 ?_
    refine ri_na (j := 7) (n := 8) (u := 0) (by decide) (by decide) (by decide) rfl dc_14_1_61 ?_
    refine ri_pf (j := 7) (k := 13) rx_31 rfl (by decide) rfl rfl rfl dc_14_1_63 ?_
    refine r_aload_n rfl dc_14_1_66 ?_
    refine r_bipush (v := nI 8) (by decide) dc_14_1_67 ?_
    refine ri_na (j := 8) (n := 8) (u := 0) (by decide) (by decide) (by decide) rfl dc_14_1_69 ?_
    refine ri_pf (j := 8) (k := 14) rx_34 rfl (by decide) rfl rfl rfl dc_14_1_71 ?_
    refine r_aload_n rfl dc_14_1_74 ?_
    refine r_bipush (v := nI 8) (by decide) dc_14_1_75 ?_
    refine ri_na (j := 9) (n := 8) (u := 0) (by decide) (by decide) (by decide) rfl dc_14_1_77 ?_
    refine ri_pf (j := 9) (k := 15) rx_37 rfl (by decide) rfl rfl rfl dc_14_1_79 ?_
    refine r_aload_n rfl dc_14_1_82 ?_
    refine r_bipush (v := nI 8) (by decide) dc_14_1_83 ?_
    refine ri_na (j := 10) (n := 8) (u := 0) (by decide) (by decide) (by decide) rfl dc_14_1_85 ?_
    refine ri_pf (j := 10) (k := 16) rx_40 rfl (by decide) rfl rfl rfl dc_14_1_87 ?_
    refine r_aload_n rfl dc_14_1_90 ?_
    refine r_bipush (v := nI 48) (by decide) dc_14_1_91 ?_
    refine ri_na (j := 11) (n := 48) (u := 0) (by decide) (by decide) (by decide) rfl dc_14_1_93 ?_
    refine ri_pf (j := 11) (k := 17) rx_43 rfl (by decide) rfl rfl rfl dc_14_1_95 ?_
    refine r_aload_n rfl dc_14_1_98 ?_
    refine r_bipush (v := nI 48) (by decide) dc_14_1_99 ?_
    refine ri_na (j := 12) (n := 48) (u := 0) (by decide) (by decide) (by decide) rfl dc_14_1_101 ?_
    refine ri_pf (j := 12) (k := 18) rx_46 rfl (by decide) rfl rfl rfl dc_14_1_103 ?_
    refine r_aload_n rfl dc_14_1_106 ?_
    refine r_bipush (v := nI 48) (by decide) dc_14_1_107 ?_
    refine ri_na (j := 13) (n := 48) (u := 0) (by decide) (by decide) (by decide) rfl dc_14_1_109 ?_
    refine ri_pf (j := 13) (k := 19) rx_49 rfl (by decide) rfl rfl rfl dc_14_1_111 ?_
    refine r_aload_n rfl dc_14_1_114 ?_
    refine r_bipush (v := nI 48) (by decide) dc_14_1_115 ?_
    refine ri_na (j := 14) (n := 48) (u := 0) (by decide) (by decide) (by decide) rfl dc_14_1_117 ?_
    refine ri_pf (j := 14) (k := 20) rx_52 rfl (by decide) rfl rfl rfl dc_14_1_119 ?_
    refine r_aload_n rfl dc_14_1_122 ?_
    refine r_bipush (v := nI 48) (by decide) dc_14_1_123 ?_
    refine ri_na (j := 15) (n := 48) (u := 2) (by decide) (by decide) (by decide) rfl dc_14_1_125 ?_
    refine ri_pf (j := 15) (k := 21) rx_55 rfl (by decide) rfl rfl rfl dc_14_1_127 ?_
    refine r_aload_n rfl dc_14_1_130 ?_
    refine r_bipush (v := nI 80) (by decide) dc_14_1_131 ?_
    refine ri_na (j := 16) (n := 80) (u := 1) (by decide) (by decide) (by decide) rfl dc_14_1_133 ?_
    refine ri_pf (j := 16) (k := 22) rx_59 rfl (by decide) rfl rfl rfl dc_14_1_135 ?_
    refine r_aload_n rfl dc_14_1_138 ?_
    refine r_bipush (v := nI 12) (by decide) dc_14_1_139 ?_
    refine ri_na (j := 17) (n := 12) (u := 0) (by decide) (by decide) (by decide) rfl dc_14_1_141 ?_
    refine ri_pf (j := 17) (k := 27) rx_63 rfl (by decide) rfl rfl rfl dc_14_1_143 ?_
    refine r_aload_n rfl dc_14_1_146 ?_
    refine r_bipush (v := nI 12) (by decide) dc_14_1_147 ?_
    refine ri_na (j := 18) (n := 12) (u := 0) (by decide) (by decide) (by decide) rfl dc_14_1_149 ?_
    refine ri_pf (j := 18) (k := 28) rx_66 rfl (by decide) rfl rfl rfl dc_14_1_151 ?_
    refine r_aload_n rfl dc_14_1_154 ?_
    refine r_bipush (v := nI 12) (by decide) dc_14_1_155 ?_
    refine ri_na (j := 19) (n := 12) (u := 0) (by decide) (by decide) (by decide) rfl dc_14_1_157 ?_
    refine ri_pf (j := 19) (k := 29) rx_69 rfl (by decide) rfl rfl rfl dc_14_1_159 ?_
    refine r_aload_n rfl dc_14_1_162 ?_
    refine r_bipush (v := nI 12) (by decide) dc_14_1_163 ?_
    refine ri_na (j := 20) (n := 12) (u := 0) (by decide) (by decide) (by decide) rfl dc_14_1_165 ?_
    refine ri_pf (j := 20) (k := 30) rx_72 rfl (by decide) rfl rfl rfl dc_14_1_167 ?_
    refine r_aload_n rfl dc_14_1_170 ?_
    refine r_bipush (v := nI 12) (by decide) dc_14_1_171 ?_
    refine ri_na (j := 21) (n := 12) (u := 0) (by decide) (by decide) (by decide) rfl dc_14_1_173 ?_
    refine ri_pf (j := 21) (k := 31) rx_75 rfl (by decide) rfl rfl rfl dc_14_1_175 ?_
    refine r_aload_n rfl dc_14_1_178 ?_
    refine r_bipush (v := nI 12) (by decide) dc_14_1_179 ?_
    refine ri_na (j := 22) (n := 12) (u := 0) (by decide) (by decide) (by decide) rfl dc_14_1_181 ?_
    refine ri_pf (j := 22) (k := 32) rx_78 rfl (by decide) rfl rfl rfl dc_14_1_183 ?_
    refine r_aload_n rfl dc_14_1_186 ?_
    refine r_bipush (v := nI 12) (by decide) dc_14_1_187 ?_
    refine ri_na (j := 23) (n := 12) (u := 0) (by decide) (by decide) (by decide) rfl dc_14_1_189 ?_
    refine ri_pf (j := 23) (k := 33) rx_81 rfl (by decide) rfl rfl rfl dc_14_1_191 ?_
    refine r_aload_n rfl dc_14_1_194 ?_
    refine r_bipush (v := nI 12) (by decide) dc_14_1_195 ?_
    refine ri_na (j := 24) (n := 12) (u := 0) (by decide) (by decide) (by decide) rfl dc_14_1_197 ?_
    refine ri_pf (j := 24) (k := 34) rx_84 rfl (by decide) rfl rfl rfl dc_14_1_199 ?_
    refine r_aload_n rfl dc_14_1_202 ?_
    refine r_sipush (v := nI 960) (by decide) dc_14_1_203 ?_
    refine ri_na (j := 25) (n := 960) (u := 0) (by decide) (by decide) (by decide) rfl dc_14_1_206 ?_
    refine ri_pf (j := 25) (k := 35) rx_87 rfl (by decide) rfl rfl rfl dc_14_1_208 ?_
    refine r_aload_n rfl dc_14_1_211 ?_
    refine r_bipush (v := nI 12) (by decide) dc_14_1_212 ?_
    refine ri_na (j := 26) (n := 12) (u := 0) (by decide) (by decide) (by decide) rfl dc_14_1_214 ?_
    refine ri_pf (j := 26) (k := 36) rx_90 rfl (by decide) rfl rfl rfl dc_14_1_216 ?_
    refine r_aload_n rfl dc_14_1_219 ?_
    refine r_bipush (v := nI 80) (by decide) dc_14_1_220 ?_
    refine ri_na (j := 27) (n := 80) (u := 0) (by decide) (by decide) (by decide) rfl dc_14_1_222 ?_
    refine ri_pf (j := 27) (k := 37) rx_93 rfl (by decide) rfl rfl rfl dc_14_1_224 ?_
    refine r_aload_n rfl dc_14_1_227 ?_
    refine r_bipush (v := nI 80) (by decide) dc_14_1_228 ?_
    refine ri_na (j := 28) (n := 80) (u := 0) (by decide) (by decide) (by decide) rfl dc_14_1_230 ?_
    refine ri_pf (j := 28) (k := 38) rx_96 rfl (by decide) rfl rfl rfl dc_14_1_232 ?_
    refine r_aload_n rfl dc_14_1_235 ?_
    refine r_bipush (v := nI 80) (by decide) dc_14_1_236 ?_
    refine ri_na (j := 29) (n := 80) (u := 2) (by decide) (by decide) (by decide) rfl dc_14_1_238 ?_
    refine ri_pf (j := 29) (k := 48) rx_99 rfl (by decide) rfl rfl rfl dc_14_1_240 ?_
    refine r_aload_n rfl dc_14_1_243 ?_
    refine r_sipush (v := nI 400) (by decide) dc_14_1_244 ?_
    refine ri_na (j := 30) (n := 400) (u := 0) (by decide) (by decide) (by decide) rfl dc_14_1_247 ?_
    refine ri_pf (j := 30) (k := 49) rx_102 rfl (by decide) rfl rfl rfl dc_14_1_249 ?_
    refine r_aload_n rfl dc_14_1_252 ?_
    refine r_iconst (v := nI 4) (by decide) dc_14_1_253 ?_
    refine ri_na (j := 31) (n := 4) (u := 0) (by decide) (by decide) (by decide) rfl dc_14_1_254 ?_
    refine ri_pf (j := 31) (k := 50) rx_105 rfl (by decide) rfl rfl rfl dc_14_1_256 ?_
    refine r_aload_n rfl dc_14_1_259 ?_
    refine r_bipush (v := nI 16) (by decide) dc_14_1_260 ?_
    refine ri_na (j := 32) (n := 16) (u := 0) (by decide) (by decide) (by decide) rfl dc_14_1_262 ?_
    refine ri_pf (j := 32) (k := 51) rx_108 rfl (by decide) rfl rfl rfl dc_14_1_264 ?_
    refine r_aload_n rfl dc_14_1_267 ?_
    refine r_bipush (v := nI 16) (by decide) dc_14_1_268 ?_
    refine ri_na (j := 33) (n := 16) (u := 0) (by decide) (by decide) (by decide) rfl dc_14_1_270 ?_
    refine ri_pf (j := 33) (k := 52) rx_111 rfl (by decide) rfl rfl rfl dc_14_1_272 ?_
    refine r_aload_n rfl dc_14_1_275 ?_
    refine r_bipush (v := nI 16) (by decide) dc_14_1_276 ?_
    refine ri_na (j := 34) (n := 16) (u := 0) (by decide) (by decide) (by decide) rfl dc_14_1_278 ?_
    refine ri_pf (j := 34) (k := 53) rx_114 rfl (by decide) rfl rfl rfl dc_14_1_280 ?_
    refine r_aload_n rfl dc_14_1_283 ?_
    refine r_bipush (v := nI 16) (by decide) dc_14_1_284 ?_
    refine ri_na (j := 35) (n := 16) (u := 0) (by decide) (by decide) (by decide) rfl dc_14_1_286 ?_
    refine ri_pf (j := 35) (k := 54) rx_117 rfl (by decide) rfl rfl rfl dc_14_1_288 ?_
    refine r_aload_n rfl dc_14_1_291 ?_
    refine r_bipush (v := nI 16) (by decide) dc_14_1_292 ?_
    refine ri_na (j := 36) (n := 16) (u := 0) (by decide) (by decide) (by decide) rfl dc_14_1_294 ?_
    refine ri_pf (j := 36) (k := 55) rx_120 rfl (by decide) rfl rfl rfl dc_14_1_296 ?_
    refine r_aload_n rfl dc_14_1_299 ?_
    refine r_bipush (v := nI 16) (by decide) dc_14_1_300 ?_
    refine ri_na (j := 37) (n := 16) (u := 0) (by decide) (by decide) (by decide) rfl dc_14_1_302 ?_
    refine ri_pf (j := 37) (k := 56) rx_123 rfl (by decide) rfl rfl rfl dc_14_1_304 ?_
    refine r_aload_n rfl dc_14_1_307 ?_
    refine r_bipush (v := nI 16) (by decide) dc_14_1_308 ?_
    refine ri_na (j := 38) (n := 16) (u := 0) (by decide) (by decide) (by decide) rfl dc_14_1_310 ?_
    refine ri_pf (j := 38) (k := 57) rx_126 rfl (by decide) rfl rfl rfl dc_14_1_312 ?_
    refine r_aload_n rfl dc_14_1_315 ?_
    refine r_bipush (v := nI 16) (by decide) dc_14_1_316 ?_
    refine ri_na (j := 39) (n := 16) (u := 0) (by decide) (by decide) (by decide) rfl dc_14_1_318 ?_
    refine ri_pf (j := 39) (k := 58) rx_129 rfl (by decide) rfl rfl rfl dc_14_1_320 ?_
    refine r_aload_n rfl dc_14_1_323 ?_
    refine r_bipush (v := nI 16) (by decide) dc_14_1_324 ?_
    refine ri_na (j := 40) (n := 16) (u := 0) (by decide) (by decide) (by decide) rfl dc_14_1_326 ?_
    refine ri_pf (j := 40) (k := 59) rx_132 rfl (by decide) rfl rfl rfl dc_14_1_328 ?_
    refine r_aload_n rfl dc_14_1_331 ?_
    refine r_bipush (v := nI 64) (by decide) dc_14_1_332 ?_
    refine ri_na (j := 41) (n := 64) (u := 0) (by decide) (by decide) (by decide) rfl dc_14_1_334 ?_
    refine ri_pf (j := 41) (k := 60) rx_135 rfl (by decide) rfl rfl rfl dc_14_1_336 ?_
    refine r_aload_n rfl dc_14_1_339 ?_
    refine r_bipush (v := nI 64) (by decide) dc_14_1_340 ?_
    refine ri_na (j := 42) (n := 64) (u := 0) (by decide) (by decide) (by decide) rfl dc_14_1_342 ?_
    refine ri_pf (j := 42) (k := 61) rx_138 rfl (by decide) rfl rfl rfl dc_14_1_344 ?_
    refine r_aload_n rfl dc_14_1_347 ?_
    refine r_bipush (v := nI 7) (by decide) dc_14_1_348 ?_
    refine ri_na (j := 43) (n := 7) (u := 0) (by decide) (by decide) (by decide) rfl dc_14_1_350 ?_
    refine ri_pf (j := 43) (k := 62) rx_141 rfl (by decide) rfl rfl rfl dc_14_1_352 ?_
    refine r_aload_n rfl dc_14_1_355 ?_
    refine r_bipush (v := nI 7) (by decide) dc_14_1_356 ?_
    refine ri_na (j := 44) (n := 7) (u := 0) (by decide) (by decide) (by decide) rfl dc_14_1_358 ?_
    refine ri_pf (j := 44) (k := 63) rx_144 rfl (by decide) rfl rfl rfl dc_14_1_360 ?_
    refine r_aload_n rfl dc_14_1_363 ?_
    refine r_bipush (v := nI 7) (by decide) dc_14_1_364 ?_
    refine ri_na (j := 45) (n := 7) (u := 0) (by decide) (by decide) (by decide) rfl dc_14_1_366 ?_
    refine ri_pf (j := 45) (k := 64) rx_147 rfl (by decide) rfl rfl rfl dc_14_1_368 ?_
    refine r_aload_n rfl dc_14_1_371 ?_
    refine r_bipush (v := nI 7) (by decide) dc_14_1_372 ?_
    refine ri_na (j := 46) (n := 7) (u := 0) (by decide) (by decide) (by decide) rfl dc_14_1_374 ?_
    refine ri_pf (j := 46) (k := 65) rx_150 rfl (by decide) rfl rfl rfl dc_14_1_376 ?_
    refine r_aload_n rfl dc_14_1_379 ?_
    refine r_bipush (v := nI 7) (by decide) dc_14_1_380 ?_
    refine ri_na (j := 47) (n := 7) (u := 0) (by decide) (by decide) (by decide) rfl dc_14_1_382 ?_
    refine ri_pf (j := 47) (k := 66) rx_153 rfl (by decide) rfl rfl rfl dc_14_1_384 ?_
    refine r_aload_n rfl dc_14_1_387 ?_
    refine r_bipush (v := nI 7) (by decide) dc_14_1_388 ?_
    refine ri_na (j := 48) (n := 7) (u := 0) (by decide) (by decide) (by decide) rfl dc_14_1_390 ?_
    refine ri_pf (j := 48) (k := 67) rx_156 rfl (by decide) rfl rfl rfl dc_14_1_392 ?_
    refine r_aload_n rfl dc_14_1_395 ?_
    refine r_bipush (v := nI 64) (by decide) dc_14_1_396 ?_
    refine ri_na (j := 49) (n := 64) (u := 0) (by decide) (by decide) (by decide) rfl dc_14_1_398 ?_
    refine ri_pf (j := 49) (k := 68) rx_159 rfl (by decide) rfl rfl rfl dc_14_1_400 ?_
    refine r_aload_n rfl dc_14_1_403 ?_
    refine r_iconst (v := nI 4) (by decide) dc_14_1_404 ?_
    refine ri_na (j := 50) (n := 4) (u := 0) (by decide) (by decide) (by decide) rfl dc_14_1_405 ?_
    refine ri_pf (j := 50) (k := 69) rx_162 rfl (by decide) rfl rfl rfl dc_14_1_407 ?_
    refine r_aload_n rfl dc_14_1_410 ?_
    refine r_iconst (v := nI 4) (by decide) dc_14_1_411 ?_
    refine ri_na (j := 51) (n := 4) (u := 0) (by decide) (by decide) (by decide) rfl dc_14_1_412 ?_
    refine ri_pf (j := 51) (k := 70) rx_165 rfl (by decide) rfl rfl rfl dc_14_1_414 ?_
    refine r_aload_n rfl dc_14_1_417 ?_
    refine r_sipush (v := nI 200) (by decide) dc_14_1_418 ?_
    refine ri_na (j := 52) (n := 200) (u := 0) (by decide) (by decide) (by decide) rfl dc_14_1_421 ?_
    refine ri_pf (j := 52) (k := 78) rx_168 rfl (by decide) rfl rfl rfl dc_14_1_423 ?_
    refine r_aload_n rfl dc_14_1_426 ?_
    refine r_sipush (v := nI 200) (by decide) dc_14_1_427 ?_
    refine ri_na (j := 53) (n := 200) (u := 0) (by decide) (by decide) (by decide) rfl dc_14_1_430 ?_
    refine ri_pf (j := 53) (k := 79) rx_171 rfl (by decide) rfl rfl rfl dc_14_1_432 ?_
    refine r_aload_n rfl dc_14_1_435 ?_
    refine r_sipush (v := nI 200) (by decide) dc_14_1_436 ?_
    refine ri_na (j := 54) (n := 200) (u := 0) (by decide) (by decide) (by decide) rfl dc_14_1_439 ?_
    refine ri_pf (j := 54) (k := 80) rx_174 rfl (by decide) rfl rfl rfl dc_14_1_441 ?_
    refine r_aload_n rfl dc_14_1_444 ?_
    refine r_sipush (v := nI 200) (by decide) dc_14_1_445 ?_
    refine ri_na (j := 55) (n := 200) (u := 0) (by decide) (by decide) (by decide) rfl dc_14_1_448 ?_
    refine ri_pf (j := 55) (k := 81) rx_177 rfl (by decide) rfl rfl rfl dc_14_1_450 ?_
    show mm_Ru 1 (13, 2, true, prog_14_method_1_code, none) 453 [(0, .ref 100)] [] (PR g (s + 3334) 56) (fun r9 => ∃ (sg2 : Nat → Nat → Int32), ((∀ l, l < 4 → sg2 0 l = nI 10 ∧ sg2 1 l = nI 30) ∧ (∀ j, j < 44 → sg2 2 j = nI 1) ∧ ∀ k, ¬ k ≤ 2 → sg2 k = fun _ => 0) ∧ r9 = (none, rf_mk (157, s + 3334, g) (fun _ => 0) sg2))
    rw [PR_56]
    obtain ⟨M, eM⟩ : ∃ z : mH, z = (157, s + 3334, g) := ⟨_, rfl⟩
    rw [← eM]
    have hM : 157 ≤ M.1 := by rw [eM]; exact Nat.le_refl _
    show mm_Ru 1 (13, 2, true, prog_14_method_1_code, none) 453 [(0, .ref 100)] [] (rf_mk M ((fun _ => 0)) (fun _ _ => 0)) (fun r9 => ∃ (sg2 : Nat → Nat → Int32), ((∀ l, l < 4 → sg2 0 l = nI 10 ∧ sg2 1 l = nI 30) ∧ (∀ j, j < 44 → sg2 2 j = nI 1) ∧ ∀ k, ¬ k ≤ 2 → sg2 k = fun _ => 0) ∧ r9 = (none, rf_mk M (fun _ => 0) sg2))
    refine r_iconst (v := nI 0) (by decide) dc_14_1_453 ?_
    refine r_istore_n (ls' := [(1, .int (nI 0)), (0, .ref 100)]) (by decide) rfl dc_14_1_454 ?_
    refine mm_cnt (P := fun m => ∀ (sgm : Nat → Nat → Int32), ((∀ l, l < m → sgm 0 l = nI 10 ∧ sgm 1 l = nI 30) ∧ ∀ k, ¬ k ≤ 1 → sgm k = fun _ => 0) → mm_Ru 1 (13, 2, true, prog_14_method_1_code, none) 455 [(1, .int (nI m)), (0, .ref 100)] [] (rf_mk M ((fun _ => 0)) sgm) (fun r9 => ∃ (sg2 : Nat → Nat → Int32), ((∀ l, l < 4 → sg2 0 l = nI 10 ∧ sg2 1 l = nI 30) ∧ (∀ j, j < 44 → sg2 2 j = nI 1) ∧ ∀ k, ¬ k ≤ 2 → sg2 k = fun _ => 0) ∧ r9 = (none, rf_mk M (fun _ => 0) sg2))) 4 ?_ ?_ 0 (by omega) (fun _ _ => 0) (⟨fun l hl => absurd hl (Nat.not_lt_zero l), fun k _ => rfl⟩)
    · intro sgm hi_m
      show mm_Ru 1 (13, 2, true, prog_14_method_1_code, none) 455 [(1, .int (nI 4)), (0, .ref 100)] [] (rf_mk M ((fun _ => 0)) sgm) (fun r9 => ∃ (sg2 : Nat → Nat → Int32), ((∀ l, l < 4 → sg2 0 l = nI 10 ∧ sg2 1 l = nI 30) ∧ (∀ j, j < 44 → sg2 2 j = nI 1) ∧ ∀ k, ¬ k ≤ 2 → sg2 k = fun _ => 0) ∧ r9 = (none, rf_mk M (fun _ => 0) sg2))
      refine r_iload_n rfl dc_14_1_455 ?_
      refine r_iconst (v := nI 4) (by decide) dc_14_1_456 ?_
      refine r_ncge (t := 482) (by omega) (by omega) (by decide) dc_14_1_457 (fun c_457 => ?_) (fun c_457 => ?_)
      · skip
        refine r_iconst (v := nI 0) (by decide) dc_14_1_482 ?_
        refine r_istore_n (ls' := [(1, .int (nI 0)), (0, .ref 100)]) (by decide) rfl dc_14_1_483 ?_
        refine mm_cnt (P := fun n => ∀ (sgn : Nat → Nat → Int32), ((∀ l, l < 4 → sgn 0 l = nI 10 ∧ sgn 1 l = nI 30) ∧ (∀ j, j < n → sgn 2 j = nI 1) ∧ ∀ k, ¬ k ≤ 2 → sgn k = fun _ => 0) → mm_Ru 1 (13, 2, true, prog_14_method_1_code, none) 484 [(1, .int (nI n)), (0, .ref 100)] [] (rf_mk M ((fun _ => 0)) sgn) (fun r9 => ∃ (sg2 : Nat → Nat → Int32), ((∀ l, l < 4 → sg2 0 l = nI 10 ∧ sg2 1 l = nI 30) ∧ (∀ j, j < 44 → sg2 2 j = nI 1) ∧ ∀ k, ¬ k ≤ 2 → sg2 k = fun _ => 0) ∧ r9 = (none, rf_mk M (fun _ => 0) sg2))) 44 ?_ ?_ 0 (by omega) sgm (⟨hi_m.1, fun j hj => absurd hj (Nat.not_lt_zero j), fun k hk => hi_m.2 k (by omega)⟩)
        · intro sgn hi_n
          show mm_Ru 1 (13, 2, true, prog_14_method_1_code, none) 484 [(1, .int (nI 44)), (0, .ref 100)] [] (rf_mk M ((fun _ => 0)) sgn) (fun r9 => ∃ (sg2 : Nat → Nat → Int32), ((∀ l, l < 4 → sg2 0 l = nI 10 ∧ sg2 1 l = nI 30) ∧ (∀ j, j < 44 → sg2 2 j = nI 1) ∧ ∀ k, ¬ k ≤ 2 → sg2 k = fun _ => 0) ∧ r9 = (none, rf_mk M (fun _ => 0) sg2))
          refine r_iload_n rfl dc_14_1_484 ?_
          refine r_bipush (v := nI 44) (by decide) dc_14_1_485 ?_
          refine r_ncge (t := 503) (by omega) (by omega) (by decide) dc_14_1_487 (fun c_487 => ?_) (fun c_487 => ?_)
          · skip
            refine r_vret rfl dc_14_1_503 ?_
            exact ⟨sgn, ⟨hi_n.1, hi_n.2.1, hi_n.2.2⟩, rfl⟩
          · omega
        · intro n h_n ih_n sgn hi_n
          show mm_Ru 1 (13, 2, true, prog_14_method_1_code, none) 484 [(1, .int (nI n)), (0, .ref 100)] [] (rf_mk M ((fun _ => 0)) sgn) (fun r9 => ∃ (sg2 : Nat → Nat → Int32), ((∀ l, l < 4 → sg2 0 l = nI 10 ∧ sg2 1 l = nI 30) ∧ (∀ j, j < 44 → sg2 2 j = nI 1) ∧ ∀ k, ¬ k ≤ 2 → sg2 k = fun _ => 0) ∧ r9 = (none, rf_mk M (fun _ => 0) sg2))
          refine r_iload_n rfl dc_14_1_484 ?_
          refine r_bipush (v := nI 44) (by decide) dc_14_1_485 ?_
          refine r_ncge (t := 503) (by omega) (by omega) (by decide) dc_14_1_487 (fun c_487 => ?_) (fun c_487 => ?_)
          · omega
          · skip
            refine r_aload_n rfl dc_14_1_490 ?_
            refine q_get (v := .ref 103) rx_16 hM rfl dc_14_1_491 ?_
            refine r_iload_n rfl dc_14_1_494 ?_
            refine r_iconst (v := nI 1) (by decide) dc_14_1_495 ?_
            refine q_ist (e := n) (k := 2) (by decide) (by decide) hM rfl rfl (show n < 44 by omega) (by omega) dc_14_1_496 ?_
            refine r_iinc (n := 1) (k := 1) (x := nI n) (v := nI (n + 1)) (ls' := [(1, .int (nI (n + 1))), (0, .ref 100)]) rfl (nI_1 _) (by decide) rfl dc_14_1_497 ?_
            refine r_goto (t := 484) (by decide) dc_14_1_500 ?_
            exact ih_n (va_up sgn 2 (upd (sgn 2) n (nI 1))) (⟨hi_n.1, fun j hj => if z : j = n then by rw [z]; exact ud_s _ _ _ else (ud_o _ _ z).trans (hi_n.2.1 j (by omega)), fun k hk => (up_o _ _ (by omega)).trans (hi_n.2.2 k hk)⟩)
      · omega
    · intro m h_m ih_m sgm hi_m
      show mm_Ru 1 (13, 2, true, prog_14_method_1_code, none) 455 [(1, .int (nI m)), (0, .ref 100)] [] (rf_mk M ((fun _ => 0)) sgm) (fun r9 => ∃ (sg2 : Nat → Nat → Int32), ((∀ l, l < 4 → sg2 0 l = nI 10 ∧ sg2 1 l = nI 30) ∧ (∀ j, j < 44 → sg2 2 j = nI 1) ∧ ∀ k, ¬ k ≤ 2 → sg2 k = fun _ => 0) ∧ r9 = (none, rf_mk M (fun _ => 0) sg2))
      refine r_iload_n rfl dc_14_1_455 ?_
      refine r_iconst (v := nI 4) (by decide) dc_14_1_456 ?_
      refine r_ncge (t := 482) (by omega) (by omega) (by decide) dc_14_1_457 (fun c_457 => ?_) (fun c_457 => ?_)
      · omega
      · skip
        refine r_aload_n rfl dc_14_1_460 ?_
        refine q_get (v := .ref 101) rx_7 hM rfl dc_14_1_461 ?_
        refine r_iload_n rfl dc_14_1_464 ?_
        refine r_bipush (v := nI 10) (by decide) dc_14_1_465 ?_
        refine q_ist (e := m) (k := 0) (by decide) (by decide) hM rfl rfl (show m < 4 by omega) (by omega) dc_14_1_467 ?_
        refine r_aload_n rfl dc_14_1_468 ?_
        refine q_get (v := .ref 102) rx_13 hM rfl dc_14_1_469 ?_
        refine r_iload_n rfl dc_14_1_472 ?_
        refine r_bipush (v := nI 30) (by decide) dc_14_1_473 ?_
        refine q_ist (e := m) (k := 1) (by decide) (by decide) hM rfl rfl (show m < 4 by omega) (by omega) dc_14_1_475 ?_
        refine r_iinc (n := 1) (k := 1) (x := nI m) (v := nI (m + 1)) (ls' := [(1, .int (nI (m + 1))), (0, .ref 100)]) rfl (nI_1 _) (by decide) rfl dc_14_1_476 ?_
        refine r_goto (t := 455) (by decide) dc_14_1_479 ?_
        exact ih_m (va_up (va_up sgm 0 (upd (sgm 0) m (nI 10))) 1 (upd ((va_up sgm 0 (upd (sgm 0) m (nI 10))) 1) m (nI 30))) (⟨fun l hl => if z : l = m then ⟨by rw [z]; exact ud_s _ _ _, by rw [z]; exact ud_s _ _ _⟩ else ⟨(ud_o _ _ z).trans (hi_m.1 l (by omega)).1, (ud_o _ _ z).trans (hi_m.1 l (by omega)).2⟩, fun k hk => ((up_o _ _ (by omega)).trans (up_o _ _ (by omega))).trans (hi_m.2 k hk)⟩)
  obtain ⟨z9, ⟨sg2, p9, e9⟩, h9⟩ := hq9
  subst e9
  exact ⟨sg2, p9, h9⟩
