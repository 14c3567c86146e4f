/-! the reference: one expression -/
theorem dc_14_24_0 : decode prog_14_method_24_code 0 = .ok (.iconst 0, 1) := by decide +kernel
theorem dc_14_24_1 : decode prog_14_method_24_code 1 = .ok (.istore_n 1, 1) := by decide +kernel
theorem dc_14_24_2 : decode prog_14_method_24_code 2 = .ok (.iconst 1, 1) := by decide +kernel
theorem dc_14_24_3 : decode prog_14_method_24_code 3 = .ok (.istore_n 2, 1) := by decide +kernel
theorem dc_14_24_4 : decode prog_14_method_24_code 4 = .ok (.aload_n 0, 1) := by decide +kernel
theorem dc_14_24_5 : decode prog_14_method_24_code 5 = .ok (.iconst 0, 1) := by decide +kernel
theorem dc_14_24_6 : decode prog_14_method_24_code 6 = .ok (.putfield 243, 3) := by decide +kernel
theorem dc_14_24_9 : decode prog_14_method_24_code 9 = .ok (.aload_n 0, 1) := by decide +kernel
theorem dc_14_24_10 : decode prog_14_method_24_code 10 = .ok (.invokevirtual 222, 3) := by decide +kernel
theorem dc_14_24_13 : decode prog_14_method_24_code 13 = .ok (.istore_n 3, 1) := by decide +kernel
theorem dc_14_24_14 : decode prog_14_method_24_code 14 = .ok (.iload_n 2, 1) := by decide +kernel
theorem dc_14_24_15 : decode prog_14_method_24_code 15 = .ok (.ifCond .eq 222, 3) := by decide +kernel
theorem dc_14_24_18 : decode prog_14_method_24_code 18 = .ok (.iload_n 3, 1) := by decide +kernel
theorem dc_14_24_19 : decode prog_14_method_24_code 19 = .ok (.bipush 40, 2) := by decide +kernel
theorem dc_14_24_21 : decode prog_14_method_24_code 21 = .ok (.if_icmp .ne 42, 3) := by decide +kernel
theorem dc_14_24_24 : decode prog_14_method_24_code 24 = .ok (.iload_n 1, 1) := by decide +kernel
theorem dc_14_24_25 : decode prog_14_method_24_code 25 = .ok (.bipush 6, 2) := by decide +kernel
theorem dc_14_24_27 : decode prog_14_method_24_code 27 = .ok (.if_icmp .ne 13, 3) := by decide +kernel
theorem dc_14_24_30 : decode prog_14_method_24_code 30 = .ok (.aload_n 0, 1) := by decide +kernel
theorem dc_14_24_31 : decode prog_14_method_24_code 31 = .ok (.iconst 3, 1) := by decide +kernel
theorem dc_14_24_32 : decode prog_14_method_24_code 32 = .ok (.aload_n 0, 1) := by decide +kernel
theorem dc_14_24_33 : decode prog_14_method_24_code 33 = .ok (.getfield 216, 3) := by decide +kernel
theorem dc_14_24_36 : decode prog_14_method_24_code 36 = .ok (.invokevirtual 236, 3) := by decide +kernel
theorem dc_14_24_39 : decode prog_14_method_24_code 39 = .ok (.ireturn, 1) := by decide +kernel
theorem dc_14_24_40 : decode prog_14_method_24_code 40 = .ok (.iload_n 1, 1) := by decide +kernel
theorem dc_14_24_41 : decode prog_14_method_24_code 41 = .ok (.iconst 1, 1) := by decide +kernel
theorem dc_14_24_42 : decode prog_14_method_24_code 42 = .ok (.iadd, 1) := by decide +kernel
theorem dc_14_24_43 : decode prog_14_method_24_code 43 = .ok (.istore_n 1, 1) := by decide +kernel
theorem dc_14_24_44 : decode prog_14_method_24_code 44 = .ok (.aload_n 0, 1) := by decide +kernel
theorem dc_14_24_45 : decode prog_14_method_24_code 45 = .ok (.ldc 246, 2) := by decide +kernel
theorem dc_14_24_47 : decode prog_14_method_24_code 47 = .ok (.invokevirtual 255, 3) := by decide +kernel
theorem dc_14_24_50 : decode prog_14_method_24_code 50 = .ok (.aload_n 0, 1) := by decide +kernel
theorem dc_14_24_51 : decode prog_14_method_24_code 51 = .ok (.aload_n 0, 1) := by decide +kernel
theorem dc_14_24_52 : decode prog_14_method_24_code 52 = .ok (.getfield 216, 3) := by decide +kernel
theorem dc_14_24_55 : decode prog_14_method_24_code 55 = .ok (.iconst 1, 1) := by decide +kernel
theorem dc_14_24_56 : decode prog_14_method_24_code 56 = .ok (.iadd, 1) := by decide +kernel
theorem dc_14_24_57 : decode prog_14_method_24_code 57 = .ok (.putfield 216, 3) := by decide +kernel
theorem dc_14_24_60 : decode prog_14_method_24_code 60 = .ok (.goto 298, 3) := by decide +kernel
theorem dc_14_24_63 : decode prog_14_method_24_code 63 = .ok (.iload_n 3, 1) := by decide +kernel
theorem dc_14_24_64 : decode prog_14_method_24_code 64 = .ok (.bipush 33, 2) := by decide +kernel
theorem dc_14_24_66 : decode prog_14_method_24_code 66 = .ok (.if_icmp .ne 26, 3) := by decide +kernel
theorem dc_14_24_69 : decode prog_14_method_24_code 69 = .ok (.iload_n 1, 1) := by decide +kernel
theorem dc_14_24_70 : decode prog_14_method_24_code 70 = .ok (.ifCond .le 22, 3) := by decide +kernel
theorem dc_14_24_73 : decode prog_14_method_24_code 73 = .ok (.aload_n 0, 1) := by decide +kernel
theorem dc_14_24_74 : decode prog_14_method_24_code 74 = .ok (.ldc 253, 2) := by decide +kernel
theorem dc_14_24_76 : decode prog_14_method_24_code 76 = .ok (.invokevirtual 255, 3) := by decide +kernel
theorem dc_14_24_79 : decode prog_14_method_24_code 79 = .ok (.aload_n 0, 1) := by decide +kernel
theorem dc_14_24_80 : decode prog_14_method_24_code 80 = .ok (.aload_n 0, 1) := by decide +kernel
theorem dc_14_24_81 : decode prog_14_method_24_code 81 = .ok (.getfield 216, 3) := by decide +kernel
theorem dc_14_24_84 : decode prog_14_method_24_code 84 = .ok (.iconst 1, 1) := by decide +kernel
theorem dc_14_24_85 : decode prog_14_method_24_code 85 = .ok (.iadd, 1) := by decide +kernel
theorem dc_14_24_86 : decode prog_14_method_24_code 86 = .ok (.putfield 216, 3) := by decide +kernel
theorem dc_14_24_89 : decode prog_14_method_24_code 89 = .ok (.goto 269, 3) := by decide +kernel
theorem dc_14_24_92 : decode prog_14_method_24_code 92 = .ok (.iload_n 3, 1) := by decide +kernel
theorem dc_14_24_93 : decode prog_14_method_24_code 93 = .ok (.invokestatic 258, 3) := by decide +kernel
theorem dc_14_24_96 : decode prog_14_method_24_code 96 = .ok (.iconst (-1), 1) := by decide +kernel
theorem dc_14_24_97 : decode prog_14_method_24_code 97 = .ok (.if_icmp .eq 7, 3) := by decide +kernel
theorem dc_14_24_100 : decode prog_14_method_24_code 100 = .ok (.iload_n 1, 1) := by decide +kernel
theorem dc_14_24_101 : decode prog_14_method_24_code 101 = .ok (.ifCond .ne 13, 3) := by decide +kernel
theorem dc_14_24_104 : decode prog_14_method_24_code 104 = .ok (.aload_n 0, 1) := by decide +kernel
theorem dc_14_24_105 : decode prog_14_method_24_code 105 = .ok (.iconst 1, 1) := by decide +kernel
theorem dc_14_24_106 : decode prog_14_method_24_code 106 = .ok (.aload_n 0, 1) := by decide +kernel
theorem dc_14_24_107 : decode prog_14_method_24_code 107 = .ok (.getfield 216, 3) := by decide +kernel
theorem dc_14_24_110 : decode prog_14_method_24_code 110 = .ok (.invokevirtual 236, 3) := by decide +kernel
theorem dc_14_24_113 : decode prog_14_method_24_code 113 = .ok (.ireturn, 1) := by decide +kernel
theorem dc_14_24_114 : decode prog_14_method_24_code 114 = .ok (.iload_n 3, 1) := by decide +kernel
theorem dc_14_24_115 : decode prog_14_method_24_code 115 = .ok (.invokestatic 258, 3) := by decide +kernel
theorem dc_14_24_118 : decode prog_14_method_24_code 118 = .ok (.istore 4, 2) := by decide +kernel
theorem dc_14_24_120 : decode prog_14_method_24_code 120 = .ok (.aload_n 0, 1) := by decide +kernel
theorem dc_14_24_121 : decode prog_14_method_24_code 121 = .ok (.aload_n 0, 1) := by decide +kernel
theorem dc_14_24_122 : decode prog_14_method_24_code 122 = .ok (.getfield 216, 3) := by decide +kernel
theorem dc_14_24_125 : decode prog_14_method_24_code 125 = .ok (.iconst 1, 1) := by decide +kernel
theorem dc_14_24_126 : decode prog_14_method_24_code 126 = .ok (.iadd, 1) := by decide +kernel
theorem dc_14_24_127 : decode prog_14_method_24_code 127 = .ok (.putfield 216, 3) := by decide +kernel
theorem dc_14_24_130 : decode prog_14_method_24_code 130 = .ok (.aload_n 0, 1) := by decide +kernel
theorem dc_14_24_131 : decode prog_14_method_24_code 131 = .ok (.invokevirtual 222, 3) := by decide +kernel
theorem dc_14_24_134 : decode prog_14_method_24_code 134 = .ok (.istore_n 3, 1) := by decide +kernel
theorem dc_14_24_135 : decode prog_14_method_24_code 135 = .ok (.iload_n 3, 1) := by decide +kernel
theorem dc_14_24_136 : decode prog_14_method_24_code 136 = .ok (.bipush 60, 2) := by decide +kernel
theorem dc_14_24_138 : decode prog_14_method_24_code 138 = .ok (.if_icmp .eq 25, 3) := by decide +kernel
theorem dc_14_24_141 : decode prog_14_method_24_code 141 = .ok (.iload_n 3, 1) := by decide +kernel
theorem dc_14_24_142 : decode prog_14_method_24_code 142 = .ok (.bipush 62, 2) := by decide +kernel
theorem dc_14_24_144 : decode prog_14_method_24_code 144 = .ok (.if_icmp .eq 19, 3) := by decide +kernel
theorem dc_14_24_147 : decode prog_14_method_24_code 147 = .ok (.iload_n 3, 1) := by decide +kernel
theorem dc_14_24_148 : decode prog_14_method_24_code 148 = .ok (.bipush 61, 2) := by decide +kernel
theorem dc_14_24_150 : decode prog_14_method_24_code 150 = .ok (.if_icmp .eq 13, 3) := by decide +kernel
theorem dc_14_24_153 : decode prog_14_method_24_code 153 = .ok (.aload_n 0, 1) := by decide +kernel
theorem dc_14_24_154 : decode prog_14_method_24_code 154 = .ok (.iconst 1, 1) := by decide +kernel
theorem dc_14_24_155 : decode prog_14_method_24_code 155 = .ok (.aload_n 0, 1) := by decide +kernel
theorem dc_14_24_156 : decode prog_14_method_24_code 156 = .ok (.getfield 216, 3) := by decide +kernel
theorem dc_14_24_159 : decode prog_14_method_24_code 159 = .ok (.invokevirtual 236, 3) := by decide +kernel
theorem dc_14_24_162 : decode prog_14_method_24_code 162 = .ok (.ireturn, 1) := by decide +kernel
theorem dc_14_24_163 : decode prog_14_method_24_code 163 = .ok (.aload_n 0, 1) := by decide +kernel
theorem dc_14_24_164 : decode prog_14_method_24_code 164 = .ok (.aload_n 0, 1) := by decide +kernel
theorem dc_14_24_165 : decode prog_14_method_24_code 165 = .ok (.getfield 216, 3) := by decide +kernel
theorem dc_14_24_168 : decode prog_14_method_24_code 168 = .ok (.iconst 1, 1) := by decide +kernel
theorem dc_14_24_169 : decode prog_14_method_24_code 169 = .ok (.iadd, 1) := by decide +kernel
theorem dc_14_24_170 : decode prog_14_method_24_code 170 = .ok (.putfield 216, 3) := by decide +kernel
theorem dc_14_24_173 : decode prog_14_method_24_code 173 = .ok (.aload_n 0, 1) := by decide +kernel
theorem dc_14_24_174 : decode prog_14_method_24_code 174 = .ok (.iconst 0, 1) := by decide +kernel
theorem dc_14_24_175 : decode prog_14_method_24_code 175 = .ok (.sipush 9999, 3) := by decide +kernel
theorem dc_14_24_178 : decode prog_14_method_24_code 178 = .ok (.invokevirtual 261, 3) := by decide +kernel
theorem dc_14_24_181 : decode prog_14_method_24_code 181 = .ok (.ifCond .ne 5, 3) := by decide +kernel
theorem dc_14_24_184 : decode prog_14_method_24_code 184 = .ok (.iconst 0, 1) := by decide +kernel
theorem dc_14_24_185 : decode prog_14_method_24_code 185 = .ok (.ireturn, 1) := by decide +kernel
theorem dc_14_24_186 : decode prog_14_method_24_code 186 = .ok (.aload_n 0, 1) := by decide +kernel
theorem dc_14_24_187 : decode prog_14_method_24_code 187 = .ok (.ldc_w 264, 3) := by decide +kernel
theorem dc_14_24_190 : decode prog_14_method_24_code 190 = .ok (.iload 4, 2) := by decide +kernel
theorem dc_14_24_192 : decode prog_14_method_24_code 192 = .ok (.imul, 1) := by decide +kernel
theorem dc_14_24_193 : decode prog_14_method_24_code 193 = .ok (.sipush 10000, 3) := by decide +kernel
theorem dc_14_24_196 : decode prog_14_method_24_code 196 = .ok (.iload_n 3, 1) := by decide +kernel
theorem dc_14_24_197 : decode prog_14_method_24_code 197 = .ok (.bipush 60, 2) := by decide +kernel
theorem dc_14_24_199 : decode prog_14_method_24_code 199 = .ok (.if_icmp .ne 7, 3) := by decide +kernel
theorem dc_14_24_202 : decode prog_14_method_24_code 202 = .ok (.iconst 0, 1) := by decide +kernel
theorem dc_14_24_203 : decode prog_14_method_24_code 203 = .ok (.goto 14, 3) := by decide +kernel
theorem dc_14_24_206 : decode prog_14_method_24_code 206 = .ok (.iload_n 3, 1) := by decide +kernel
theorem dc_14_24_207 : decode prog_14_method_24_code 207 = .ok (.bipush 62, 2) := by decide +kernel
theorem dc_14_24_209 : decode prog_14_method_24_code 209 = .ok (.if_icmp .ne 7, 3) := by decide +kernel
theorem dc_14_24_212 : decode prog_14_method_24_code 212 = .ok (.iconst 1, 1) := by decide +kernel
theorem dc_14_24_213 : decode prog_14_method_24_code 213 = .ok (.goto 4, 3) := by decide +kernel
theorem dc_14_24_216 : decode prog_14_method_24_code 216 = .ok (.iconst 2, 1) := by decide +kernel
theorem dc_14_24_217 : decode prog_14_method_24_code 217 = .ok (.imul, 1) := by decide +kernel
theorem dc_14_24_218 : decode prog_14_method_24_code 218 = .ok (.iadd, 1) := by decide +kernel
theorem dc_14_24_219 : decode prog_14_method_24_code 219 = .ok (.aload_n 0, 1) := by decide +kernel
theorem dc_14_24_220 : decode prog_14_method_24_code 220 = .ok (.getfield 229, 3) := by decide +kernel
theorem dc_14_24_223 : decode prog_14_method_24_code 223 = .ok (.iadd, 1) := by decide +kernel
theorem dc_14_24_224 : decode prog_14_method_24_code 224 = .ok (.invokevirtual 250, 3) := by decide +kernel
theorem dc_14_24_227 : decode prog_14_method_24_code 227 = .ok (.aload_n 0, 1) := by decide +kernel
theorem dc_14_24_228 : decode prog_14_method_24_code 228 = .ok (.iconst 3, 1) := by decide +kernel
theorem dc_14_24_229 : decode prog_14_method_24_code 229 = .ok (.invokevirtual 265, 3) := by decide +kernel
theorem dc_14_24_232 : decode prog_14_method_24_code 232 = .ok (.iconst 0, 1) := by decide +kernel
theorem dc_14_24_233 : decode prog_14_method_24_code 233 = .ok (.istore_n 2, 1) := by decide +kernel
theorem dc_14_24_234 : decode prog_14_method_24_code 234 = .ok (.goto 124, 3) := by decide +kernel
theorem dc_14_24_237 : decode prog_14_method_24_code 237 = .ok (.iload_n 3, 1) := by decide +kernel
theorem dc_14_24_238 : decode prog_14_method_24_code 238 = .ok (.bipush 38, 2) := by decide +kernel
theorem dc_14_24_240 : decode prog_14_method_24_code 240 = .ok (.if_icmp .ne 29, 3) := by decide +kernel
theorem dc_14_24_243 : decode prog_14_method_24_code 243 = .ok (.aload_n 0, 1) := by decide +kernel
theorem dc_14_24_244 : decode prog_14_method_24_code 244 = .ok (.iconst 2, 1) := by decide +kernel
theorem dc_14_24_245 : decode prog_14_method_24_code 245 = .ok (.invokevirtual 265, 3) := by decide +kernel
theorem dc_14_24_248 : decode prog_14_method_24_code 248 = .ok (.aload_n 0, 1) := by decide +kernel
theorem dc_14_24_249 : decode prog_14_method_24_code 249 = .ok (.ldc 254, 2) := by decide +kernel
theorem dc_14_24_251 : decode prog_14_method_24_code 251 = .ok (.invokevirtual 255, 3) := by decide +kernel
theorem dc_14_24_254 : decode prog_14_method_24_code 254 = .ok (.aload_n 0, 1) := by decide +kernel
theorem dc_14_24_255 : decode prog_14_method_24_code 255 = .ok (.aload_n 0, 1) := by decide +kernel
theorem dc_14_24_256 : decode prog_14_method_24_code 256 = .ok (.getfield 216, 3) := by decide +kernel
theorem dc_14_24_259 : decode prog_14_method_24_code 259 = .ok (.iconst 1, 1) := by decide +kernel
theorem dc_14_24_260 : decode prog_14_method_24_code 260 = .ok (.iadd, 1) := by decide +kernel
theorem dc_14_24_261 : decode prog_14_method_24_code 261 = .ok (.putfield 216, 3) := by decide +kernel
theorem dc_14_24_264 : decode prog_14_method_24_code 264 = .ok (.iconst 1, 1) := by decide +kernel
theorem dc_14_24_265 : decode prog_14_method_24_code 265 = .ok (.istore_n 2, 1) := by decide +kernel
theorem dc_14_24_266 : decode prog_14_method_24_code 266 = .ok (.goto 92, 3) := by decide +kernel
theorem dc_14_24_269 : decode prog_14_method_24_code 269 = .ok (.iload_n 3, 1) := by decide +kernel
theorem dc_14_24_270 : decode prog_14_method_24_code 270 = .ok (.bipush 124, 2) := by decide +kernel
theorem dc_14_24_272 : decode prog_14_method_24_code 272 = .ok (.if_icmp .ne 30, 3) := by decide +kernel
theorem dc_14_24_275 : decode prog_14_method_24_code 275 = .ok (.aload_n 0, 1) := by decide +kernel
theorem dc_14_24_276 : decode prog_14_method_24_code 276 = .ok (.iconst 1, 1) := by decide +kernel
theorem dc_14_24_277 : decode prog_14_method_24_code 277 = .ok (.invokevirtual 265, 3) := by decide +kernel
theorem dc_14_24_280 : decode prog_14_method_24_code 280 = .ok (.aload_n 0, 1) := by decide +kernel
theorem dc_14_24_281 : decode prog_14_method_24_code 281 = .ok (.ldc_w 268, 3) := by decide +kernel
theorem dc_14_24_284 : decode prog_14_method_24_code 284 = .ok (.invokevirtual 255, 3) := by decide +kernel
theorem dc_14_24_287 : decode prog_14_method_24_code 287 = .ok (.aload_n 0, 1) := by decide +kernel
theorem dc_14_24_288 : decode prog_14_method_24_code 288 = .ok (.aload_n 0, 1) := by decide +kernel
theorem dc_14_24_289 : decode prog_14_method_24_code 289 = .ok (.getfield 216, 3) := by decide +kernel
theorem dc_14_24_292 : decode prog_14_method_24_code 292 = .ok (.iconst 1, 1) := by decide +kernel
theorem dc_14_24_293 : decode prog_14_method_24_code 293 = .ok (.iadd, 1) := by decide +kernel
theorem dc_14_24_294 : decode prog_14_method_24_code 294 = .ok (.putfield 216, 3) := by decide +kernel
theorem dc_14_24_297 : decode prog_14_method_24_code 297 = .ok (.iconst 1, 1) := by decide +kernel
theorem dc_14_24_298 : decode prog_14_method_24_code 298 = .ok (.istore_n 2, 1) := by decide +kernel
theorem dc_14_24_299 : decode prog_14_method_24_code 299 = .ok (.goto 59, 3) := by decide +kernel
theorem dc_14_24_302 : decode prog_14_method_24_code 302 = .ok (.iload_n 3, 1) := by decide +kernel
theorem dc_14_24_303 : decode prog_14_method_24_code 303 = .ok (.bipush 41, 2) := by decide +kernel
theorem dc_14_24_305 : decode prog_14_method_24_code 305 = .ok (.if_icmp .eq 13, 3) := by decide +kernel
theorem dc_14_24_308 : decode prog_14_method_24_code 308 = .ok (.aload_n 0, 1) := by decide +kernel
theorem dc_14_24_309 : decode prog_14_method_24_code 309 = .ok (.iconst 1, 1) := by decide +kernel
theorem dc_14_24_310 : decode prog_14_method_24_code 310 = .ok (.aload_n 0, 1) := by decide +kernel
theorem dc_14_24_311 : decode prog_14_method_24_code 311 = .ok (.getfield 216, 3) := by decide +kernel
theorem dc_14_24_314 : decode prog_14_method_24_code 314 = .ok (.invokevirtual 236, 3) := by decide +kernel
theorem dc_14_24_317 : decode prog_14_method_24_code 317 = .ok (.ireturn, 1) := by decide +kernel
theorem dc_14_24_318 : decode prog_14_method_24_code 318 = .ok (.aload_n 0, 1) := by decide +kernel
theorem dc_14_24_319 : decode prog_14_method_24_code 319 = .ok (.iconst 1, 1) := by decide +kernel
theorem dc_14_24_320 : decode prog_14_method_24_code 320 = .ok (.invokevirtual 265, 3) := by decide +kernel
theorem dc_14_24_323 : decode prog_14_method_24_code 323 = .ok (.aload_n 0, 1) := by decide +kernel
theorem dc_14_24_324 : decode prog_14_method_24_code 324 = .ok (.aload_n 0, 1) := by decide +kernel
theorem dc_14_24_325 : decode prog_14_method_24_code 325 = .ok (.getfield 243, 3) := by decide +kernel
theorem dc_14_24_328 : decode prog_14_method_24_code 328 = .ok (.iconst 1, 1) := by decide +kernel
theorem dc_14_24_329 : decode prog_14_method_24_code 329 = .ok (.isub, 1) := by decide +kernel
theorem dc_14_24_330 : decode prog_14_method_24_code 330 = .ok (.putfield 243, 3) := by decide +kernel
theorem dc_14_24_333 : decode prog_14_method_24_code 333 = .ok (.aload_n 0, 1) := by decide +kernel
theorem dc_14_24_334 : decode prog_14_method_24_code 334 = .ok (.iconst 3, 1) := by decide +kernel
theorem dc_14_24_335 : decode prog_14_method_24_code 335 = .ok (.invokevirtual 265, 3) := by decide +kernel
theorem dc_14_24_338 : decode prog_14_method_24_code 338 = .ok (.iload_n 1, 1) := by decide +kernel
theorem dc_14_24_339 : decode prog_14_method_24_code 339 = .ok (.iconst 1, 1) := by decide +kernel
theorem dc_14_24_340 : decode prog_14_method_24_code 340 = .ok (.isub, 1) := by decide +kernel
theorem dc_14_24_341 : decode prog_14_method_24_code 341 = .ok (.istore_n 1, 1) := by decide +kernel
theorem dc_14_24_342 : decode prog_14_method_24_code 342 = .ok (.aload_n 0, 1) := by decide +kernel
theorem dc_14_24_343 : decode prog_14_method_24_code 343 = .ok (.aload_n 0, 1) := by decide +kernel
theorem dc_14_24_344 : decode prog_14_method_24_code 344 = .ok (.getfield 216, 3) := by decide +kernel
theorem dc_14_24_347 : decode prog_14_method_24_code 347 = .ok (.iconst 1, 1) := by decide +kernel
theorem dc_14_24_348 : decode prog_14_method_24_code 348 = .ok (.iadd, 1) := by decide +kernel
theorem dc_14_24_349 : decode prog_14_method_24_code 349 = .ok (.putfield 216, 3) := by decide +kernel
theorem dc_14_24_352 : decode prog_14_method_24_code 352 = .ok (.iload_n 1, 1) := by decide +kernel
theorem dc_14_24_353 : decode prog_14_method_24_code 353 = .ok (.ifCond .ne 5, 3) := by decide +kernel
theorem dc_14_24_356 : decode prog_14_method_24_code 356 = .ok (.iconst 1, 1) := by decide +kernel
theorem dc_14_24_357 : decode prog_14_method_24_code 357 = .ok (.ireturn, 1) := by decide +kernel
theorem dc_14_24_358 : decode prog_14_method_24_code 358 = .ok (.goto (-349), 3) := by decide +kernel
theorem iv_13_s258 : mm_iv 13 (.invokestatic 258) = some (0, 205) := by decide +kernel
theorem iv_13_v255 : mm_iv 13 (.invokevirtual 255) = some (1, 204) := by decide +kernel
theorem iv_13_v261 : mm_iv 13 (.invokevirtual 261) = some (1, 206) := by decide +kernel
theorem iv_13_v265 : mm_iv 13 (.invokevirtual 265) = some (1, 209) := by decide +kernel
theorem o_204 : mm_o 204 = 13 := by decide +kernel
theorem o_206 : mm_o 206 = 13 := by decide +kernel
theorem o_209 : mm_o 209 = 13 := by decide +kernel
theorem na_0_205 : mm_nas 0 205 = 1 := by decide +kernel
theorem na_1_204 : mm_nas 1 204 = 2 := by decide +kernel
theorem na_1_206 : mm_nas 1 206 = 3 := by decide +kernel
theorem na_1_209 : mm_nas 1 209 = 2 := by decide +kernel
set_option maxHeartbeats 4000000 in
theorem c_expr {M : mH} (hM : 157 ≤ M.1) {io0 : Nat → Int32} {sg0 : Nat → Nat → Int32} {sz p N : Nat} {S : List Nat} {r : Except Nat (Nat × List Nat)} (h24 : io0 24 = nI p) (h25 : io0 25 = nI sz) (h39 : io0 39 = nI S.length) (h37 : WL (sg0 37) S) (hSp : S.length ≤ p) (hp : p ≤ sz) (hsz : sz ≤ 60) (hrun : mrun (chr sg0 sz) N p 0 true [] S = some r) : ∃ io2 sg2 v, PE sz io0 sg0 r io2 sg2 v ∧ mm_Ev 4 202 [.ref 100] (rf_mk M io0 sg0) (some (.int v), rf_mk M io2 sg2) := by
  have hq9 : ∃ z, (fun r9 => ∃ (io2 : Nat → Int32) (sg2 : Nat → Nat → Int32) (v : Int32), PE sz io0 sg0 r io2 sg2 v ∧ r9 = (some (.int v), rf_mk M io2 sg2)) z ∧ mm_Ev 4 202 [.ref 100] (rf_mk M io0 sg0) z := by
    refine r_evQ (by decide +kernel) (show (1 : Nat) ≤ mm_nL 202 by decide +kernel) ?_
    show mm_Ru 3 (13, 5, false, prog_14_method_24_code, some .boolean) 0 [(0, .ref 100)] [] (rf_mk M io0 sg0) (fun r9 => ∃ (io2 : Nat → Int32) (sg2 : Nat → Nat → Int32) (v : Int32), PE sz io0 sg0 r io2 sg2 v ∧ r9 = (some (.int v), rf_mk M io2 sg2))
    refine r_iconst (v := nI 0) (by decide) dc_14_24_0 ?_
    refine r_istore_n (ls' := [(1, .int (nI 0)), (0, .ref 100)]) (by decide) rfl dc_14_24_1 ?_
    refine r_iconst (v := nI 1) (by decide) dc_14_24_2 ?_
    refine r_istore_n (ls' := [(2, .int (nI 1)), (1, .int (nI 0)), (0, .ref 100)]) (by decide) rfl dc_14_24_3 ?_
    refine r_aload_n rfl dc_14_24_4 ?_
    refine r_iconst (v := nI 0) (by decide) dc_14_24_5 ?_
    refine q_put rx_243 (by decide +kernel) (by decide +kernel) (by decide) (rs_40 _) hM dc_14_24_6 ?_
    suffices hall : ∀ (N p o : Nat) (b : Bool) (W S : List Nat) (io : Nat → Int32) (sg : Nat → Nat → Int32), mrun (chr sg0 sz) N p o b W S = some r → (QS sz io0 sg0 io sg p W S ∧ W.length + S.length ≤ p ∧ p ≤ sz ∧ o ≤ 6 ∧ cO W = o ∧ (b = false → 0 < o)) → mm_Ru 3 (13, 5, false, prog_14_method_24_code, some .boolean) 9 [(2, .int ((if b then nI 1 else nI 0))), (1, .int (nI o)), (0, .ref 100)] [] (rf_mk M io sg) (fun r9 => ∃ (io2 : Nat → Int32) (sg2 : Nat → Nat → Int32) (v : Int32), PE sz io0 sg0 r io2 sg2 v ∧ r9 = (some (.int v), rf_mk M io2 sg2)) from hall N p 0 true [] S _ sg0 hrun ⟨⟨⟨h24, h25, rfl, h39, True.intro, h37⟩, FrR_io (FrR_0 io0 sg0) (by omega) _⟩, by show 0 + S.length ≤ p; omega, hp, by decide, rfl, fun z => nomatch z⟩
    clear hrun h24 h39 h37 hSp hp
    intro N
    induction N with
    | zero => exact fun _ _ _ _ _ _ _ h => nomatch h
    | succ N ih =>
      intro p o b W S io sg hr hI
      obtain ⟨hQ, hWS, hp, ho, hO, hb⟩ := hI
      have hc := chr_lt sg0 sz p
      have hin : ¬ chr sg0 sz p = 0 → p < sz := chr_in (sg := sg0)
      have hin1 : ¬ chr sg0 sz (p + 1) = 0 → p + 1 < sz := chr_in (sg := sg0)
      have hc1 := chr_lt sg0 sz (p + 1)
      cases b with
      | false =>
        have ho1 := hb rfl
        show mm_Ru 3 (13, 5, false, prog_14_method_24_code, some .boolean) 9 [(2, .int (nI 0)), (1, .int (nI o)), (0, .ref 100)] [] (rf_mk M io sg) (fun r9 => ∃ (io2 : Nat → Int32) (sg2 : Nat → Nat → Int32) (v : Int32), PE sz io0 sg0 r io2 sg2 v ∧ r9 = (some (.int v), rf_mk M io2 sg2))
        refine r_aload_n rfl dc_14_24_9 ?_
        refine q_calli (as := []) (rest := []) (v := .int (nI (chr sg0 sz p))) (M1 := rf_mk M io sg) iv_13_v222 na_1_201 o_201 hM rfl (show (0 : Nat) ≤ 8 by decide) dc_14_24_10 (mm_Ev_up (by decide : 1 ≤ 3) (w_sign hM (hQ) (by omega) (by omega))) ?_
        refine r_istore_n (ls' := [(3, .int (nI (chr sg0 sz p))), (2, .int (nI 0)), (1, .int (nI o)), (0, .ref 100)]) (by decide) rfl dc_14_24_13 ?_
        refine r_iload_n rfl dc_14_24_14 ?_
        refine r_ifeq (t := 237) (by decide) dc_14_24_15 (fun c_15 => ?_) (fun c_15 => ?_)
        · skip
          refine r_iload_n rfl dc_14_24_237 ?_
          refine r_bipush (v := nI 38) (by decide) dc_14_24_238 ?_
          refine r_ncne (t := 269) (by omega) (by omega) (by decide) dc_14_24_240 (fun c_240 => ?_) (fun c_240 => ?_)
          · skip
            refine r_iload_n rfl dc_14_24_269 ?_
            refine r_bipush (v := nI 124) (by decide) dc_14_24_270 ?_
            refine r_ncne (t := 302) (by omega) (by omega) (by decide) dc_14_24_272 (fun c_272 => ?_) (fun c_272 => ?_)
            · skip
              refine r_iload_n rfl dc_14_24_302 ?_
              refine r_bipush (v := nI 41) (by decide) dc_14_24_303 ?_
              refine r_nceq (t := 318) (by omega) (by omega) (by decide) dc_14_24_305 (fun c_305 => ?_) (fun c_305 => ?_)
              · skip
                refine r_aload_n rfl dc_14_24_318 ?_
                refine r_iconst (v := nI 1) (by decide) dc_14_24_319 ?_
                have hl_1 := cl_len 1 W S
                obtain ⟨io_1, sg_1, hQ_1, hE_1⟩ := w_closes hM (hQ) (k := 1) (by decide) (by omega)
                refine q_callv (as := [.int (nI 1)]) (rest := []) (M1 := rf_mk M io_1 sg_1) iv_13_v265 na_1_209 o_209 hM rfl (show (0 : Nat) ≤ 8 by decide) dc_14_24_320 (mm_Ev_up (by decide : 2 ≤ 3) (hE_1)) ?_
                obtain ⟨V1, hV1, hV2⟩ := cl_1 W S (by omega)
                have hV3 : ¬ (cl 1 W S).1 = [] := by rw [hV1]; exact fun z => nomatch z
                have hV4 : 0 < (cl 1 W S).1.length := by rw [hV1]; exact Nat.succ_pos _
                have hV5 : (cl 1 W S).1.tail.length = (cl 1 W S).1.length - 1 := List.length_tail
                refine r_aload_n rfl dc_14_24_323 ?_
                refine r_aload_n rfl dc_14_24_324 ?_
                refine q_get (v := .int (nI (((cl 1 W S).1).length))) rx_243 hM (congrArg (fun z => some (Value.int z)) (hQ_1).1.2.2.1) dc_14_24_325 ?_
                refine r_iconst (v := nI 1) (by decide) dc_14_24_328 ?_
                refine r_isub (v := nI (((cl 1 W S).1).length - 1)) (nI_sb (by omega)) dc_14_24_329 ?_
                refine q_put rx_243 (by decide +kernel) (by decide +kernel) (by decide) (rs_40 _) hM dc_14_24_330 ?_
                refine r_aload_n rfl dc_14_24_333 ?_
                refine r_iconst (v := nI 3) (by decide) dc_14_24_334 ?_
                have hl_2 := cl_len 3 (((cl 1 W S).1).tail) ((cl 1 W S).2)
                obtain ⟨io_2, sg_2, hQ_2, hE_2⟩ := w_closes hM (QS_w (hQ_1) hV3) (k := 3) (by decide) (by omega)
                refine q_callv (as := [.int (nI 3)]) (rest := []) (M1 := rf_mk M io_2 sg_2) iv_13_v265 na_1_209 o_209 hM rfl (show (0 : Nat) ≤ 8 by decide) dc_14_24_335 (mm_Ev_up (by decide : 2 ≤ 3) (hE_2)) ?_
                refine r_iload_n rfl dc_14_24_338 ?_
                refine r_iconst (v := nI 1) (by decide) dc_14_24_339 ?_
                refine r_isub (v := nI (o - 1)) (nI_sb (by omega)) dc_14_24_340 ?_
                refine r_istore_n (ls' := [(1, .int (nI (o - 1))), (3, .int (nI (chr sg0 sz p))), (2, .int (nI 0)), (0, .ref 100)]) (by decide) rfl dc_14_24_341 ?_
                refine r_aload_n rfl dc_14_24_342 ?_
                refine r_aload_n rfl dc_14_24_343 ?_
                refine q_get (v := .int (nI p)) rx_216 hM (congrArg (fun z => some (Value.int z)) (hQ_2).1.1) dc_14_24_344 ?_
                refine r_iconst (v := nI 1) (by decide) dc_14_24_347 ?_
                refine r_iadd (v := nI (p + 1)) (nI_add _ _) dc_14_24_348 ?_
                refine q_put rx_216 (by decide +kernel) (by decide +kernel) (by decide) (rs_24 _) hM dc_14_24_349 ?_
                refine r_iload_n rfl dc_14_24_352 ?_
                refine r_nzne (t := 358) (by omega) (by decide) dc_14_24_353 (fun c_353 => ?_) (fun c_353 => ?_)
                · skip
                  refine r_goto (t := 9) (by decide) dc_14_24_358 ?_
                  refine r_ls [(2, .int (nI 0)), (1, .int (nI (o - 1))), (0, .ref 100)] (mm_ndk_of [2, 1, 0] rfl (by decide)) (mm_sub_cons rfl (mm_sub_cons rfl (mm_sub_cons rfl (mm_sub_nil _)))) ?_
                  exact ih (p + 1) (o - 1) false _ _ _ _ (Eq.trans (Eq.symm ((if_neg c_240).trans ((if_neg c_272).trans ((if_pos c_305).trans (if_neg (by omega)))))) hr) ⟨QS_at (hQ_2) (p + 1), by rw [cl_len, List.length_tail]; omega, by omega, by omega, by rw [cO_cl, hV1]; show cO V1 = o - 1; omega, fun _ => by omega⟩
                · skip
                  refine r_iconst (v := nI 1) (by decide) dc_14_24_356 ?_
                  refine r_zret rfl (by decide) dc_14_24_357 ?_
                  exact ⟨_, _, _, Or.inl ⟨_, _, _, (Option.some.inj ((Eq.symm ((if_neg c_240).trans ((if_neg c_272).trans ((if_pos c_305).trans (if_pos (by omega)))))).trans hr)).symm, rfl, QS_at (hQ_2) (p + 1)⟩, rfl⟩
              · skip
                refine r_aload_n rfl dc_14_24_308 ?_
                refine r_iconst (v := nI 1) (by decide) dc_14_24_309 ?_
                refine r_aload_n rfl dc_14_24_310 ?_
                refine q_get (v := .int (nI p)) rx_216 hM (congrArg (fun z => some (Value.int z)) (hQ).1.1) dc_14_24_311 ?_
                refine q_calli (as := [.int (nI 1), .int (nI p)]) (rest := []) (v := .int (nI 0)) (M1 := rf_mk M (va_up io 26 (-nI (100 * 1 + p))) sg) iv_13_v236 na_1_203 o_203 hM rfl (show (0 : Nat) ≤ 8 by decide) dc_14_24_314 (mm_Ev_up (by decide : 1 ≤ 3) (c_wrong M hM (io) (sg) 1 p)) ?_
                refine r_zret rfl (by decide) dc_14_24_317 ?_
                exact ⟨_, _, _, Or.inr ⟨_, (Option.some.inj ((Eq.symm ((if_neg c_240).trans ((if_neg c_272).trans (if_neg c_305)))).trans hr)).symm, rfl, rfl, FrR_io (hQ).2 (by omega) _⟩, rfl⟩
            · skip
              refine r_aload_n rfl dc_14_24_275 ?_
              refine r_iconst (v := nI 1) (by decide) dc_14_24_276 ?_
              have hl_3 := cl_len 1 W S
              obtain ⟨io_3, sg_3, hQ_3, hE_3⟩ := w_closes hM (hQ) (k := 1) (by decide) (by omega)
              refine q_callv (as := [.int (nI 1)]) (rest := []) (M1 := rf_mk M io_3 sg_3) iv_13_v265 na_1_209 o_209 hM rfl (show (0 : Nat) ≤ 8 by decide) dc_14_24_277 (mm_Ev_up (by decide : 2 ≤ 3) (hE_3)) ?_
              refine r_aload_n rfl dc_14_24_280 ?_
              refine r_ldc_w (v := nI 1000001) nr_13_268 dc_14_24_281 ?_
              obtain ⟨io_4, sg_4, hQ_4, hE_4⟩ := w_holds hM (hQ_3) (by omega) (w := 1000001) (by decide)
              refine q_callv (as := [.int (nI 1000001)]) (rest := []) (M1 := rf_mk M io_4 sg_4) iv_13_v255 na_1_204 o_204 hM rfl (show (0 : Nat) ≤ 8 by decide) dc_14_24_284 (mm_Ev_up (by decide : 1 ≤ 3) (hE_4)) ?_
              refine r_aload_n rfl dc_14_24_287 ?_
              refine r_aload_n rfl dc_14_24_288 ?_
              refine q_get (v := .int (nI p)) rx_216 hM (congrArg (fun z => some (Value.int z)) (hQ_4).1.1) dc_14_24_289 ?_
              refine r_iconst (v := nI 1) (by decide) dc_14_24_292 ?_
              refine r_iadd (v := nI (p + 1)) (nI_add _ _) dc_14_24_293 ?_
              refine q_put rx_216 (by decide +kernel) (by decide +kernel) (by decide) (rs_24 _) hM dc_14_24_294 ?_
              refine r_iconst (v := nI 1) (by decide) dc_14_24_297 ?_
              refine r_istore_n (ls' := [(2, .int (nI 1)), (3, .int (nI (chr sg0 sz p))), (1, .int (nI o)), (0, .ref 100)]) (by decide) rfl dc_14_24_298 ?_
              refine r_goto (t := 358) (by decide) dc_14_24_299 ?_
              refine r_goto (t := 9) (by decide) dc_14_24_358 ?_
              refine r_ls [(2, .int (nI 1)), (1, .int (nI o)), (0, .ref 100)] (mm_ndk_of [2, 1, 0] rfl (by decide)) (mm_sub_cons rfl (mm_sub_cons rfl (mm_sub_cons rfl (mm_sub_nil _)))) ?_
              exact ih (p + 1) o true _ _ _ _ (Eq.trans (Eq.symm ((if_neg c_240).trans (if_pos c_272))) hr) ⟨QS_at (hQ_4) (p + 1), by have h8 := cl_len 1 W S; have h9 : (1000001 :: (cl 1 W S).1).length = (cl 1 W S).1.length + 1 := rfl; omega, by omega, ho, by rw [show cO (1000001 :: (cl 1 W S).1) = cO (cl 1 W S).1 from if_neg (by decide), cO_cl]; exact hO, fun z => nomatch z⟩
          · skip
            refine r_aload_n rfl dc_14_24_243 ?_
            refine r_iconst (v := nI 2) (by decide) dc_14_24_244 ?_
            have hl_5 := cl_len 2 W S
            obtain ⟨io_5, sg_5, hQ_5, hE_5⟩ := w_closes hM (hQ) (k := 2) (by decide) (by omega)
            refine q_callv (as := [.int (nI 2)]) (rest := []) (M1 := rf_mk M io_5 sg_5) iv_13_v265 na_1_209 o_209 hM rfl (show (0 : Nat) ≤ 8 by decide) dc_14_24_245 (mm_Ev_up (by decide : 2 ≤ 3) (hE_5)) ?_
            refine r_aload_n rfl dc_14_24_248 ?_
            refine r_ldc (v := nI 1000000) nr_13_254 dc_14_24_249 ?_
            obtain ⟨io_6, sg_6, hQ_6, hE_6⟩ := w_holds hM (hQ_5) (by omega) (w := 1000000) (by decide)
            refine q_callv (as := [.int (nI 1000000)]) (rest := []) (M1 := rf_mk M io_6 sg_6) iv_13_v255 na_1_204 o_204 hM rfl (show (0 : Nat) ≤ 8 by decide) dc_14_24_251 (mm_Ev_up (by decide : 1 ≤ 3) (hE_6)) ?_
            refine r_aload_n rfl dc_14_24_254 ?_
            refine r_aload_n rfl dc_14_24_255 ?_
            refine q_get (v := .int (nI p)) rx_216 hM (congrArg (fun z => some (Value.int z)) (hQ_6).1.1) dc_14_24_256 ?_
            refine r_iconst (v := nI 1) (by decide) dc_14_24_259 ?_
            refine r_iadd (v := nI (p + 1)) (nI_add _ _) dc_14_24_260 ?_
            refine q_put rx_216 (by decide +kernel) (by decide +kernel) (by decide) (rs_24 _) hM dc_14_24_261 ?_
            refine r_iconst (v := nI 1) (by decide) dc_14_24_264 ?_
            refine r_istore_n (ls' := [(2, .int (nI 1)), (3, .int (nI (chr sg0 sz p))), (1, .int (nI o)), (0, .ref 100)]) (by decide) rfl dc_14_24_265 ?_
            refine r_goto (t := 358) (by decide) dc_14_24_266 ?_
            refine r_goto (t := 9) (by decide) dc_14_24_358 ?_
            refine r_ls [(2, .int (nI 1)), (1, .int (nI o)), (0, .ref 100)] (mm_ndk_of [2, 1, 0] rfl (by decide)) (mm_sub_cons rfl (mm_sub_cons rfl (mm_sub_cons rfl (mm_sub_nil _)))) ?_
            exact ih (p + 1) o true _ _ _ _ (Eq.trans (Eq.symm (if_pos c_240)) hr) ⟨QS_at (hQ_6) (p + 1), by have h8 := cl_len 2 W S; have h9 : (1000000 :: (cl 2 W S).1).length = (cl 2 W S).1.length + 1 := rfl; omega, by omega, ho, by rw [show cO (1000000 :: (cl 2 W S).1) = cO (cl 2 W S).1 from if_neg (by decide), cO_cl]; exact hO, fun z => nomatch z⟩
        · exact absurd c_15 (by decide)
      | true =>
        show mm_Ru 3 (13, 5, false, prog_14_method_24_code, some .boolean) 9 [(2, .int (nI 1)), (1, .int (nI o)), (0, .ref 100)] [] (rf_mk M io sg) (fun r9 => ∃ (io2 : Nat → Int32) (sg2 : Nat → Nat → Int32) (v : Int32), PE sz io0 sg0 r io2 sg2 v ∧ r9 = (some (.int v), rf_mk M io2 sg2))
        refine r_aload_n rfl dc_14_24_9 ?_
        refine q_calli (as := []) (rest := []) (v := .int (nI (chr sg0 sz p))) (M1 := rf_mk M io sg) iv_13_v222 na_1_201 o_201 hM rfl (show (0 : Nat) ≤ 8 by decide) dc_14_24_10 (mm_Ev_up (by decide : 1 ≤ 3) (w_sign hM (hQ) (by omega) (by omega))) ?_
        refine r_istore_n (ls' := [(3, .int (nI (chr sg0 sz p))), (2, .int (nI 1)), (1, .int (nI o)), (0, .ref 100)]) (by decide) rfl dc_14_24_13 ?_
        refine r_iload_n rfl dc_14_24_14 ?_
        refine r_ifeq (t := 237) (by decide) dc_14_24_15 (fun c_15 => ?_) (fun c_15 => ?_)
        · exact absurd c_15 (by decide)
        · skip
          refine r_iload_n rfl dc_14_24_18 ?_
          refine r_bipush (v := nI 40) (by decide) dc_14_24_19 ?_
          refine r_ncne (t := 63) (by omega) (by omega) (by decide) dc_14_24_21 (fun c_21 => ?_) (fun c_21 => ?_)
          · skip
            refine r_iload_n rfl dc_14_24_63 ?_
            refine r_bipush (v := nI 33) (by decide) dc_14_24_64 ?_
            refine r_ncne (t := 92) (by omega) (by omega) (by decide) dc_14_24_66 (fun c_66 => ?_) (fun c_66 => ?_)
            · skip
              refine r_iload_n rfl dc_14_24_92 ?_
              refine q_calls (as := [.int (nI (chr sg0 sz p))]) (rest := []) (v := .int (lof (chr sg0 sz p))) iv_13_s258 na_0_205 rfl (show (0 : Nat) ≤ 8 by decide) dc_14_24_93 (mm_Ev_up (by decide : 1 ≤ 3) (c_letterOf _ (chr sg0 sz p) hc)) ?_
              refine r_iconst (v := -1) (by decide) dc_14_24_96 ?_
              refine r_iceq (t := 104) (by decide) dc_14_24_97 (fun c_97 => ?_) (fun c_97 => ?_)
              · skip
                refine r_aload_n rfl dc_14_24_104 ?_
                refine r_iconst (v := nI 1) (by decide) dc_14_24_105 ?_
                refine r_aload_n rfl dc_14_24_106 ?_
                refine q_get (v := .int (nI p)) rx_216 hM (congrArg (fun z => some (Value.int z)) (hQ).1.1) dc_14_24_107 ?_
                refine q_calli (as := [.int (nI 1), .int (nI p)]) (rest := []) (v := .int (nI 0)) (M1 := rf_mk M (va_up io 26 (-nI (100 * 1 + p))) sg) iv_13_v236 na_1_203 o_203 hM rfl (show (0 : Nat) ≤ 8 by decide) dc_14_24_110 (mm_Ev_up (by decide : 1 ≤ 3) (c_wrong M hM (io) (sg) 1 p)) ?_
                refine r_zret rfl (by decide) dc_14_24_113 ?_
                exact ⟨_, _, _, Or.inr ⟨_, (Option.some.inj ((Eq.symm ((if_neg c_21).trans ((if_neg (fun z => c_66 z.1)).trans (if_pos (Or.inl c_97))))).trans hr)).symm, rfl, rfl, FrR_io (hQ).2 (by omega) _⟩, rfl⟩
              · skip
                refine r_iload_n rfl dc_14_24_100 ?_
                refine r_nzne (t := 114) (by omega) (by decide) dc_14_24_101 (fun c_101 => ?_) (fun c_101 => ?_)
                · skip
                  refine r_iload_n rfl dc_14_24_114 ?_
                  refine q_calls (as := [.int (nI (chr sg0 sz p))]) (rest := []) (v := .int (lof (chr sg0 sz p))) iv_13_s258 na_0_205 rfl (show (0 : Nat) ≤ 8 by decide) dc_14_24_115 (mm_Ev_up (by decide : 1 ≤ 3) (c_letterOf _ (chr sg0 sz p) hc)) ?_
                  refine r_istore (ls' := [(4, .int (lof (chr sg0 sz p))), (3, .int (nI (chr sg0 sz p))), (2, .int (nI 1)), (1, .int (nI o)), (0, .ref 100)]) (by decide) rfl dc_14_24_118 ?_
                  refine r_aload_n rfl dc_14_24_120 ?_
                  refine r_aload_n rfl dc_14_24_121 ?_
                  refine q_get (v := .int (nI p)) rx_216 hM (congrArg (fun z => some (Value.int z)) (hQ).1.1) dc_14_24_122 ?_
                  refine r_iconst (v := nI 1) (by decide) dc_14_24_125 ?_
                  refine r_iadd (v := nI (p + 1)) (nI_add _ _) dc_14_24_126 ?_
                  refine q_put rx_216 (by decide +kernel) (by decide +kernel) (by decide) (rs_24 _) hM dc_14_24_127 ?_
                  refine r_aload_n rfl dc_14_24_130 ?_
                  refine q_calli (as := []) (rest := []) (v := .int (nI (chr sg0 sz (p + 1)))) (M1 := rf_mk M (va_up io 24 (nI (p + 1))) sg) iv_13_v222 na_1_201 o_201 hM rfl (show (0 : Nat) ≤ 8 by decide) dc_14_24_131 (mm_Ev_up (by decide : 1 ≤ 3) (w_sign hM (QS_at (hQ) (p + 1)) (by omega) (by omega))) ?_
                  refine r_istore_n (ls' := [(3, .int (nI (chr sg0 sz (p + 1)))), (4, .int (lof (chr sg0 sz p))), (2, .int (nI 1)), (1, .int (nI o)), (0, .ref 100)]) (by decide) rfl dc_14_24_134 ?_
                  refine r_iload_n rfl dc_14_24_135 ?_
                  refine r_bipush (v := nI 60) (by decide) dc_14_24_136 ?_
                  refine r_nceq (t := 163) (by omega) (by omega) (by decide) dc_14_24_138 (fun c_138 => ?_) (fun c_138 => ?_)
                  · skip
                    refine r_aload_n rfl dc_14_24_163 ?_
                    refine r_aload_n rfl dc_14_24_164 ?_
                    refine q_get (v := .int (nI (p + 1))) rx_216 hM (congrArg (fun z => some (Value.int z)) (QS_at (hQ) (p + 1)).1.1) dc_14_24_165 ?_
                    refine r_iconst (v := nI 1) (by decide) dc_14_24_168 ?_
                    refine r_iadd (v := nI (p + 1 + 1)) (nI_add _ _) dc_14_24_169 ?_
                    refine q_put rx_216 (by decide +kernel) (by decide +kernel) (by decide) (rs_24 _) hM dc_14_24_170 ?_
                    refine r_aload_n rfl dc_14_24_173 ?_
                    refine r_iconst (v := nI 0) (by decide) dc_14_24_174 ?_
                    refine r_sipush (v := nI 9999) (by decide) dc_14_24_175 ?_
                    rcases w_num hM (QS_at (QS_at (hQ) (p + 1)) (p + 1 + 1)) (by omega) (by omega) (lo := 0) (hi := 9999) (by omega) (by omega) with ⟨io_7, v_7, e_7, hr_7, hQ_7, h47_7, hE_7⟩ | ⟨io_7, f_7, hr_7, h26_7, hF_7, hE_7⟩
                    · skip
                      have hl_n7 := rn_le (chr_z sg0 sz) hr_7
                      refine q_calli (as := [.int (nI 0), .int (nI 9999)]) (rest := []) (v := .int (nI 1)) (M1 := rf_mk M io_7 sg) iv_13_v261 na_1_206 o_206 hM rfl (show (0 : Nat) ≤ 8 by decide) dc_14_24_178 (hE_7) ?_
                      refine r_ifne (t := 186) (by decide) dc_14_24_181 (fun c_181 => ?_) (fun c_181 => ?_)
                      · skip
                        have hsk : sgo (chr sg0 sz (p + 1)) = nI 0 := if_pos c_138
                        have hsy : ¬ sgo (chr sg0 sz (p + 1)) = -1 := by rw [hsk]; decide
                        refine r_aload_n rfl dc_14_24_186 ?_
                        refine r_ldc_w (v := nI 100000) nr_13_264 dc_14_24_187 ?_
                        refine r_iload rfl dc_14_24_190 ?_
                        refine r_imul (v := (nI 100000) * (lof (chr sg0 sz p))) (rfl) dc_14_24_192 ?_
                        refine r_sipush (v := nI 10000) (by decide) dc_14_24_193 ?_
                        refine r_iload_n rfl dc_14_24_196 ?_
                        refine r_bipush (v := nI 60) (by decide) dc_14_24_197 ?_
                        refine r_ncne (t := 206) (by omega) (by omega) (by decide) dc_14_24_199 (fun c_199 => ?_) (fun c_199 => ?_)
                        · omega
                        · skip
                          refine r_iconst (v := nI 0) (by decide) dc_14_24_202 ?_
                          refine r_goto (t := 217) (by decide) dc_14_24_203 ?_
                          refine r_imul (v := nI 0) (by decide) dc_14_24_217 ?_
                          refine r_iadd (v := ((nI 100000) * (lof (chr sg0 sz p))) + (nI 0)) (rfl) dc_14_24_218 ?_
                          refine r_aload_n rfl dc_14_24_219 ?_
                          refine q_get (v := .int (nI v_7)) rx_229 hM (congrArg (fun z => some (Value.int z)) (h47_7)) dc_14_24_220 ?_
                          refine r_iadd (v := nI (cmc (chr sg0 sz p) (chr sg0 sz (p + 1)) v_7)) (cm_e hc c_97 hsk (by decide) (by decide)) dc_14_24_223 ?_
                          obtain ⟨io_8, sg_8, hQ_8, hE_8⟩ := w_says hM (hQ_7) (by omega) (w := (cmc (chr sg0 sz p) (chr sg0 sz (p + 1)) v_7)) (cm_le hc (by omega))
                          refine q_callv (as := [.int (nI (cmc (chr sg0 sz p) (chr sg0 sz (p + 1)) v_7))]) (rest := []) (M1 := rf_mk M io_8 sg_8) iv_13_v250 na_1_208 o_208 hM rfl (show (0 : Nat) ≤ 8 by decide) dc_14_24_224 (mm_Ev_up (by decide : 1 ≤ 3) (hE_8)) ?_
                          refine r_aload_n rfl dc_14_24_227 ?_
                          refine r_iconst (v := nI 3) (by decide) dc_14_24_228 ?_
                          have hs_9 : ((cmc (chr sg0 sz p) (chr sg0 sz (p + 1)) v_7) :: S).length = S.length + 1 := rfl
                          have hl_9 := cl_len 3 W ((cmc (chr sg0 sz p) (chr sg0 sz (p + 1)) v_7) :: S)
                          obtain ⟨io_9, sg_9, hQ_9, hE_9⟩ := w_closes hM (hQ_8) (k := 3) (by decide) (by omega)
                          refine q_callv (as := [.int (nI 3)]) (rest := []) (M1 := rf_mk M io_9 sg_9) iv_13_v265 na_1_209 o_209 hM rfl (show (0 : Nat) ≤ 8 by decide) dc_14_24_229 (mm_Ev_up (by decide : 2 ≤ 3) (hE_9)) ?_
                          refine r_iconst (v := nI 0) (by decide) dc_14_24_232 ?_
                          refine r_istore_n (ls' := [(2, .int (nI 0)), (3, .int (nI (chr sg0 sz (p + 1)))), (4, .int (lof (chr sg0 sz p))), (1, .int (nI o)), (0, .ref 100)]) (by decide) rfl dc_14_24_233 ?_
                          refine r_goto (t := 358) (by decide) dc_14_24_234 ?_
                          refine r_goto (t := 9) (by decide) dc_14_24_358 ?_
                          refine r_ls [(2, .int (nI 0)), (1, .int (nI o)), (0, .ref 100)] (mm_ndk_of [2, 1, 0] rfl (by decide)) (mm_sub_cons rfl (mm_sub_cons rfl (mm_sub_cons rfl (mm_sub_nil _)))) ?_
                          exact ih e_7 o false _ _ _ _ (Eq.trans (Eq.symm ((if_neg c_21).trans ((if_neg (fun z => c_66 z.1)).trans ((if_neg (fun z => z.elim c_97 (by omega))).trans ((if_neg hsy).trans (by rw [hr_7])))))) hr) ⟨hQ_9, by rw [cl_len]; show W.length + (S.length + 1) ≤ _; omega, by omega, ho, by rw [cO_cl]; exact hO, fun _ => by omega⟩
                      · exact absurd c_181 (by decide)
                    · skip
                      refine q_calli (as := [.int (nI 0), .int (nI 9999)]) (rest := []) (v := .int (nI 0)) (M1 := rf_mk M io_7 sg) iv_13_v261 na_1_206 o_206 hM rfl (show (0 : Nat) ≤ 8 by decide) dc_14_24_178 (hE_7) ?_
                      refine r_ifne (t := 186) (by decide) dc_14_24_181 (fun c_181 => ?_) (fun c_181 => ?_)
                      · exact absurd c_181 (by decide)
                      · skip
                        refine r_iconst (v := nI 0) (by decide) dc_14_24_184 ?_
                        refine r_zret rfl (by decide) dc_14_24_185 ?_
                        exact ⟨_, _, _, Or.inr ⟨_, (Option.some.inj ((Eq.symm ((if_neg c_21).trans ((if_neg (fun z => c_66 z.1)).trans ((if_neg (fun z => z.elim c_97 (by omega))).trans ((if_neg (by rw [show sgo (chr sg0 sz (p + 1)) = nI 0 from if_pos c_138]; decide)).trans (by rw [hr_7])))))).trans hr)).symm, rfl, h26_7, hF_7⟩, rfl⟩
                  · skip
                    refine r_iload_n rfl dc_14_24_141 ?_
                    refine r_bipush (v := nI 62) (by decide) dc_14_24_142 ?_
                    refine r_nceq (t := 163) (by omega) (by omega) (by decide) dc_14_24_144 (fun c_144 => ?_) (fun c_144 => ?_)
                    · skip
                      refine r_aload_n rfl dc_14_24_163 ?_
                      refine r_aload_n rfl dc_14_24_164 ?_
                      refine q_get (v := .int (nI (p + 1))) rx_216 hM (congrArg (fun z => some (Value.int z)) (QS_at (hQ) (p + 1)).1.1) dc_14_24_165 ?_
                      refine r_iconst (v := nI 1) (by decide) dc_14_24_168 ?_
                      refine r_iadd (v := nI (p + 1 + 1)) (nI_add _ _) dc_14_24_169 ?_
                      refine q_put rx_216 (by decide +kernel) (by decide +kernel) (by decide) (rs_24 _) hM dc_14_24_170 ?_
                      refine r_aload_n rfl dc_14_24_173 ?_
                      refine r_iconst (v := nI 0) (by decide) dc_14_24_174 ?_
                      refine r_sipush (v := nI 9999) (by decide) dc_14_24_175 ?_
                      rcases w_num hM (QS_at (QS_at (hQ) (p + 1)) (p + 1 + 1)) (by omega) (by omega) (lo := 0) (hi := 9999) (by omega) (by omega) with ⟨io_10, v_10, e_10, hr_10, hQ_10, h47_10, hE_10⟩ | ⟨io_10, f_10, hr_10, h26_10, hF_10, hE_10⟩
                      · skip
                        have hl_n10 := rn_le (chr_z sg0 sz) hr_10
                        refine q_calli (as := [.int (nI 0), .int (nI 9999)]) (rest := []) (v := .int (nI 1)) (M1 := rf_mk M io_10 sg) iv_13_v261 na_1_206 o_206 hM rfl (show (0 : Nat) ≤ 8 by decide) dc_14_24_178 (hE_10) ?_
                        refine r_ifne (t := 186) (by decide) dc_14_24_181 (fun c_181 => ?_) (fun c_181 => ?_)
                        · skip
                          have hsk : sgo (chr sg0 sz (p + 1)) = nI 1 := (if_neg c_138).trans (if_pos c_144)
                          have hsy : ¬ sgo (chr sg0 sz (p + 1)) = -1 := by rw [hsk]; decide
                          refine r_aload_n rfl dc_14_24_186 ?_
                          refine r_ldc_w (v := nI 100000) nr_13_264 dc_14_24_187 ?_
                          refine r_iload rfl dc_14_24_190 ?_
                          refine r_imul (v := (nI 100000) * (lof (chr sg0 sz p))) (rfl) dc_14_24_192 ?_
                          refine r_sipush (v := nI 10000) (by decide) dc_14_24_193 ?_
                          refine r_iload_n rfl dc_14_24_196 ?_
                          refine r_bipush (v := nI 60) (by decide) dc_14_24_197 ?_
                          refine r_ncne (t := 206) (by omega) (by omega) (by decide) dc_14_24_199 (fun c_199 => ?_) (fun c_199 => ?_)
                          · skip
                            refine r_iload_n rfl dc_14_24_206 ?_
                            refine r_bipush (v := nI 62) (by decide) dc_14_24_207 ?_
                            refine r_ncne (t := 216) (by omega) (by omega) (by decide) dc_14_24_209 (fun c_209 => ?_) (fun c_209 => ?_)
                            · omega
                            · skip
                              refine r_iconst (v := nI 1) (by decide) dc_14_24_212 ?_
                              refine r_goto (t := 217) (by decide) dc_14_24_213 ?_
                              refine r_imul (v := nI 10000) (by decide) dc_14_24_217 ?_
                              refine r_iadd (v := ((nI 100000) * (lof (chr sg0 sz p))) + (nI 10000)) (rfl) dc_14_24_218 ?_
                              refine r_aload_n rfl dc_14_24_219 ?_
                              refine q_get (v := .int (nI v_10)) rx_229 hM (congrArg (fun z => some (Value.int z)) (h47_10)) dc_14_24_220 ?_
                              refine r_iadd (v := nI (cmc (chr sg0 sz p) (chr sg0 sz (p + 1)) v_10)) (cm_e hc c_97 hsk (by decide) (by decide)) dc_14_24_223 ?_
                              obtain ⟨io_11, sg_11, hQ_11, hE_11⟩ := w_says hM (hQ_10) (by omega) (w := (cmc (chr sg0 sz p) (chr sg0 sz (p + 1)) v_10)) (cm_le hc (by omega))
                              refine q_callv (as := [.int (nI (cmc (chr sg0 sz p) (chr sg0 sz (p + 1)) v_10))]) (rest := []) (M1 := rf_mk M io_11 sg_11) iv_13_v250 na_1_208 o_208 hM rfl (show (0 : Nat) ≤ 8 by decide) dc_14_24_224 (mm_Ev_up (by decide : 1 ≤ 3) (hE_11)) ?_
                              refine r_aload_n rfl dc_14_24_227 ?_
                              refine r_iconst (v := nI 3) (by decide) dc_14_24_228 ?_
                              have hs_12 : ((cmc (chr sg0 sz p) (chr sg0 sz (p + 1)) v_10) :: S).length = S.length + 1 := rfl
                              have hl_12 := cl_len 3 W ((cmc (chr sg0 sz p) (chr sg0 sz (p + 1)) v_10) :: S)
                              obtain ⟨io_12, sg_12, hQ_12, hE_12⟩ := w_closes hM (hQ_11) (k := 3) (by decide) (by omega)
                              refine q_callv (as := [.int (nI 3)]) (rest := []) (M1 := rf_mk M io_12 sg_12) iv_13_v265 na_1_209 o_209 hM rfl (show (0 : Nat) ≤ 8 by decide) dc_14_24_229 (mm_Ev_up (by decide : 2 ≤ 3) (hE_12)) ?_
                              refine r_iconst (v := nI 0) (by decide) dc_14_24_232 ?_
                              refine r_istore_n (ls' := [(2, .int (nI 0)), (3, .int (nI (chr sg0 sz (p + 1)))), (4, .int (lof (chr sg0 sz p))), (1, .int (nI o)), (0, .ref 100)]) (by decide) rfl dc_14_24_233 ?_
                              refine r_goto (t := 358) (by decide) dc_14_24_234 ?_
                              refine r_goto (t := 9) (by decide) dc_14_24_358 ?_
                              refine r_ls [(2, .int (nI 0)), (1, .int (nI o)), (0, .ref 100)] (mm_ndk_of [2, 1, 0] rfl (by decide)) (mm_sub_cons rfl (mm_sub_cons rfl (mm_sub_cons rfl (mm_sub_nil _)))) ?_
                              exact ih e_10 o false _ _ _ _ (Eq.trans (Eq.symm ((if_neg c_21).trans ((if_neg (fun z => c_66 z.1)).trans ((if_neg (fun z => z.elim c_97 (by omega))).trans ((if_neg hsy).trans (by rw [hr_10])))))) hr) ⟨hQ_12, by rw [cl_len]; show W.length + (S.length + 1) ≤ _; omega, by omega, ho, by rw [cO_cl]; exact hO, fun _ => by omega⟩
                          · omega
                        · exact absurd c_181 (by decide)
                      · skip
                        refine q_calli (as := [.int (nI 0), .int (nI 9999)]) (rest := []) (v := .int (nI 0)) (M1 := rf_mk M io_10 sg) iv_13_v261 na_1_206 o_206 hM rfl (show (0 : Nat) ≤ 8 by decide) dc_14_24_178 (hE_10) ?_
                        refine r_ifne (t := 186) (by decide) dc_14_24_181 (fun c_181 => ?_) (fun c_181 => ?_)
                        · exact absurd c_181 (by decide)
                        · skip
                          refine r_iconst (v := nI 0) (by decide) dc_14_24_184 ?_
                          refine r_zret rfl (by decide) dc_14_24_185 ?_
                          exact ⟨_, _, _, Or.inr ⟨_, (Option.some.inj ((Eq.symm ((if_neg c_21).trans ((if_neg (fun z => c_66 z.1)).trans ((if_neg (fun z => z.elim c_97 (by omega))).trans ((if_neg (by rw [show sgo (chr sg0 sz (p + 1)) = nI 1 from (if_neg c_138).trans (if_pos c_144)]; decide)).trans (by rw [hr_10])))))).trans hr)).symm, rfl, h26_10, hF_10⟩, rfl⟩
                    · skip
                      refine r_iload_n rfl dc_14_24_147 ?_
                      refine r_bipush (v := nI 61) (by decide) dc_14_24_148 ?_
                      refine r_nceq (t := 163) (by omega) (by omega) (by decide) dc_14_24_150 (fun c_150 => ?_) (fun c_150 => ?_)
                      · skip
                        refine r_aload_n rfl dc_14_24_163 ?_
                        refine r_aload_n rfl dc_14_24_164 ?_
                        refine q_get (v := .int (nI (p + 1))) rx_216 hM (congrArg (fun z => some (Value.int z)) (QS_at (hQ) (p + 1)).1.1) dc_14_24_165 ?_
                        refine r_iconst (v := nI 1) (by decide) dc_14_24_168 ?_
                        refine r_iadd (v := nI (p + 1 + 1)) (nI_add _ _) dc_14_24_169 ?_
                        refine q_put rx_216 (by decide +kernel) (by decide +kernel) (by decide) (rs_24 _) hM dc_14_24_170 ?_
                        refine r_aload_n rfl dc_14_24_173 ?_
                        refine r_iconst (v := nI 0) (by decide) dc_14_24_174 ?_
                        refine r_sipush (v := nI 9999) (by decide) dc_14_24_175 ?_
                        rcases w_num hM (QS_at (QS_at (hQ) (p + 1)) (p + 1 + 1)) (by omega) (by omega) (lo := 0) (hi := 9999) (by omega) (by omega) with ⟨io_13, v_13, e_13, hr_13, hQ_13, h47_13, hE_13⟩ | ⟨io_13, f_13, hr_13, h26_13, hF_13, hE_13⟩
                        · skip
                          have hl_n13 := rn_le (chr_z sg0 sz) hr_13
                          refine q_calli (as := [.int (nI 0), .int (nI 9999)]) (rest := []) (v := .int (nI 1)) (M1 := rf_mk M io_13 sg) iv_13_v261 na_1_206 o_206 hM rfl (show (0 : Nat) ≤ 8 by decide) dc_14_24_178 (hE_13) ?_
                          refine r_ifne (t := 186) (by decide) dc_14_24_181 (fun c_181 => ?_) (fun c_181 => ?_)
                          · skip
                            have hsk : sgo (chr sg0 sz (p + 1)) = nI 2 := (if_neg c_138).trans ((if_neg c_144).trans (if_pos c_150))
                            have hsy : ¬ sgo (chr sg0 sz (p + 1)) = -1 := by rw [hsk]; decide
                            refine r_aload_n rfl dc_14_24_186 ?_
                            refine r_ldc_w (v := nI 100000) nr_13_264 dc_14_24_187 ?_
                            refine r_iload rfl dc_14_24_190 ?_
                            refine r_imul (v := (nI 100000) * (lof (chr sg0 sz p))) (rfl) dc_14_24_192 ?_
                            refine r_sipush (v := nI 10000) (by decide) dc_14_24_193 ?_
                            refine r_iload_n rfl dc_14_24_196 ?_
                            refine r_bipush (v := nI 60) (by decide) dc_14_24_197 ?_
                            refine r_ncne (t := 206) (by omega) (by omega) (by decide) dc_14_24_199 (fun c_199 => ?_) (fun c_199 => ?_)
                            · skip
                              refine r_iload_n rfl dc_14_24_206 ?_
                              refine r_bipush (v := nI 62) (by decide) dc_14_24_207 ?_
                              refine r_ncne (t := 216) (by omega) (by omega) (by decide) dc_14_24_209 (fun c_209 => ?_) (fun c_209 => ?_)
                              · skip
                                refine r_iconst (v := nI 2) (by decide) dc_14_24_216 ?_
                                refine r_imul (v := nI 20000) (by decide) dc_14_24_217 ?_
                                refine r_iadd (v := ((nI 100000) * (lof (chr sg0 sz p))) + (nI 20000)) (rfl) dc_14_24_218 ?_
                                refine r_aload_n rfl dc_14_24_219 ?_
                                refine q_get (v := .int (nI v_13)) rx_229 hM (congrArg (fun z => some (Value.int z)) (h47_13)) dc_14_24_220 ?_
                                refine r_iadd (v := nI (cmc (chr sg0 sz p) (chr sg0 sz (p + 1)) v_13)) (cm_e hc c_97 hsk (by decide) (by decide)) dc_14_24_223 ?_
                                obtain ⟨io_14, sg_14, hQ_14, hE_14⟩ := w_says hM (hQ_13) (by omega) (w := (cmc (chr sg0 sz p) (chr sg0 sz (p + 1)) v_13)) (cm_le hc (by omega))
                                refine q_callv (as := [.int (nI (cmc (chr sg0 sz p) (chr sg0 sz (p + 1)) v_13))]) (rest := []) (M1 := rf_mk M io_14 sg_14) iv_13_v250 na_1_208 o_208 hM rfl (show (0 : Nat) ≤ 8 by decide) dc_14_24_224 (mm_Ev_up (by decide : 1 ≤ 3) (hE_14)) ?_
                                refine r_aload_n rfl dc_14_24_227 ?_
                                refine r_iconst (v := nI 3) (by decide) dc_14_24_228 ?_
                                have hs_15 : ((cmc (chr sg0 sz p) (chr sg0 sz (p + 1)) v_13) :: S).length = S.length + 1 := rfl
                                have hl_15 := cl_len 3 W ((cmc (chr sg0 sz p) (chr sg0 sz (p + 1)) v_13) :: S)
                                obtain ⟨io_15, sg_15, hQ_15, hE_15⟩ := w_closes hM (hQ_14) (k := 3) (by decide) (by omega)
                                refine q_callv (as := [.int (nI 3)]) (rest := []) (M1 := rf_mk M io_15 sg_15) iv_13_v265 na_1_209 o_209 hM rfl (show (0 : Nat) ≤ 8 by decide) dc_14_24_229 (mm_Ev_up (by decide : 2 ≤ 3) (hE_15)) ?_
                                refine r_iconst (v := nI 0) (by decide) dc_14_24_232 ?_
                                refine r_istore_n (ls' := [(2, .int (nI 0)), (3, .int (nI (chr sg0 sz (p + 1)))), (4, .int (lof (chr sg0 sz p))), (1, .int (nI o)), (0, .ref 100)]) (by decide) rfl dc_14_24_233 ?_
                                refine r_goto (t := 358) (by decide) dc_14_24_234 ?_
                                refine r_goto (t := 9) (by decide) dc_14_24_358 ?_
                                refine r_ls [(2, .int (nI 0)), (1, .int (nI o)), (0, .ref 100)] (mm_ndk_of [2, 1, 0] rfl (by decide)) (mm_sub_cons rfl (mm_sub_cons rfl (mm_sub_cons rfl (mm_sub_nil _)))) ?_
                                exact ih e_13 o false _ _ _ _ (Eq.trans (Eq.symm ((if_neg c_21).trans ((if_neg (fun z => c_66 z.1)).trans ((if_neg (fun z => z.elim c_97 (by omega))).trans ((if_neg hsy).trans (by rw [hr_13])))))) hr) ⟨hQ_15, by rw [cl_len]; show W.length + (S.length + 1) ≤ _; omega, by omega, ho, by rw [cO_cl]; exact hO, fun _ => by omega⟩
                              · omega
                            · omega
                          · exact absurd c_181 (by decide)
                        · skip
                          refine q_calli (as := [.int (nI 0), .int (nI 9999)]) (rest := []) (v := .int (nI 0)) (M1 := rf_mk M io_13 sg) iv_13_v261 na_1_206 o_206 hM rfl (show (0 : Nat) ≤ 8 by decide) dc_14_24_178 (hE_13) ?_
                          refine r_ifne (t := 186) (by decide) dc_14_24_181 (fun c_181 => ?_) (fun c_181 => ?_)
                          · exact absurd c_181 (by decide)
                          · skip
                            refine r_iconst (v := nI 0) (by decide) dc_14_24_184 ?_
                            refine r_zret rfl (by decide) dc_14_24_185 ?_
                            exact ⟨_, _, _, Or.inr ⟨_, (Option.some.inj ((Eq.symm ((if_neg c_21).trans ((if_neg (fun z => c_66 z.1)).trans ((if_neg (fun z => z.elim c_97 (by omega))).trans ((if_neg (by rw [show sgo (chr sg0 sz (p + 1)) = nI 2 from (if_neg c_138).trans ((if_neg c_144).trans (if_pos c_150))]; decide)).trans (by rw [hr_13])))))).trans hr)).symm, rfl, h26_13, hF_13⟩, rfl⟩
                      · skip
                        refine r_aload_n rfl dc_14_24_153 ?_
                        refine r_iconst (v := nI 1) (by decide) dc_14_24_154 ?_
                        refine r_aload_n rfl dc_14_24_155 ?_
                        refine q_get (v := .int (nI (p + 1))) rx_216 hM (congrArg (fun z => some (Value.int z)) (QS_at (hQ) (p + 1)).1.1) dc_14_24_156 ?_
                        refine q_calli (as := [.int (nI 1), .int (nI (p + 1))]) (rest := []) (v := .int (nI 0)) (M1 := rf_mk M (va_up (va_up io 24 (nI (p + 1))) 26 (-nI (100 * 1 + (p + 1)))) sg) iv_13_v236 na_1_203 o_203 hM rfl (show (0 : Nat) ≤ 8 by decide) dc_14_24_159 (mm_Ev_up (by decide : 1 ≤ 3) (c_wrong M hM (va_up io 24 (nI (p + 1))) (sg) 1 (p + 1))) ?_
                        refine r_zret rfl (by decide) dc_14_24_162 ?_
                        exact ⟨_, _, _, Or.inr ⟨_, (Option.some.inj ((Eq.symm ((if_neg c_21).trans ((if_neg (fun z => c_66 z.1)).trans ((if_neg (fun z => z.elim c_97 (by omega))).trans (if_pos ((if_neg c_138).trans ((if_neg c_144).trans (if_neg c_150)))))))).trans hr)).symm, rfl, rfl, FrR_io (QS_at (hQ) (p + 1)).2 (by omega) _⟩, rfl⟩
                · skip
                  refine r_aload_n rfl dc_14_24_104 ?_
                  refine r_iconst (v := nI 1) (by decide) dc_14_24_105 ?_
                  refine r_aload_n rfl dc_14_24_106 ?_
                  refine q_get (v := .int (nI p)) rx_216 hM (congrArg (fun z => some (Value.int z)) (hQ).1.1) dc_14_24_107 ?_
                  refine q_calli (as := [.int (nI 1), .int (nI p)]) (rest := []) (v := .int (nI 0)) (M1 := rf_mk M (va_up io 26 (-nI (100 * 1 + p))) sg) iv_13_v236 na_1_203 o_203 hM rfl (show (0 : Nat) ≤ 8 by decide) dc_14_24_110 (mm_Ev_up (by decide : 1 ≤ 3) (c_wrong M hM (io) (sg) 1 p)) ?_
                  refine r_zret rfl (by decide) dc_14_24_113 ?_
                  exact ⟨_, _, _, Or.inr ⟨_, (Option.some.inj ((Eq.symm ((if_neg c_21).trans ((if_neg (fun z => c_66 z.1)).trans (if_pos (Or.inr (by omega)))))).trans hr)).symm, rfl, rfl, FrR_io (hQ).2 (by omega) _⟩, rfl⟩
            · skip
              refine r_iload_n rfl dc_14_24_69 ?_
              refine r_nzle (t := 92) (by omega) (by decide) dc_14_24_70 (fun c_70 => ?_) (fun c_70 => ?_)
              · skip
                refine r_iload_n rfl dc_14_24_92 ?_
                refine q_calls (as := [.int (nI (chr sg0 sz p))]) (rest := []) (v := .int (lof (chr sg0 sz p))) iv_13_s258 na_0_205 rfl (show (0 : Nat) ≤ 8 by decide) dc_14_24_93 (mm_Ev_up (by decide : 1 ≤ 3) (c_letterOf _ (chr sg0 sz p) hc)) ?_
                refine r_iconst (v := -1) (by decide) dc_14_24_96 ?_
                refine r_iceq (t := 104) (by decide) dc_14_24_97 (fun c_97 => ?_) (fun c_97 => ?_)
                · skip
                  refine r_aload_n rfl dc_14_24_104 ?_
                  refine r_iconst (v := nI 1) (by decide) dc_14_24_105 ?_
                  refine r_aload_n rfl dc_14_24_106 ?_
                  refine q_get (v := .int (nI p)) rx_216 hM (congrArg (fun z => some (Value.int z)) (hQ).1.1) dc_14_24_107 ?_
                  refine q_calli (as := [.int (nI 1), .int (nI p)]) (rest := []) (v := .int (nI 0)) (M1 := rf_mk M (va_up io 26 (-nI (100 * 1 + p))) sg) iv_13_v236 na_1_203 o_203 hM rfl (show (0 : Nat) ≤ 8 by decide) dc_14_24_110 (mm_Ev_up (by decide : 1 ≤ 3) (c_wrong M hM (io) (sg) 1 p)) ?_
                  refine r_zret rfl (by decide) dc_14_24_113 ?_
                  exact ⟨_, _, _, Or.inr ⟨_, (Option.some.inj ((Eq.symm ((if_neg c_21).trans ((if_neg (fun z => absurd z.2 (by omega))).trans (if_pos (Or.inl c_97))))).trans hr)).symm, rfl, rfl, FrR_io (hQ).2 (by omega) _⟩, rfl⟩
                · skip
                  refine r_iload_n rfl dc_14_24_100 ?_
                  refine r_nzne (t := 114) (by omega) (by decide) dc_14_24_101 (fun c_101 => ?_) (fun c_101 => ?_)
                  · skip
                    refine r_iload_n rfl dc_14_24_114 ?_
                    refine q_calls (as := [.int (nI (chr sg0 sz p))]) (rest := []) (v := .int (lof (chr sg0 sz p))) iv_13_s258 na_0_205 rfl (show (0 : Nat) ≤ 8 by decide) dc_14_24_115 (mm_Ev_up (by decide : 1 ≤ 3) (c_letterOf _ (chr sg0 sz p) hc)) ?_
                    refine r_istore (ls' := [(4, .int (lof (chr sg0 sz p))), (3, .int (nI (chr sg0 sz p))), (2, .int (nI 1)), (1, .int (nI o)), (0, .ref 100)]) (by decide) rfl dc_14_24_118 ?_
                    refine r_aload_n rfl dc_14_24_120 ?_
                    refine r_aload_n rfl dc_14_24_121 ?_
                    refine q_get (v := .int (nI p)) rx_216 hM (congrArg (fun z => some (Value.int z)) (hQ).1.1) dc_14_24_122 ?_
                    refine r_iconst (v := nI 1) (by decide) dc_14_24_125 ?_
                    refine r_iadd (v := nI (p + 1)) (nI_add _ _) dc_14_24_126 ?_
                    refine q_put rx_216 (by decide +kernel) (by decide +kernel) (by decide) (rs_24 _) hM dc_14_24_127 ?_
                    refine r_aload_n rfl dc_14_24_130 ?_
                    refine q_calli (as := []) (rest := []) (v := .int (nI (chr sg0 sz (p + 1)))) (M1 := rf_mk M (va_up io 24 (nI (p + 1))) sg) iv_13_v222 na_1_201 o_201 hM rfl (show (0 : Nat) ≤ 8 by decide) dc_14_24_131 (mm_Ev_up (by decide : 1 ≤ 3) (w_sign hM (QS_at (hQ) (p + 1)) (by omega) (by omega))) ?_
                    refine r_istore_n (ls' := [(3, .int (nI (chr sg0 sz (p + 1)))), (4, .int (lof (chr sg0 sz p))), (2, .int (nI 1)), (1, .int (nI o)), (0, .ref 100)]) (by decide) rfl dc_14_24_134 ?_
                    refine r_iload_n rfl dc_14_24_135 ?_
                    refine r_bipush (v := nI 60) (by decide) dc_14_24_136 ?_
                    refine r_nceq (t := 163) (by omega) (by omega) (by decide) dc_14_24_138 (fun c_138 => ?_) (fun c_138 => ?_)
                    · skip
                      refine r_aload_n rfl dc_14_24_163 ?_
                      refine r_aload_n rfl dc_14_24_164 ?_
                      refine q_get (v := .int (nI (p + 1))) rx_216 hM (congrArg (fun z => some (Value.int z)) (QS_at (hQ) (p + 1)).1.1) dc_14_24_165 ?_
                      refine r_iconst (v := nI 1) (by decide) dc_14_24_168 ?_
                      refine r_iadd (v := nI (p + 1 + 1)) (nI_add _ _) dc_14_24_169 ?_
                      refine q_put rx_216 (by decide +kernel) (by decide +kernel) (by decide) (rs_24 _) hM dc_14_24_170 ?_
                      refine r_aload_n rfl dc_14_24_173 ?_
                      refine r_iconst (v := nI 0) (by decide) dc_14_24_174 ?_
                      refine r_sipush (v := nI 9999) (by decide) dc_14_24_175 ?_
                      rcases w_num hM (QS_at (QS_at (hQ) (p + 1)) (p + 1 + 1)) (by omega) (by omega) (lo := 0) (hi := 9999) (by omega) (by omega) with ⟨io_16, v_16, e_16, hr_16, hQ_16, h47_16, hE_16⟩ | ⟨io_16, f_16, hr_16, h26_16, hF_16, hE_16⟩
                      · skip
                        have hl_n16 := rn_le (chr_z sg0 sz) hr_16
                        refine q_calli (as := [.int (nI 0), .int (nI 9999)]) (rest := []) (v := .int (nI 1)) (M1 := rf_mk M io_16 sg) iv_13_v261 na_1_206 o_206 hM rfl (show (0 : Nat) ≤ 8 by decide) dc_14_24_178 (hE_16) ?_
                        refine r_ifne (t := 186) (by decide) dc_14_24_181 (fun c_181 => ?_) (fun c_181 => ?_)
                        · skip
                          have hsk : sgo (chr sg0 sz (p + 1)) = nI 0 := if_pos c_138
                          have hsy : ¬ sgo (chr sg0 sz (p + 1)) = -1 := by rw [hsk]; decide
                          refine r_aload_n rfl dc_14_24_186 ?_
                          refine r_ldc_w (v := nI 100000) nr_13_264 dc_14_24_187 ?_
                          refine r_iload rfl dc_14_24_190 ?_
                          refine r_imul (v := (nI 100000) * (lof (chr sg0 sz p))) (rfl) dc_14_24_192 ?_
                          refine r_sipush (v := nI 10000) (by decide) dc_14_24_193 ?_
                          refine r_iload_n rfl dc_14_24_196 ?_
                          refine r_bipush (v := nI 60) (by decide) dc_14_24_197 ?_
                          refine r_ncne (t := 206) (by omega) (by omega) (by decide) dc_14_24_199 (fun c_199 => ?_) (fun c_199 => ?_)
                          · omega
                          · skip
                            refine r_iconst (v := nI 0) (by decide) dc_14_24_202 ?_
                            refine r_goto (t := 217) (by decide) dc_14_24_203 ?_
                            refine r_imul (v := nI 0) (by decide) dc_14_24_217 ?_
                            refine r_iadd (v := ((nI 100000) * (lof (chr sg0 sz p))) + (nI 0)) (rfl) dc_14_24_218 ?_
                            refine r_aload_n rfl dc_14_24_219 ?_
                            refine q_get (v := .int (nI v_16)) rx_229 hM (congrArg (fun z => some (Value.int z)) (h47_16)) dc_14_24_220 ?_
                            refine r_iadd (v := nI (cmc (chr sg0 sz p) (chr sg0 sz (p + 1)) v_16)) (cm_e hc c_97 hsk (by decide) (by decide)) dc_14_24_223 ?_
                            obtain ⟨io_17, sg_17, hQ_17, hE_17⟩ := w_says hM (hQ_16) (by omega) (w := (cmc (chr sg0 sz p) (chr sg0 sz (p + 1)) v_16)) (cm_le hc (by omega))
                            refine q_callv (as := [.int (nI (cmc (chr sg0 sz p) (chr sg0 sz (p + 1)) v_16))]) (rest := []) (M1 := rf_mk M io_17 sg_17) iv_13_v250 na_1_208 o_208 hM rfl (show (0 : Nat) ≤ 8 by decide) dc_14_24_224 (mm_Ev_up (by decide : 1 ≤ 3) (hE_17)) ?_
                            refine r_aload_n rfl dc_14_24_227 ?_
                            refine r_iconst (v := nI 3) (by decide) dc_14_24_228 ?_
                            have hs_18 : ((cmc (chr sg0 sz p) (chr sg0 sz (p + 1)) v_16) :: S).length = S.length + 1 := rfl
                            have hl_18 := cl_len 3 W ((cmc (chr sg0 sz p) (chr sg0 sz (p + 1)) v_16) :: S)
                            obtain ⟨io_18, sg_18, hQ_18, hE_18⟩ := w_closes hM (hQ_17) (k := 3) (by decide) (by omega)
                            refine q_callv (as := [.int (nI 3)]) (rest := []) (M1 := rf_mk M io_18 sg_18) iv_13_v265 na_1_209 o_209 hM rfl (show (0 : Nat) ≤ 8 by decide) dc_14_24_229 (mm_Ev_up (by decide : 2 ≤ 3) (hE_18)) ?_
                            refine r_iconst (v := nI 0) (by decide) dc_14_24_232 ?_
                            refine r_istore_n (ls' := [(2, .int (nI 0)), (3, .int (nI (chr sg0 sz (p + 1)))), (4, .int (lof (chr sg0 sz p))), (1, .int (nI o)), (0, .ref 100)]) (by decide) rfl dc_14_24_233 ?_
                            refine r_goto (t := 358) (by decide) dc_14_24_234 ?_
                            refine r_goto (t := 9) (by decide) dc_14_24_358 ?_
                            refine r_ls [(2, .int (nI 0)), (1, .int (nI o)), (0, .ref 100)] (mm_ndk_of [2, 1, 0] rfl (by decide)) (mm_sub_cons rfl (mm_sub_cons rfl (mm_sub_cons rfl (mm_sub_nil _)))) ?_
                            exact ih e_16 o false _ _ _ _ (Eq.trans (Eq.symm ((if_neg c_21).trans ((if_neg (fun z => absurd z.2 (by omega))).trans ((if_neg (fun z => z.elim c_97 (by omega))).trans ((if_neg hsy).trans (by rw [hr_16])))))) hr) ⟨hQ_18, by rw [cl_len]; show W.length + (S.length + 1) ≤ _; omega, by omega, ho, by rw [cO_cl]; exact hO, fun _ => by omega⟩
                        · exact absurd c_181 (by decide)
                      · skip
                        refine q_calli (as := [.int (nI 0), .int (nI 9999)]) (rest := []) (v := .int (nI 0)) (M1 := rf_mk M io_16 sg) iv_13_v261 na_1_206 o_206 hM rfl (show (0 : Nat) ≤ 8 by decide) dc_14_24_178 (hE_16) ?_
                        refine r_ifne (t := 186) (by decide) dc_14_24_181 (fun c_181 => ?_) (fun c_181 => ?_)
                        · exact absurd c_181 (by decide)
                        · skip
                          refine r_iconst (v := nI 0) (by decide) dc_14_24_184 ?_
                          refine r_zret rfl (by decide) dc_14_24_185 ?_
                          exact ⟨_, _, _, Or.inr ⟨_, (Option.some.inj ((Eq.symm ((if_neg c_21).trans ((if_neg (fun z => absurd z.2 (by omega))).trans ((if_neg (fun z => z.elim c_97 (by omega))).trans ((if_neg (by rw [show sgo (chr sg0 sz (p + 1)) = nI 0 from if_pos c_138]; decide)).trans (by rw [hr_16])))))).trans hr)).symm, rfl, h26_16, hF_16⟩, rfl⟩
                    · skip
                      refine r_iload_n rfl dc_14_24_141 ?_
                      refine r_bipush (v := nI 62) (by decide) dc_14_24_142 ?_
                      refine r_nceq (t := 163) (by omega) (by omega) (by decide) dc_14_24_144 (fun c_144 => ?_) (fun c_144 => ?_)
                      · skip
                        refine r_aload_n rfl dc_14_24_163 ?_
                        refine r_aload_n rfl dc_14_24_164 ?_
                        refine q_get (v := .int (nI (p + 1))) rx_216 hM (congrArg (fun z => some (Value.int z)) (QS_at (hQ) (p + 1)).1.1) dc_14_24_165 ?_
                        refine r_iconst (v := nI 1) (by decide) dc_14_24_168 ?_
                        refine r_iadd (v := nI (p + 1 + 1)) (nI_add _ _) dc_14_24_169 ?_
                        refine q_put rx_216 (by decide +kernel) (by decide +kernel) (by decide) (rs_24 _) hM dc_14_24_170 ?_
                        refine r_aload_n rfl dc_14_24_173 ?_
                        refine r_iconst (v := nI 0) (by decide) dc_14_24_174 ?_
                        refine r_sipush (v := nI 9999) (by decide) dc_14_24_175 ?_
                        rcases w_num hM (QS_at (QS_at (hQ) (p + 1)) (p + 1 + 1)) (by omega) (by omega) (lo := 0) (hi := 9999) (by omega) (by omega) with ⟨io_19, v_19, e_19, hr_19, hQ_19, h47_19, hE_19⟩ | ⟨io_19, f_19, hr_19, h26_19, hF_19, hE_19⟩
                        · skip
                          have hl_n19 := rn_le (chr_z sg0 sz) hr_19
                          refine q_calli (as := [.int (nI 0), .int (nI 9999)]) (rest := []) (v := .int (nI 1)) (M1 := rf_mk M io_19 sg) iv_13_v261 na_1_206 o_206 hM rfl (show (0 : Nat) ≤ 8 by decide) dc_14_24_178 (hE_19) ?_
                          refine r_ifne (t := 186) (by decide) dc_14_24_181 (fun c_181 => ?_) (fun c_181 => ?_)
                          · skip
                            have hsk : sgo (chr sg0 sz (p + 1)) = nI 1 := (if_neg c_138).trans (if_pos c_144)
                            have hsy : ¬ sgo (chr sg0 sz (p + 1)) = -1 := by rw [hsk]; decide
                            refine r_aload_n rfl dc_14_24_186 ?_
                            refine r_ldc_w (v := nI 100000) nr_13_264 dc_14_24_187 ?_
                            refine r_iload rfl dc_14_24_190 ?_
                            refine r_imul (v := (nI 100000) * (lof (chr sg0 sz p))) (rfl) dc_14_24_192 ?_
                            refine r_sipush (v := nI 10000) (by decide) dc_14_24_193 ?_
                            refine r_iload_n rfl dc_14_24_196 ?_
                            refine r_bipush (v := nI 60) (by decide) dc_14_24_197 ?_
                            refine r_ncne (t := 206) (by omega) (by omega) (by decide) dc_14_24_199 (fun c_199 => ?_) (fun c_199 => ?_)
                            · skip
                              refine r_iload_n rfl dc_14_24_206 ?_
                              refine r_bipush (v := nI 62) (by decide) dc_14_24_207 ?_
                              refine r_ncne (t := 216) (by omega) (by omega) (by decide) dc_14_24_209 (fun c_209 => ?_) (fun c_209 => ?_)
                              · omega
                              · skip
                                refine r_iconst (v := nI 1) (by decide) dc_14_24_212 ?_
                                refine r_goto (t := 217) (by decide) dc_14_24_213 ?_
                                refine r_imul (v := nI 10000) (by decide) dc_14_24_217 ?_
                                refine r_iadd (v := ((nI 100000) * (lof (chr sg0 sz p))) + (nI 10000)) (rfl) dc_14_24_218 ?_
                                refine r_aload_n rfl dc_14_24_219 ?_
                                refine q_get (v := .int (nI v_19)) rx_229 hM (congrArg (fun z => some (Value.int z)) (h47_19)) dc_14_24_220 ?_
                                refine r_iadd (v := nI (cmc (chr sg0 sz p) (chr sg0 sz (p + 1)) v_19)) (cm_e hc c_97 hsk (by decide) (by decide)) dc_14_24_223 ?_
                                obtain ⟨io_20, sg_20, hQ_20, hE_20⟩ := w_says hM (hQ_19) (by omega) (w := (cmc (chr sg0 sz p) (chr sg0 sz (p + 1)) v_19)) (cm_le hc (by omega))
                                refine q_callv (as := [.int (nI (cmc (chr sg0 sz p) (chr sg0 sz (p + 1)) v_19))]) (rest := []) (M1 := rf_mk M io_20 sg_20) iv_13_v250 na_1_208 o_208 hM rfl (show (0 : Nat) ≤ 8 by decide) dc_14_24_224 (mm_Ev_up (by decide : 1 ≤ 3) (hE_20)) ?_
                                refine r_aload_n rfl dc_14_24_227 ?_
                                refine r_iconst (v := nI 3) (by decide) dc_14_24_228 ?_
                                have hs_21 : ((cmc (chr sg0 sz p) (chr sg0 sz (p + 1)) v_19) :: S).length = S.length + 1 := rfl
                                have hl_21 := cl_len 3 W ((cmc (chr sg0 sz p) (chr sg0 sz (p + 1)) v_19) :: S)
                                obtain ⟨io_21, sg_21, hQ_21, hE_21⟩ := w_closes hM (hQ_20) (k := 3) (by decide) (by omega)
                                refine q_callv (as := [.int (nI 3)]) (rest := []) (M1 := rf_mk M io_21 sg_21) iv_13_v265 na_1_209 o_209 hM rfl (show (0 : Nat) ≤ 8 by decide) dc_14_24_229 (mm_Ev_up (by decide : 2 ≤ 3) (hE_21)) ?_
                                refine r_iconst (v := nI 0) (by decide) dc_14_24_232 ?_
                                refine r_istore_n (ls' := [(2, .int (nI 0)), (3, .int (nI (chr sg0 sz (p + 1)))), (4, .int (lof (chr sg0 sz p))), (1, .int (nI o)), (0, .ref 100)]) (by decide) rfl dc_14_24_233 ?_
                                refine r_goto (t := 358) (by decide) dc_14_24_234 ?_
                                refine r_goto (t := 9) (by decide) dc_14_24_358 ?_
                                refine r_ls [(2, .int (nI 0)), (1, .int (nI o)), (0, .ref 100)] (mm_ndk_of [2, 1, 0] rfl (by decide)) (mm_sub_cons rfl (mm_sub_cons rfl (mm_sub_cons rfl (mm_sub_nil _)))) ?_
                                exact ih e_19 o false _ _ _ _ (Eq.trans (Eq.symm ((if_neg c_21).trans ((if_neg (fun z => absurd z.2 (by omega))).trans ((if_neg (fun z => z.elim c_97 (by omega))).trans ((if_neg hsy).trans (by rw [hr_19])))))) hr) ⟨hQ_21, by rw [cl_len]; show W.length + (S.length + 1) ≤ _; omega, by omega, ho, by rw [cO_cl]; exact hO, fun _ => by omega⟩
                            · omega
                          · exact absurd c_181 (by decide)
                        · skip
                          refine q_calli (as := [.int (nI 0), .int (nI 9999)]) (rest := []) (v := .int (nI 0)) (M1 := rf_mk M io_19 sg) iv_13_v261 na_1_206 o_206 hM rfl (show (0 : Nat) ≤ 8 by decide) dc_14_24_178 (hE_19) ?_
                          refine r_ifne (t := 186) (by decide) dc_14_24_181 (fun c_181 => ?_) (fun c_181 => ?_)
                          · exact absurd c_181 (by decide)
                          · skip
                            refine r_iconst (v := nI 0) (by decide) dc_14_24_184 ?_
                            refine r_zret rfl (by decide) dc_14_24_185 ?_
                            exact ⟨_, _, _, Or.inr ⟨_, (Option.some.inj ((Eq.symm ((if_neg c_21).trans ((if_neg (fun z => absurd z.2 (by omega))).trans ((if_neg (fun z => z.elim c_97 (by omega))).trans ((if_neg (by rw [show sgo (chr sg0 sz (p + 1)) = nI 1 from (if_neg c_138).trans (if_pos c_144)]; decide)).trans (by rw [hr_19])))))).trans hr)).symm, rfl, h26_19, hF_19⟩, rfl⟩
                      · skip
                        refine r_iload_n rfl dc_14_24_147 ?_
                        refine r_bipush (v := nI 61) (by decide) dc_14_24_148 ?_
                        refine r_nceq (t := 163) (by omega) (by omega) (by decide) dc_14_24_150 (fun c_150 => ?_) (fun c_150 => ?_)
                        · skip
                          refine r_aload_n rfl dc_14_24_163 ?_
                          refine r_aload_n rfl dc_14_24_164 ?_
                          refine q_get (v := .int (nI (p + 1))) rx_216 hM (congrArg (fun z => some (Value.int z)) (QS_at (hQ) (p + 1)).1.1) dc_14_24_165 ?_
                          refine r_iconst (v := nI 1) (by decide) dc_14_24_168 ?_
                          refine r_iadd (v := nI (p + 1 + 1)) (nI_add _ _) dc_14_24_169 ?_
                          refine q_put rx_216 (by decide +kernel) (by decide +kernel) (by decide) (rs_24 _) hM dc_14_24_170 ?_
                          refine r_aload_n rfl dc_14_24_173 ?_
                          refine r_iconst (v := nI 0) (by decide) dc_14_24_174 ?_
                          refine r_sipush (v := nI 9999) (by decide) dc_14_24_175 ?_
                          rcases w_num hM (QS_at (QS_at (hQ) (p + 1)) (p + 1 + 1)) (by omega) (by omega) (lo := 0) (hi := 9999) (by omega) (by omega) with ⟨io_22, v_22, e_22, hr_22, hQ_22, h47_22, hE_22⟩ | ⟨io_22, f_22, hr_22, h26_22, hF_22, hE_22⟩
                          · skip
                            have hl_n22 := rn_le (chr_z sg0 sz) hr_22
                            refine q_calli (as := [.int (nI 0), .int (nI 9999)]) (rest := []) (v := .int (nI 1)) (M1 := rf_mk M io_22 sg) iv_13_v261 na_1_206 o_206 hM rfl (show (0 : Nat) ≤ 8 by decide) dc_14_24_178 (hE_22) ?_
                            refine r_ifne (t := 186) (by decide) dc_14_24_181 (fun c_181 => ?_) (fun c_181 => ?_)
                            · skip
                              have hsk : sgo (chr sg0 sz (p + 1)) = nI 2 := (if_neg c_138).trans ((if_neg c_144).trans (if_pos c_150))
                              have hsy : ¬ sgo (chr sg0 sz (p + 1)) = -1 := by rw [hsk]; decide
                              refine r_aload_n rfl dc_14_24_186 ?_
                              refine r_ldc_w (v := nI 100000) nr_13_264 dc_14_24_187 ?_
                              refine r_iload rfl dc_14_24_190 ?_
                              refine r_imul (v := (nI 100000) * (lof (chr sg0 sz p))) (rfl) dc_14_24_192 ?_
                              refine r_sipush (v := nI 10000) (by decide) dc_14_24_193 ?_
                              refine r_iload_n rfl dc_14_24_196 ?_
                              refine r_bipush (v := nI 60) (by decide) dc_14_24_197 ?_
                              refine r_ncne (t := 206) (by omega) (by omega) (by decide) dc_14_24_199 (fun c_199 => ?_) (fun c_199 => ?_)
                              · skip
                                refine r_iload_n rfl dc_14_24_206 ?_
                                refine r_bipush (v := nI 62) (by decide) dc_14_24_207 ?_
                                refine r_ncne (t := 216) (by omega) (by omega) (by decide) dc_14_24_209 (fun c_209 => ?_) (fun c_209 => ?_)
                                · skip
                                  refine r_iconst (v := nI 2) (by decide) dc_14_24_216 ?_
                                  refine r_imul (v := nI 20000) (by decide) dc_14_24_217 ?_
                                  refine r_iadd (v := ((nI 100000) * (lof (chr sg0 sz p))) + (nI 20000)) (rfl) dc_14_24_218 ?_
                                  refine r_aload_n rfl dc_14_24_219 ?_
                                  refine q_get (v := .int (nI v_22)) rx_229 hM (congrArg (fun z => some (Value.int z)) (h47_22)) dc_14_24_220 ?_
                                  refine r_iadd (v := nI (cmc (chr sg0 sz p) (chr sg0 sz (p + 1)) v_22)) (cm_e hc c_97 hsk (by decide) (by decide)) dc_14_24_223 ?_
                                  obtain ⟨io_23, sg_23, hQ_23, hE_23⟩ := w_says hM (hQ_22) (by omega) (w := (cmc (chr sg0 sz p) (chr sg0 sz (p + 1)) v_22)) (cm_le hc (by omega))
                                  refine q_callv (as := [.int (nI (cmc (chr sg0 sz p) (chr sg0 sz (p + 1)) v_22))]) (rest := []) (M1 := rf_mk M io_23 sg_23) iv_13_v250 na_1_208 o_208 hM rfl (show (0 : Nat) ≤ 8 by decide) dc_14_24_224 (mm_Ev_up (by decide : 1 ≤ 3) (hE_23)) ?_
                                  refine r_aload_n rfl dc_14_24_227 ?_
                                  refine r_iconst (v := nI 3) (by decide) dc_14_24_228 ?_
                                  have hs_24 : ((cmc (chr sg0 sz p) (chr sg0 sz (p + 1)) v_22) :: S).length = S.length + 1 := rfl
                                  have hl_24 := cl_len 3 W ((cmc (chr sg0 sz p) (chr sg0 sz (p + 1)) v_22) :: S)
                                  obtain ⟨io_24, sg_24, hQ_24, hE_24⟩ := w_closes hM (hQ_23) (k := 3) (by decide) (by omega)
                                  refine q_callv (as := [.int (nI 3)]) (rest := []) (M1 := rf_mk M io_24 sg_24) iv_13_v265 na_1_209 o_209 hM rfl (show (0 : Nat) ≤ 8 by decide) dc_14_24_229 (mm_Ev_up (by decide : 2 ≤ 3) (hE_24)) ?_
                                  refine r_iconst (v := nI 0) (by decide) dc_14_24_232 ?_
                                  refine r_istore_n (ls' := [(2, .int (nI 0)), (3, .int (nI (chr sg0 sz (p + 1)))), (4, .int (lof (chr sg0 sz p))), (1, .int (nI o)), (0, .ref 100)]) (by decide) rfl dc_14_24_233 ?_
                                  refine r_goto (t := 358) (by decide) dc_14_24_234 ?_
                                  refine r_goto (t := 9) (by decide) dc_14_24_358 ?_
                                  refine r_ls [(2, .int (nI 0)), (1, .int (nI o)), (0, .ref 100)] (mm_ndk_of [2, 1, 0] rfl (by decide)) (mm_sub_cons rfl (mm_sub_cons rfl (mm_sub_cons rfl (mm_sub_nil _)))) ?_
                                  exact ih e_22 o false _ _ _ _ (Eq.trans (Eq.symm ((if_neg c_21).trans ((if_neg (fun z => absurd z.2 (by omega))).trans ((if_neg (fun z => z.elim c_97 (by omega))).trans ((if_neg hsy).trans (by rw [hr_22])))))) hr) ⟨hQ_24, by rw [cl_len]; show W.length + (S.length + 1) ≤ _; omega, by omega, ho, by rw [cO_cl]; exact hO, fun _ => by omega⟩
                                · omega
                              · omega
                            · exact absurd c_181 (by decide)
                          · skip
                            refine q_calli (as := [.int (nI 0), .int (nI 9999)]) (rest := []) (v := .int (nI 0)) (M1 := rf_mk M io_22 sg) iv_13_v261 na_1_206 o_206 hM rfl (show (0 : Nat) ≤ 8 by decide) dc_14_24_178 (hE_22) ?_
                            refine r_ifne (t := 186) (by decide) dc_14_24_181 (fun c_181 => ?_) (fun c_181 => ?_)
                            · exact absurd c_181 (by decide)
                            · skip
                              refine r_iconst (v := nI 0) (by decide) dc_14_24_184 ?_
                              refine r_zret rfl (by decide) dc_14_24_185 ?_
                              exact ⟨_, _, _, Or.inr ⟨_, (Option.some.inj ((Eq.symm ((if_neg c_21).trans ((if_neg (fun z => absurd z.2 (by omega))).trans ((if_neg (fun z => z.elim c_97 (by omega))).trans ((if_neg (by rw [show sgo (chr sg0 sz (p + 1)) = nI 2 from (if_neg c_138).trans ((if_neg c_144).trans (if_pos c_150))]; decide)).trans (by rw [hr_22])))))).trans hr)).symm, rfl, h26_22, hF_22⟩, rfl⟩
                        · skip
                          refine r_aload_n rfl dc_14_24_153 ?_
                          refine r_iconst (v := nI 1) (by decide) dc_14_24_154 ?_
                          refine r_aload_n rfl dc_14_24_155 ?_
                          refine q_get (v := .int (nI (p + 1))) rx_216 hM (congrArg (fun z => some (Value.int z)) (QS_at (hQ) (p + 1)).1.1) dc_14_24_156 ?_
                          refine q_calli (as := [.int (nI 1), .int (nI (p + 1))]) (rest := []) (v := .int (nI 0)) (M1 := rf_mk M (va_up (va_up io 24 (nI (p + 1))) 26 (-nI (100 * 1 + (p + 1)))) sg) iv_13_v236 na_1_203 o_203 hM rfl (show (0 : Nat) ≤ 8 by decide) dc_14_24_159 (mm_Ev_up (by decide : 1 ≤ 3) (c_wrong M hM (va_up io 24 (nI (p + 1))) (sg) 1 (p + 1))) ?_
                          refine r_zret rfl (by decide) dc_14_24_162 ?_
                          exact ⟨_, _, _, Or.inr ⟨_, (Option.some.inj ((Eq.symm ((if_neg c_21).trans ((if_neg (fun z => absurd z.2 (by omega))).trans ((if_neg (fun z => z.elim c_97 (by omega))).trans (if_pos ((if_neg c_138).trans ((if_neg c_144).trans (if_neg c_150)))))))).trans hr)).symm, rfl, rfl, FrR_io (QS_at (hQ) (p + 1)).2 (by omega) _⟩, rfl⟩
                  · skip
                    refine r_aload_n rfl dc_14_24_104 ?_
                    refine r_iconst (v := nI 1) (by decide) dc_14_24_105 ?_
                    refine r_aload_n rfl dc_14_24_106 ?_
                    refine q_get (v := .int (nI p)) rx_216 hM (congrArg (fun z => some (Value.int z)) (hQ).1.1) dc_14_24_107 ?_
                    refine q_calli (as := [.int (nI 1), .int (nI p)]) (rest := []) (v := .int (nI 0)) (M1 := rf_mk M (va_up io 26 (-nI (100 * 1 + p))) sg) iv_13_v236 na_1_203 o_203 hM rfl (show (0 : Nat) ≤ 8 by decide) dc_14_24_110 (mm_Ev_up (by decide : 1 ≤ 3) (c_wrong M hM (io) (sg) 1 p)) ?_
                    refine r_zret rfl (by decide) dc_14_24_113 ?_
                    exact ⟨_, _, _, Or.inr ⟨_, (Option.some.inj ((Eq.symm ((if_neg c_21).trans ((if_neg (fun z => absurd z.2 (by omega))).trans (if_pos (Or.inr (by omega)))))).trans hr)).symm, rfl, rfl, FrR_io (hQ).2 (by omega) _⟩, rfl⟩
              · skip
                refine r_aload_n rfl dc_14_24_73 ?_
                refine r_ldc (v := nI 1000002) nr_13_253 dc_14_24_74 ?_
                obtain ⟨io_25, sg_25, hQ_25, hE_25⟩ := w_holds hM (hQ) (by omega) (w := 1000002) (by decide)
                refine q_callv (as := [.int (nI 1000002)]) (rest := []) (M1 := rf_mk M io_25 sg_25) iv_13_v255 na_1_204 o_204 hM rfl (show (0 : Nat) ≤ 8 by decide) dc_14_24_76 (mm_Ev_up (by decide : 1 ≤ 3) (hE_25)) ?_
                refine r_aload_n rfl dc_14_24_79 ?_
                refine r_aload_n rfl dc_14_24_80 ?_
                refine q_get (v := .int (nI p)) rx_216 hM (congrArg (fun z => some (Value.int z)) (hQ_25).1.1) dc_14_24_81 ?_
                refine r_iconst (v := nI 1) (by decide) dc_14_24_84 ?_
                refine r_iadd (v := nI (p + 1)) (nI_add _ _) dc_14_24_85 ?_
                refine q_put rx_216 (by decide +kernel) (by decide +kernel) (by decide) (rs_24 _) hM dc_14_24_86 ?_
                refine r_goto (t := 358) (by decide) dc_14_24_89 ?_
                refine r_goto (t := 9) (by decide) dc_14_24_358 ?_
                refine r_ls [(2, .int (nI 1)), (1, .int (nI o)), (0, .ref 100)] (mm_ndk_of [2, 1, 0] rfl (by decide)) (mm_sub_cons rfl (mm_sub_cons rfl (mm_sub_cons rfl (mm_sub_nil _)))) ?_
                exact ih (p + 1) o true _ _ _ _ (Eq.trans (Eq.symm ((if_neg c_21).trans (if_pos ⟨c_66, by omega⟩))) hr) ⟨QS_at (hQ_25) (p + 1), by have h9 : (1000002 :: W).length = W.length + 1 := rfl; omega, by omega, ho, by have h9 : cO (1000002 :: W) = cO W := if_neg (by decide); omega, fun z => nomatch z⟩
          · skip
            refine r_iload_n rfl dc_14_24_24 ?_
            refine r_bipush (v := nI 6) (by decide) dc_14_24_25 ?_
            refine r_ncne (t := 40) (by omega) (by omega) (by decide) dc_14_24_27 (fun c_27 => ?_) (fun c_27 => ?_)
            · skip
              refine r_iload_n rfl dc_14_24_40 ?_
              refine r_iconst (v := nI 1) (by decide) dc_14_24_41 ?_
              refine r_iadd (v := nI (o + 1)) (nI_add _ _) dc_14_24_42 ?_
              refine r_istore_n (ls' := [(1, .int (nI (o + 1))), (3, .int (nI (chr sg0 sz p))), (2, .int (nI 1)), (0, .ref 100)]) (by decide) rfl dc_14_24_43 ?_
              refine r_aload_n rfl dc_14_24_44 ?_
              refine r_ldc (v := nI 1000003) nr_13_246 dc_14_24_45 ?_
              obtain ⟨io_26, sg_26, hQ_26, hE_26⟩ := w_holds hM (hQ) (by omega) (w := 1000003) (by decide)
              refine q_callv (as := [.int (nI 1000003)]) (rest := []) (M1 := rf_mk M io_26 sg_26) iv_13_v255 na_1_204 o_204 hM rfl (show (0 : Nat) ≤ 8 by decide) dc_14_24_47 (mm_Ev_up (by decide : 1 ≤ 3) (hE_26)) ?_
              refine r_aload_n rfl dc_14_24_50 ?_
              refine r_aload_n rfl dc_14_24_51 ?_
              refine q_get (v := .int (nI p)) rx_216 hM (congrArg (fun z => some (Value.int z)) (hQ_26).1.1) dc_14_24_52 ?_
              refine r_iconst (v := nI 1) (by decide) dc_14_24_55 ?_
              refine r_iadd (v := nI (p + 1)) (nI_add _ _) dc_14_24_56 ?_
              refine q_put rx_216 (by decide +kernel) (by decide +kernel) (by decide) (rs_24 _) hM dc_14_24_57 ?_
              refine r_goto (t := 358) (by decide) dc_14_24_60 ?_
              refine r_goto (t := 9) (by decide) dc_14_24_358 ?_
              refine r_ls [(2, .int (nI 1)), (1, .int (nI (o + 1))), (0, .ref 100)] (mm_ndk_of [2, 1, 0] rfl (by decide)) (mm_sub_cons rfl (mm_sub_cons rfl (mm_sub_cons rfl (mm_sub_nil _)))) ?_
              exact ih (p + 1) (o + 1) true _ _ _ _ (Eq.trans (Eq.symm ((if_pos c_21).trans (if_neg c_27))) hr) ⟨QS_at (hQ_26) (p + 1), by have h9 : (1000003 :: W).length = W.length + 1 := rfl; omega, by omega, by omega, by have h9 : cO (1000003 :: W) = cO W + 1 := if_pos rfl; omega, fun z => nomatch z⟩
            · skip
              refine r_aload_n rfl dc_14_24_30 ?_
              refine r_iconst (v := nI 3) (by decide) dc_14_24_31 ?_
              refine r_aload_n rfl dc_14_24_32 ?_
              refine q_get (v := .int (nI p)) rx_216 hM (congrArg (fun z => some (Value.int z)) (hQ).1.1) dc_14_24_33 ?_
              refine q_calli (as := [.int (nI 3), .int (nI p)]) (rest := []) (v := .int (nI 0)) (M1 := rf_mk M (va_up io 26 (-nI (100 * 3 + p))) sg) iv_13_v236 na_1_203 o_203 hM rfl (show (0 : Nat) ≤ 8 by decide) dc_14_24_36 (mm_Ev_up (by decide : 1 ≤ 3) (c_wrong M hM (io) (sg) 3 p)) ?_
              refine r_zret rfl (by decide) dc_14_24_39 ?_
              exact ⟨_, _, _, Or.inr ⟨_, (Option.some.inj ((Eq.symm ((if_pos c_21).trans (if_pos c_27))).trans hr)).symm, rfl, rfl, FrR_io (hQ).2 (by omega) _⟩, rfl⟩
  obtain ⟨z9, ⟨io2, sg2, v, p9, e9⟩, h9⟩ := hq9
  subst e9
  exact ⟨io2, sg2, v, p9, h9⟩
