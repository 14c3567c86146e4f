/-! the reference: meets -/
theorem dc_14_28_0 : decode prog_14_method_28_code 0 = .ok (.iconst 0, 1) := by decide +kernel
theorem dc_14_28_1 : decode prog_14_method_28_code 1 = .ok (.istore 6, 2) := by decide +kernel
theorem dc_14_28_3 : decode prog_14_method_28_code 3 = .ok (.bipush 80, 2) := by decide +kernel
theorem dc_14_28_5 : decode prog_14_method_28_code 5 = .ok (.iload_n 1, 1) := by decide +kernel
theorem dc_14_28_6 : decode prog_14_method_28_code 6 = .ok (.imul, 1) := by decide +kernel
theorem dc_14_28_7 : decode prog_14_method_28_code 7 = .ok (.istore 7, 2) := by decide +kernel
theorem dc_14_28_9 : decode prog_14_method_28_code 9 = .ok (.iload 7, 2) := by decide +kernel
theorem dc_14_28_11 : decode prog_14_method_28_code 11 = .ok (.bipush 80, 2) := by decide +kernel
theorem dc_14_28_13 : decode prog_14_method_28_code 13 = .ok (.iload_n 1, 1) := by decide +kernel
theorem dc_14_28_14 : decode prog_14_method_28_code 14 = .ok (.imul, 1) := by decide +kernel
theorem dc_14_28_15 : decode prog_14_method_28_code 15 = .ok (.aload_n 0, 1) := by decide +kernel
theorem dc_14_28_16 : decode prog_14_method_28_code 16 = .ok (.getfield 90, 3) := by decide +kernel
theorem dc_14_28_19 : decode prog_14_method_28_code 19 = .ok (.iload_n 1, 1) := by decide +kernel
theorem dc_14_28_20 : decode prog_14_method_28_code 20 = .ok (.iaload, 1) := by decide +kernel
theorem dc_14_28_21 : decode prog_14_method_28_code 21 = .ok (.iadd, 1) := by decide +kernel
theorem dc_14_28_22 : decode prog_14_method_28_code 22 = .ok (.if_icmp .ge 278, 3) := by decide +kernel
theorem dc_14_28_25 : decode prog_14_method_28_code 25 = .ok (.aload_n 0, 1) := by decide +kernel
theorem dc_14_28_26 : decode prog_14_method_28_code 26 = .ok (.getfield 87, 3) := by decide +kernel
theorem dc_14_28_29 : decode prog_14_method_28_code 29 = .ok (.iload 7, 2) := by decide +kernel
theorem dc_14_28_31 : decode prog_14_method_28_code 31 = .ok (.iaload, 1) := by decide +kernel
theorem dc_14_28_32 : decode prog_14_method_28_code 32 = .ok (.istore 8, 2) := by decide +kernel
theorem dc_14_28_34 : decode prog_14_method_28_code 34 = .ok (.iload 8, 2) := by decide +kernel
theorem dc_14_28_36 : decode prog_14_method_28_code 36 = .ok (.ldc 253, 2) := by decide +kernel
theorem dc_14_28_38 : decode prog_14_method_28_code 38 = .ok (.if_icmp .ne 32, 3) := by decide +kernel
theorem dc_14_28_41 : decode prog_14_method_28_code 41 = .ok (.aload_n 0, 1) := by decide +kernel
theorem dc_14_28_42 : decode prog_14_method_28_code 42 = .ok (.getfield 99, 3) := by decide +kernel
theorem dc_14_28_45 : decode prog_14_method_28_code 45 = .ok (.iload 6, 2) := by decide +kernel
theorem dc_14_28_47 : decode prog_14_method_28_code 47 = .ok (.iconst 1, 1) := by decide +kernel
theorem dc_14_28_48 : decode prog_14_method_28_code 48 = .ok (.isub, 1) := by decide +kernel
theorem dc_14_28_49 : decode prog_14_method_28_code 49 = .ok (.aload_n 0, 1) := by decide +kernel
theorem dc_14_28_50 : decode prog_14_method_28_code 50 = .ok (.getfield 99, 3) := by decide +kernel
theorem dc_14_28_53 : decode prog_14_method_28_code 53 = .ok (.iload 6, 2) := by decide +kernel
theorem dc_14_28_55 : decode prog_14_method_28_code 55 = .ok (.iconst 1, 1) := by decide +kernel
theorem dc_14_28_56 : decode prog_14_method_28_code 56 = .ok (.isub, 1) := by decide +kernel
theorem dc_14_28_57 : decode prog_14_method_28_code 57 = .ok (.baload, 1) := by decide +kernel
theorem dc_14_28_58 : decode prog_14_method_28_code 58 = .ok (.ifCond .ne 7, 3) := by decide +kernel
theorem dc_14_28_61 : decode prog_14_method_28_code 61 = .ok (.iconst 1, 1) := by decide +kernel
theorem dc_14_28_62 : decode prog_14_method_28_code 62 = .ok (.goto 4, 3) := by decide +kernel
theorem dc_14_28_65 : decode prog_14_method_28_code 65 = .ok (.iconst 0, 1) := by decide +kernel
theorem dc_14_28_66 : decode prog_14_method_28_code 66 = .ok (.bastore, 1) := by decide +kernel
theorem dc_14_28_67 : decode prog_14_method_28_code 67 = .ok (.goto 227, 3) := by decide +kernel
theorem dc_14_28_70 : decode prog_14_method_28_code 70 = .ok (.iload 8, 2) := by decide +kernel
theorem dc_14_28_72 : decode prog_14_method_28_code 72 = .ok (.ldc 254, 2) := by decide +kernel
theorem dc_14_28_74 : decode prog_14_method_28_code 74 = .ok (.if_icmp .eq 11, 3) := by decide +kernel
theorem dc_14_28_77 : decode prog_14_method_28_code 77 = .ok (.iload 8, 2) := by decide +kernel
theorem dc_14_28_79 : decode prog_14_method_28_code 79 = .ok (.ldc_w 268, 3) := by decide +kernel
theorem dc_14_28_82 : decode prog_14_method_28_code 82 = .ok (.if_icmp .ne 85, 3) := by decide +kernel
theorem dc_14_28_85 : decode prog_14_method_28_code 85 = .ok (.iload 6, 2) := by decide +kernel
theorem dc_14_28_87 : decode prog_14_method_28_code 87 = .ok (.iconst 1, 1) := by decide +kernel
theorem dc_14_28_88 : decode prog_14_method_28_code 88 = .ok (.isub, 1) := by decide +kernel
theorem dc_14_28_89 : decode prog_14_method_28_code 89 = .ok (.istore 6, 2) := by decide +kernel
theorem dc_14_28_91 : decode prog_14_method_28_code 91 = .ok (.aload_n 0, 1) := by decide +kernel
theorem dc_14_28_92 : decode prog_14_method_28_code 92 = .ok (.getfield 99, 3) := by decide +kernel
theorem dc_14_28_95 : decode prog_14_method_28_code 95 = .ok (.iload 6, 2) := by decide +kernel
theorem dc_14_28_97 : decode prog_14_method_28_code 97 = .ok (.iconst 1, 1) := by decide +kernel
theorem dc_14_28_98 : decode prog_14_method_28_code 98 = .ok (.isub, 1) := by decide +kernel
theorem dc_14_28_99 : decode prog_14_method_28_code 99 = .ok (.iload 8, 2) := by decide +kernel
theorem dc_14_28_101 : decode prog_14_method_28_code 101 = .ok (.ldc 254, 2) := by decide +kernel
theorem dc_14_28_103 : decode prog_14_method_28_code 103 = .ok (.if_icmp .ne 33, 3) := by decide +kernel
theorem dc_14_28_106 : decode prog_14_method_28_code 106 = .ok (.aload_n 0, 1) := by decide +kernel
theorem dc_14_28_107 : decode prog_14_method_28_code 107 = .ok (.getfield 99, 3) := by decide +kernel
theorem dc_14_28_110 : decode prog_14_method_28_code 110 = .ok (.iload 6, 2) := by decide +kernel
theorem dc_14_28_112 : decode prog_14_method_28_code 112 = .ok (.iconst 1, 1) := by decide +kernel
theorem dc_14_28_113 : decode prog_14_method_28_code 113 = .ok (.isub, 1) := by decide +kernel
theorem dc_14_28_114 : decode prog_14_method_28_code 114 = .ok (.baload, 1) := by decide +kernel
theorem dc_14_28_115 : decode prog_14_method_28_code 115 = .ok (.ifCond .eq 17, 3) := by decide +kernel
theorem dc_14_28_118 : decode prog_14_method_28_code 118 = .ok (.aload_n 0, 1) := by decide +kernel
theorem dc_14_28_119 : decode prog_14_method_28_code 119 = .ok (.getfield 99, 3) := by decide +kernel
theorem dc_14_28_122 : decode prog_14_method_28_code 122 = .ok (.iload 6, 2) := by decide +kernel
theorem dc_14_28_124 : decode prog_14_method_28_code 124 = .ok (.baload, 1) := by decide +kernel
theorem dc_14_28_125 : decode prog_14_method_28_code 125 = .ok (.ifCond .eq 7, 3) := by decide +kernel
theorem dc_14_28_128 : decode prog_14_method_28_code 128 = .ok (.iconst 1, 1) := by decide +kernel
theorem dc_14_28_129 : decode prog_14_method_28_code 129 = .ok (.goto 34, 3) := by decide +kernel
theorem dc_14_28_132 : decode prog_14_method_28_code 132 = .ok (.iconst 0, 1) := by decide +kernel
theorem dc_14_28_133 : decode prog_14_method_28_code 133 = .ok (.goto 30, 3) := by decide +kernel
theorem dc_14_28_136 : decode prog_14_method_28_code 136 = .ok (.aload_n 0, 1) := by decide +kernel
theorem dc_14_28_137 : decode prog_14_method_28_code 137 = .ok (.getfield 99, 3) := by decide +kernel
theorem dc_14_28_140 : decode prog_14_method_28_code 140 = .ok (.iload 6, 2) := by decide +kernel
theorem dc_14_28_142 : decode prog_14_method_28_code 142 = .ok (.iconst 1, 1) := by decide +kernel
theorem dc_14_28_143 : decode prog_14_method_28_code 143 = .ok (.isub, 1) := by decide +kernel
theorem dc_14_28_144 : decode prog_14_method_28_code 144 = .ok (.baload, 1) := by decide +kernel
theorem dc_14_28_145 : decode prog_14_method_28_code 145 = .ok (.ifCond .ne 13, 3) := by decide +kernel
theorem dc_14_28_148 : decode prog_14_method_28_code 148 = .ok (.aload_n 0, 1) := by decide +kernel
theorem dc_14_28_149 : decode prog_14_method_28_code 149 = .ok (.getfield 99, 3) := by decide +kernel
theorem dc_14_28_152 : decode prog_14_method_28_code 152 = .ok (.iload 6, 2) := by decide +kernel
theorem dc_14_28_154 : decode prog_14_method_28_code 154 = .ok (.baload, 1) := by decide +kernel
theorem dc_14_28_155 : decode prog_14_method_28_code 155 = .ok (.ifCond .eq 7, 3) := by decide +kernel
theorem dc_14_28_158 : decode prog_14_method_28_code 158 = .ok (.iconst 1, 1) := by decide +kernel
theorem dc_14_28_159 : decode prog_14_method_28_code 159 = .ok (.goto 4, 3) := by decide +kernel
theorem dc_14_28_162 : decode prog_14_method_28_code 162 = .ok (.iconst 0, 1) := by decide +kernel
theorem dc_14_28_163 : decode prog_14_method_28_code 163 = .ok (.bastore, 1) := by decide +kernel
theorem dc_14_28_164 : decode prog_14_method_28_code 164 = .ok (.goto 130, 3) := by decide +kernel
theorem dc_14_28_167 : decode prog_14_method_28_code 167 = .ok (.iload 8, 2) := by decide +kernel
theorem dc_14_28_169 : decode prog_14_method_28_code 169 = .ok (.ldc_w 264, 3) := by decide +kernel
theorem dc_14_28_172 : decode prog_14_method_28_code 172 = .ok (.idiv, 1) := by decide +kernel
theorem dc_14_28_173 : decode prog_14_method_28_code 173 = .ok (.istore 9, 2) := by decide +kernel
theorem dc_14_28_175 : decode prog_14_method_28_code 175 = .ok (.iload 9, 2) := by decide +kernel
theorem dc_14_28_177 : decode prog_14_method_28_code 177 = .ok (.ifCond .ne 7, 3) := by decide +kernel
theorem dc_14_28_180 : decode prog_14_method_28_code 180 = .ok (.iload_n 2, 1) := by decide +kernel
theorem dc_14_28_181 : decode prog_14_method_28_code 181 = .ok (.goto 26, 3) := by decide +kernel
theorem dc_14_28_184 : decode prog_14_method_28_code 184 = .ok (.iload 9, 2) := by decide +kernel
theorem dc_14_28_186 : decode prog_14_method_28_code 186 = .ok (.iconst 1, 1) := by decide +kernel
theorem dc_14_28_187 : decode prog_14_method_28_code 187 = .ok (.if_icmp .ne 7, 3) := by decide +kernel
theorem dc_14_28_190 : decode prog_14_method_28_code 190 = .ok (.iload_n 3, 1) := by decide +kernel
theorem dc_14_28_191 : decode prog_14_method_28_code 191 = .ok (.goto 16, 3) := by decide +kernel
theorem dc_14_28_194 : decode prog_14_method_28_code 194 = .ok (.iload 9, 2) := by decide +kernel
theorem dc_14_28_196 : decode prog_14_method_28_code 196 = .ok (.iconst 2, 1) := by decide +kernel
theorem dc_14_28_197 : decode prog_14_method_28_code 197 = .ok (.if_icmp .ne 8, 3) := by decide +kernel
theorem dc_14_28_200 : decode prog_14_method_28_code 200 = .ok (.iload 4, 2) := by decide +kernel
theorem dc_14_28_202 : decode prog_14_method_28_code 202 = .ok (.goto 5, 3) := by decide +kernel
theorem dc_14_28_205 : decode prog_14_method_28_code 205 = .ok (.iload 5, 2) := by decide +kernel
theorem dc_14_28_207 : decode prog_14_method_28_code 207 = .ok (.istore 10, 2) := by decide +kernel
theorem dc_14_28_209 : decode prog_14_method_28_code 209 = .ok (.iload 8, 2) := by decide +kernel
theorem dc_14_28_211 : decode prog_14_method_28_code 211 = .ok (.sipush 10000, 3) := by decide +kernel
theorem dc_14_28_214 : decode prog_14_method_28_code 214 = .ok (.irem, 1) := by decide +kernel
theorem dc_14_28_215 : decode prog_14_method_28_code 215 = .ok (.istore 11, 2) := by decide +kernel
theorem dc_14_28_217 : decode prog_14_method_28_code 217 = .ok (.iload 8, 2) := by decide +kernel
theorem dc_14_28_219 : decode prog_14_method_28_code 219 = .ok (.sipush 10000, 3) := by decide +kernel
theorem dc_14_28_222 : decode prog_14_method_28_code 222 = .ok (.idiv, 1) := by decide +kernel
theorem dc_14_28_223 : decode prog_14_method_28_code 223 = .ok (.bipush 10, 2) := by decide +kernel
theorem dc_14_28_225 : decode prog_14_method_28_code 225 = .ok (.irem, 1) := by decide +kernel
theorem dc_14_28_226 : decode prog_14_method_28_code 226 = .ok (.istore 12, 2) := by decide +kernel
theorem dc_14_28_228 : decode prog_14_method_28_code 228 = .ok (.aload_n 0, 1) := by decide +kernel
theorem dc_14_28_229 : decode prog_14_method_28_code 229 = .ok (.getfield 99, 3) := by decide +kernel
theorem dc_14_28_232 : decode prog_14_method_28_code 232 = .ok (.iload 6, 2) := by decide +kernel
theorem dc_14_28_234 : decode prog_14_method_28_code 234 = .ok (.iload 12, 2) := by decide +kernel
theorem dc_14_28_236 : decode prog_14_method_28_code 236 = .ok (.ifCond .ne 18, 3) := by decide +kernel
theorem dc_14_28_239 : decode prog_14_method_28_code 239 = .ok (.iload 10, 2) := by decide +kernel
theorem dc_14_28_241 : decode prog_14_method_28_code 241 = .ok (.iload 11, 2) := by decide +kernel
theorem dc_14_28_243 : decode prog_14_method_28_code 243 = .ok (.if_icmp .ge 7, 3) := by decide +kernel
theorem dc_14_28_246 : decode prog_14_method_28_code 246 = .ok (.iconst 1, 1) := by decide +kernel
theorem dc_14_28_247 : decode prog_14_method_28_code 247 = .ok (.goto 40, 3) := by decide +kernel
theorem dc_14_28_250 : decode prog_14_method_28_code 250 = .ok (.iconst 0, 1) := by decide +kernel
theorem dc_14_28_251 : decode prog_14_method_28_code 251 = .ok (.goto 36, 3) := by decide +kernel
theorem dc_14_28_254 : decode prog_14_method_28_code 254 = .ok (.iload 12, 2) := by decide +kernel
theorem dc_14_28_256 : decode prog_14_method_28_code 256 = .ok (.iconst 1, 1) := by decide +kernel
theorem dc_14_28_257 : decode prog_14_method_28_code 257 = .ok (.if_icmp .ne 18, 3) := by decide +kernel
theorem dc_14_28_260 : decode prog_14_method_28_code 260 = .ok (.iload 10, 2) := by decide +kernel
theorem dc_14_28_262 : decode prog_14_method_28_code 262 = .ok (.iload 11, 2) := by decide +kernel
theorem dc_14_28_264 : decode prog_14_method_28_code 264 = .ok (.if_icmp .le 7, 3) := by decide +kernel
theorem dc_14_28_267 : decode prog_14_method_28_code 267 = .ok (.iconst 1, 1) := by decide +kernel
theorem dc_14_28_268 : decode prog_14_method_28_code 268 = .ok (.goto 19, 3) := by decide +kernel
theorem dc_14_28_271 : decode prog_14_method_28_code 271 = .ok (.iconst 0, 1) := by decide +kernel
theorem dc_14_28_272 : decode prog_14_method_28_code 272 = .ok (.goto 15, 3) := by decide +kernel
theorem dc_14_28_275 : decode prog_14_method_28_code 275 = .ok (.iload 10, 2) := by decide +kernel
theorem dc_14_28_277 : decode prog_14_method_28_code 277 = .ok (.iload 11, 2) := by decide +kernel
theorem dc_14_28_279 : decode prog_14_method_28_code 279 = .ok (.if_icmp .ne 7, 3) := by decide +kernel
theorem dc_14_28_282 : decode prog_14_method_28_code 282 = .ok (.iconst 1, 1) := by decide +kernel
theorem dc_14_28_283 : decode prog_14_method_28_code 283 = .ok (.goto 4, 3) := by decide +kernel
theorem dc_14_28_286 : decode prog_14_method_28_code 286 = .ok (.iconst 0, 1) := by decide +kernel
theorem dc_14_28_287 : decode prog_14_method_28_code 287 = .ok (.bastore, 1) := by decide +kernel
theorem dc_14_28_288 : decode prog_14_method_28_code 288 = .ok (.iload 6, 2) := by decide +kernel
theorem dc_14_28_290 : decode prog_14_method_28_code 290 = .ok (.iconst 1, 1) := by decide +kernel
theorem dc_14_28_291 : decode prog_14_method_28_code 291 = .ok (.iadd, 1) := by decide +kernel
theorem dc_14_28_292 : decode prog_14_method_28_code 292 = .ok (.istore 6, 2) := by decide +kernel
theorem dc_14_28_294 : decode prog_14_method_28_code 294 = .ok (.iinc 7 1, 3) := by decide +kernel
theorem dc_14_28_297 : decode prog_14_method_28_code 297 = .ok (.goto (-288), 3) := by decide +kernel
theorem dc_14_28_300 : decode prog_14_method_28_code 300 = .ok (.iload 6, 2) := by decide +kernel
theorem dc_14_28_302 : decode prog_14_method_28_code 302 = .ok (.ifCond .eq 12, 3) := by decide +kernel
theorem dc_14_28_305 : decode prog_14_method_28_code 305 = .ok (.aload_n 0, 1) := by decide +kernel
theorem dc_14_28_306 : decode prog_14_method_28_code 306 = .ok (.getfield 99, 3) := by decide +kernel
theorem dc_14_28_309 : decode prog_14_method_28_code 309 = .ok (.iconst 0, 1) := by decide +kernel
theorem dc_14_28_310 : decode prog_14_method_28_code 310 = .ok (.baload, 1) := by decide +kernel
theorem dc_14_28_311 : decode prog_14_method_28_code 311 = .ok (.ifCond .eq 7, 3) := by decide +kernel
theorem dc_14_28_314 : decode prog_14_method_28_code 314 = .ok (.iconst 1, 1) := by decide +kernel
theorem dc_14_28_315 : decode prog_14_method_28_code 315 = .ok (.goto 4, 3) := by decide +kernel
theorem dc_14_28_318 : decode prog_14_method_28_code 318 = .ok (.iconst 0, 1) := by decide +kernel
theorem dc_14_28_319 : decode prog_14_method_28_code 319 = .ok (.ireturn, 1) := by decide +kernel
theorem dc_14_29_0 : decode prog_14_method_29_code 0 = .ok (.aload_n 0, 1) := by decide +kernel
theorem dc_14_29_1 : decode prog_14_method_29_code 1 = .ok (.iload_n 1, 1) := by decide +kernel
theorem dc_14_29_2 : decode prog_14_method_29_code 2 = .ok (.invokevirtual 296, 3) := by decide +kernel
theorem dc_14_29_5 : decode prog_14_method_29_code 5 = .ok (.ifCond .eq 45, 3) := by decide +kernel
theorem dc_14_29_8 : decode prog_14_method_29_code 8 = .ok (.iload_n 2, 1) := by decide +kernel
theorem dc_14_29_9 : decode prog_14_method_29_code 9 = .ok (.iconst 0, 1) := by decide +kernel
theorem dc_14_29_10 : decode prog_14_method_29_code 10 = .ok (.bipush 100, 2) := by decide +kernel
theorem dc_14_29_12 : decode prog_14_method_29_code 12 = .ok (.invokestatic 180, 3) := by decide +kernel
theorem dc_14_29_15 : decode prog_14_method_29_code 15 = .ok (.ifCond .eq 35, 3) := by decide +kernel
theorem dc_14_29_18 : decode prog_14_method_29_code 18 = .ok (.iload_n 3, 1) := by decide +kernel
theorem dc_14_29_19 : decode prog_14_method_29_code 19 = .ok (.iconst 0, 1) := by decide +kernel
theorem dc_14_29_20 : decode prog_14_method_29_code 20 = .ok (.bipush 9, 2) := by decide +kernel
theorem dc_14_29_22 : decode prog_14_method_29_code 22 = .ok (.invokestatic 180, 3) := by decide +kernel
theorem dc_14_29_25 : decode prog_14_method_29_code 25 = .ok (.ifCond .eq 25, 3) := by decide +kernel
theorem dc_14_29_28 : decode prog_14_method_29_code 28 = .ok (.iload 4, 2) := by decide +kernel
theorem dc_14_29_30 : decode prog_14_method_29_code 30 = .ok (.iconst 0, 1) := by decide +kernel
theorem dc_14_29_31 : decode prog_14_method_29_code 31 = .ok (.bipush 99, 2) := by decide +kernel
theorem dc_14_29_33 : decode prog_14_method_29_code 33 = .ok (.invokestatic 180, 3) := by decide +kernel
theorem dc_14_29_36 : decode prog_14_method_29_code 36 = .ok (.ifCond .eq 14, 3) := by decide +kernel
theorem dc_14_29_39 : decode prog_14_method_29_code 39 = .ok (.iload 5, 2) := by decide +kernel
theorem dc_14_29_41 : decode prog_14_method_29_code 41 = .ok (.iconst 0, 1) := by decide +kernel
theorem dc_14_29_42 : decode prog_14_method_29_code 42 = .ok (.bipush 7, 2) := by decide +kernel
theorem dc_14_29_44 : decode prog_14_method_29_code 44 = .ok (.invokestatic 180, 3) := by decide +kernel
theorem dc_14_29_47 : decode prog_14_method_29_code 47 = .ok (.ifCond .ne 5, 3) := by decide +kernel
theorem dc_14_29_50 : decode prog_14_method_29_code 50 = .ok (.iconst (-1), 1) := by decide +kernel
theorem dc_14_29_51 : decode prog_14_method_29_code 51 = .ok (.ireturn, 1) := by decide +kernel
theorem dc_14_29_52 : decode prog_14_method_29_code 52 = .ok (.aload_n 0, 1) := by decide +kernel
theorem dc_14_29_53 : decode prog_14_method_29_code 53 = .ok (.iload_n 1, 1) := by decide +kernel
theorem dc_14_29_54 : decode prog_14_method_29_code 54 = .ok (.iload_n 2, 1) := by decide +kernel
theorem dc_14_29_55 : decode prog_14_method_29_code 55 = .ok (.iload_n 3, 1) := by decide +kernel
theorem dc_14_29_56 : decode prog_14_method_29_code 56 = .ok (.iload 4, 2) := by decide +kernel
theorem dc_14_29_58 : decode prog_14_method_29_code 58 = .ok (.iload 5, 2) := by decide +kernel
theorem dc_14_29_60 : decode prog_14_method_29_code 60 = .ok (.invokevirtual 299, 3) := by decide +kernel
theorem dc_14_29_63 : decode prog_14_method_29_code 63 = .ok (.ifCond .eq 7, 3) := by decide +kernel
theorem dc_14_29_66 : decode prog_14_method_29_code 66 = .ok (.iconst 1, 1) := by decide +kernel
theorem dc_14_29_67 : decode prog_14_method_29_code 67 = .ok (.goto 4, 3) := by decide +kernel
theorem dc_14_29_70 : decode prog_14_method_29_code 70 = .ok (.iconst 0, 1) := by decide +kernel
theorem dc_14_29_71 : decode prog_14_method_29_code 71 = .ok (.ireturn, 1) := by decide +kernel
theorem iv_13_v299 : mm_iv 13 (.invokevirtual 299) = some (1, 213) := by decide +kernel
theorem nr_13_253 : mm_nr 13 253 = some (nI 1000002) := by decide +kernel
theorem nr_13_254 : mm_nr 13 254 = some (nI 1000000) := by decide +kernel
theorem nr_13_264 : mm_nr 13 264 = some (nI 100000) := by decide +kernel
theorem nr_13_268 : mm_nr 13 268 = some (nI 1000001) := by decide +kernel
theorem o_213 : mm_o 213 = 13 := by decide +kernel
theorem na_1_213 : mm_nas 1 213 = 6 := by decide +kernel
theorem rm_n {a d : Nat} (ha : a < 2 ^ 31) (h0 : 0 < d) (hd : d < 2 ^ 31) : nI a - nI a / nI d * nI d = nI (a % d) := by
  have e := Nat.mod_add_div a d
  rw [Nat.mul_comm] at e
  rw [pk_div ha h0 hd, pk_mul, pk_sub (by omega)]
  exact congrArg nI (by omega)
/-- who is asked -/
def vl (g t c u l : Nat) : Nat := if l = 0 then g else if l = 1 then t else if l = 2 then c else u
def cmpv (g t c u w : Nat) : Int32 := if w / 10000 % 10 = 0 then (if vl g t c u (w / 100000) < w % 10000 then nI 1 else nI 0) else if w / 10000 % 10 = 1 then (if w % 10000 < vl g t c u (w / 100000) then nI 1 else nI 0) else (if vl g t c u (w / 100000) = w % 10000 then nI 1 else nI 0)
def tkN : List Int32 → Option (List Int32)
  | x :: S => some ((if x = 0 then nI 1 else nI 0) :: S)
  | [] => none
def tkA : List Int32 → Option (List Int32)
  | y :: x :: S => some ((if x = 0 then nI 0 else if y = 0 then nI 0 else nI 1) :: S)
  | _ => none
def tkO : List Int32 → Option (List Int32)
  | y :: x :: S => some ((if x = 0 then (if y = 0 then nI 0 else nI 1) else nI 1) :: S)
  | _ => none
def tk (g t c u w : Nat) (S : List Int32) : Option (List Int32) := if w = 1000002 then tkN S else if w = 1000000 then tkA S else if w = 1000001 then tkO S else some (cmpv g t c u w :: S)
def evk (w : Nat → Nat) (g t c u : Nat) : Nat → Option (List Int32)
  | 0 => some []
  | m + 1 => (evk w g t c u m).bind (tk g t c u (w m))
theorem evk_S {w : Nat → Nat} {g t c u m : Nat} {S S2 : List Int32} (h : evk w g t c u m = some S) (h2 : tk g t c u (w m) S = some S2) : evk w g t c u (m + 1) = some S2 := by
  show (evk w g t c u m).bind (tk g t c u (w m)) = _
  rw [h]
  exact h2
theorem evk_pre {w : Nat → Nat} {g t c u : Nat} : ∀ {n : Nat}, (∃ S, evk w g t c u n = some S) → ∀ {m : Nat}, m ≤ n → ∃ S, evk w g t c u m = some S
  | 0, h, m, hm => by rw [Nat.le_zero.mp hm]; exact h
  | n + 1, h, m, hm => by
    by_cases q : m = n + 1
    · rw [q]; exact h
    · refine evk_pre (n := n) ?_ (by omega)
      obtain ⟨S, h⟩ := h
      rw [show evk w g t c u (n + 1) = (evk w g t c u n).bind (tk g t c u (w n)) from rfl] at h
      cases h2 : evk w g t c u n with
      | none => rw [h2] at h; cases h
      | some T => exact ⟨T, rfl⟩
theorem evk_tk {w : Nat → Nat} {g t c u m n : Nat} {S : List Int32} (hE : ∃ S, evk w g t c u n = some S) (hm : m < n) (h : evk w g t c u m = some S) : ∃ S2, tk g t c u (w m) S = some S2 := by
  obtain ⟨T, hT⟩ := evk_pre hE (show m + 1 ≤ n from hm)
  rw [show evk w g t c u (m + 1) = (evk w g t c u m).bind (tk g t c u (w m)) from rfl, h] at hT
  exact ⟨T, hT⟩
theorem tk_not {g t c u w : Nat} {S : List Int32} (hw : w = 1000002) (h : ∃ S2, tk g t c u w S = some S2) : ∃ x T, S = x :: T ∧ tk g t c u w S = some ((if x = 0 then nI 1 else nI 0) :: T) := by
  obtain ⟨S2, h⟩ := h
  unfold tk at h ⊢
  rw [if_pos hw] at h ⊢
  match S, h with
  | x :: T, _ => exact ⟨x, T, rfl, rfl⟩
theorem tk_and {g t c u w : Nat} {S : List Int32} (hw : w = 1000000) (h : ∃ S2, tk g t c u w S = some S2) : ∃ y x T, S = y :: x :: T ∧ tk g t c u w S = some ((if x = 0 then nI 0 else if y = 0 then nI 0 else nI 1) :: T) := by
  obtain ⟨S2, h⟩ := h
  unfold tk at h ⊢
  rw [if_neg (by omega), if_pos hw] at h ⊢
  match S, h with
  | y :: x :: T, _ => exact ⟨y, x, T, rfl, rfl⟩
theorem tk_or {g t c u w : Nat} {S : List Int32} (hw : w = 1000001) (h : ∃ S2, tk g t c u w S = some S2) : ∃ y x T, S = y :: x :: T ∧ tk g t c u w S = some ((if x = 0 then (if y = 0 then nI 0 else nI 1) else nI 1) :: T) := by
  obtain ⟨S2, h⟩ := h
  unfold tk at h ⊢
  rw [if_neg (by omega), if_neg (by omega), if_pos hw] at h ⊢
  match S, h with
  | y :: x :: T, _ => exact ⟨y, x, T, rfl, rfl⟩
theorem tk_cmp {g t c u w : Nat} {S : List Int32} (h1 : ¬ w = 1000002) (h2 : ¬ w = 1000000) (h3 : ¬ w = 1000001) : tk g t c u w S = some (cmpv g t c u w :: S) := by
  unfold tk
  rw [if_neg h1, if_neg h2, if_neg h3]
/-- a row holds a pile: its top last -/
def mt (q : Nat → Int32) : List Int32 → Prop
  | [] => True
  | x :: S => q S.length = x ∧ mt q S
theorem mt_up {q : Nat → Int32} {i : Nat} {v : Int32} : ∀ {S : List Int32}, mt q S → S.length ≤ i → mt (upd q i v) S
  | [], _, _ => trivial
  | x :: S, h, hi => ⟨(if_neg (by have : (x :: S).length = S.length + 1 := rfl; omega)).trans h.1, mt_up h.2 (Nat.le_of_succ_le hi)⟩
theorem mt_push {q : Nat → Int32} {v : Int32} {S : List Int32} (h : mt q S) : mt (upd q S.length v) (v :: S) := ⟨if_pos rfl, mt_up h (Nat.le_refl _)⟩
/-- what is asked is met -/
def sp_met (w : Nat → Nat) (cm g t c u : Nat) : Prop := evk w g t c u cm = some [] ∨ ∃ v, evk w g t c u cm = some [v] ∧ ¬ v = 0
def okc (w : Nat → Nat) (cm : Nat) : Prop := ∀ g t c u, evk w g t c u cm = some [] ∨ ∃ v, evk w g t c u cm = some [v]
theorem okc_some {w : Nat → Nat} {cm : Nat} (h : okc w cm) (g t c u : Nat) : ∃ S, evk w g t c u cm = some S := (h g t c u).elim (fun q => ⟨_, q⟩) (fun q => q.elim (fun v z => ⟨_, z⟩))
theorem okc_one {w : Nat → Nat} {cm g t c u : Nat} {S : List Int32} (h : okc w cm) (hS : evk w g t c u cm = some S) (h0 : ¬ S.length = 0) : ∃ v, S = [v] := by
  rcases h g t c u with q | ⟨v, q⟩
  · rw [hS] at q
    cases q
    exact absurd rfl h0
  · rw [hS] at q
    cases q
    exact ⟨v, rfl⟩
set_option maxHeartbeats 4000000 in
theorem c_isMet (M : mH) (hM : 157 ≤ M.1) (io : Nat → Int32) (sg : Nat → Nat → Int32) (x cm : Nat) (w : Nat → Nat) (hx : x < 12) (hcm : sg 36 x = nI cm) (hc60 : cm ≤ 79) (hw : ∀ k, k < cm → sg 35 (80 * x + k) = nI (w k)) (hw9 : ∀ k, k < cm → w k ≤ 1000002) (hok : okc w cm) (g t c u : Nat) (hg : g ≤ 100) (ht : t ≤ 9) (hc : c ≤ 99) (hu : u ≤ 7) : ∃ (q : Nat → Int32), mm_Ev 1 213 [.ref 100, .int (nI x), .int (nI g), .int (nI t), .int (nI c), .int (nI u)] (rf_mk M io sg) ((some (.int (pI (sp_met w cm g t c u))), rf_mk M io (va_up sg 48 q))) := by
  have hq9 : ∃ z, (fun r9 => ∃ (q : Nat → Int32), r9 = ((some (.int (pI (sp_met w cm g t c u))), rf_mk M io (va_up sg 48 q)))) z ∧ mm_Ev 1 213 [.ref 100, .int (nI x), .int (nI g), .int (nI t), .int (nI c), .int (nI u)] (rf_mk M io sg) z := by
    refine r_evQ (by decide +kernel) (show (6 : Nat) ≤ mm_nL 213 by decide +kernel) ?_
    show mm_Ru 0 (13, 13, false, prog_14_method_28_code, some .boolean) 0 [(0, .ref 100), (1, .int (nI x)), (2, .int (nI g)), (3, .int (nI t)), (4, .int (nI c)), (5, .int (nI u))] [] (rf_mk M io sg) (fun r9 => ∃ (q : Nat → Int32), r9 = ((some (.int (pI (sp_met w cm g t c u))), rf_mk M io (va_up sg 48 q))))
    refine r_iconst (v := nI 0) (by decide) dc_14_28_0 ?_
    refine r_istore (ls' := [(6, .int (nI 0)), (0, .ref 100), (1, .int (nI x)), (2, .int (nI g)), (3, .int (nI t)), (4, .int (nI c)), (5, .int (nI u))]) (by decide) rfl dc_14_28_1 ?_
    refine r_bipush (v := nI 80) (by decide) dc_14_28_3 ?_
    refine r_iload_n rfl dc_14_28_5 ?_
    refine r_imul (v := nI (80 * x)) (pk_mul _ _) dc_14_28_6 ?_
    refine r_istore (ls' := [(7, .int (nI (80 * x))), (6, .int (nI 0)), (0, .ref 100), (1, .int (nI x)), (2, .int (nI g)), (3, .int (nI t)), (4, .int (nI c)), (5, .int (nI u))]) (by decide) rfl dc_14_28_7 ?_
    rw [show rf_mk M io sg = rf_mk M io (va_up sg 48 (sg 48)) from by rw [va_up_id]]
    refine mm_cnt (P := fun m => ∀ (S : List Int32), ∀ (q : Nat → Int32), (evk w g t c u m = some S ∧ mt q S ∧ S.length ≤ m) → mm_Ru 0 (13, 13, false, prog_14_method_28_code, some .boolean) 9 [(7, .int (nI (80 * x + m))), (6, .int (nI S.length)), (0, .ref 100), (1, .int (nI x)), (2, .int (nI g)), (3, .int (nI t)), (4, .int (nI c)), (5, .int (nI u))] [] (rf_mk M io (va_up sg 48 q)) (fun r9 => ∃ (q : Nat → Int32), r9 = ((some (.int (pI (sp_met w cm g t c u))), rf_mk M io (va_up sg 48 q))))) cm ?_ ?_ 0 (by omega) ([]) (sg 48) (⟨rfl, trivial, Nat.le_refl _⟩)
    · intro S q hi_m
      show mm_Ru 0 (13, 13, false, prog_14_method_28_code, some .boolean) 9 [(7, .int (nI (80 * x + cm))), (6, .int (nI S.length)), (0, .ref 100), (1, .int (nI x)), (2, .int (nI g)), (3, .int (nI t)), (4, .int (nI c)), (5, .int (nI u))] [] (rf_mk M io (va_up sg 48 q)) (fun r9 => ∃ (q : Nat → Int32), r9 = ((some (.int (pI (sp_met w cm g t c u))), rf_mk M io (va_up sg 48 q))))
      refine r_iload rfl dc_14_28_9 ?_
      refine r_bipush (v := nI 80) (by decide) dc_14_28_11 ?_
      refine r_iload_n rfl dc_14_28_13 ?_
      refine r_imul (v := nI (80 * x)) (pk_mul _ _) dc_14_28_14 ?_
      refine r_aload_n rfl dc_14_28_15 ?_
      refine q_get (v := .ref 127) rx_90 hM rfl dc_14_28_16 ?_
      refine r_iload_n rfl dc_14_28_19 ?_
      refine q_ild (e := x) (v := nI cm) (by decide) (by decide) hM rfl (show x < 12 by omega) (by omega) (hcm) dc_14_28_20 ?_
      refine r_iadd (v := nI (80 * x + cm)) (nI_add _ _) dc_14_28_21 ?_
      refine r_ncge (t := 300) (by omega) (by omega) (by decide) dc_14_28_22 (fun c_22 => ?_) (fun c_22 => ?_)
      · skip
        refine r_iload rfl dc_14_28_300 ?_
        refine r_nzeq (t := 314) (by omega) (by decide) dc_14_28_302 (fun c_302 => ?_) (fun c_302 => ?_)
        · skip
          refine r_iconst (v := nI 1) (by decide) dc_14_28_314 ?_
          refine r_goto (t := 319) (by decide) dc_14_28_315 ?_
          refine r_zret rfl (by decide) dc_14_28_319 ?_
          rw [pI_t (P := sp_met w cm g t c u) (Or.inl (hi_m.1.trans (congrArg some (List.length_eq_zero_iff.mp c_302))))]
          exact ⟨q, rfl⟩
        · obtain ⟨v9, hv9⟩ := okc_one hok hi_m.1 c_302
          have hm9 : mt q [v9] := hv9 ▸ hi_m.2.1
          refine r_aload_n rfl dc_14_28_305 ?_
          refine q_get (v := .ref 130) rx_99 hM rfl dc_14_28_306 ?_
          refine r_iconst (v := nI 0) (by decide) dc_14_28_309 ?_
          refine q_bld (e := 0) (v := v9) (by decide) (by decide) hM rfl (show 0 < 80 by omega) (by omega) (hm9.1) dc_14_28_310 ?_
          refine r_ifeq (t := 318) (by decide) dc_14_28_311 (fun c_311 => ?_) (fun c_311 => ?_)
          · skip
            refine r_iconst (v := nI 0) (by decide) dc_14_28_318 ?_
            refine r_zret rfl (by decide) dc_14_28_319 ?_
            rw [pI_f (P := sp_met w cm g t c u) (fun z => z.elim (fun a => by rw [hi_m.1, hv9] at a; cases a) (fun a => a.elim (fun v b => by rw [hi_m.1, hv9] at b; cases b.1; exact b.2 c_311)))]
            exact ⟨q, rfl⟩
          · skip
            refine r_iconst (v := nI 1) (by decide) dc_14_28_314 ?_
            refine r_goto (t := 319) (by decide) dc_14_28_315 ?_
            refine r_zret rfl (by decide) dc_14_28_319 ?_
            rw [pI_t (P := sp_met w cm g t c u) (Or.inr ⟨v9, hi_m.1.trans (congrArg some hv9), c_311⟩)]
            exact ⟨q, rfl⟩
      · omega
    · intro m h_m ih_m S q hi_m
      have hT := evk_tk (okc_some hok g t c u) h_m hi_m.1
      have h6 := hw9 m h_m
      show mm_Ru 0 (13, 13, false, prog_14_method_28_code, some .boolean) 9 [(7, .int (nI (80 * x + m))), (6, .int (nI S.length)), (0, .ref 100), (1, .int (nI x)), (2, .int (nI g)), (3, .int (nI t)), (4, .int (nI c)), (5, .int (nI u))] [] (rf_mk M io (va_up sg 48 q)) (fun r9 => ∃ (q : Nat → Int32), r9 = ((some (.int (pI (sp_met w cm g t c u))), rf_mk M io (va_up sg 48 q))))
      refine r_iload rfl dc_14_28_9 ?_
      refine r_bipush (v := nI 80) (by decide) dc_14_28_11 ?_
      refine r_iload_n rfl dc_14_28_13 ?_
      refine r_imul (v := nI (80 * x)) (pk_mul _ _) dc_14_28_14 ?_
      refine r_aload_n rfl dc_14_28_15 ?_
      refine q_get (v := .ref 127) rx_90 hM rfl dc_14_28_16 ?_
      refine r_iload_n rfl dc_14_28_19 ?_
      refine q_ild (e := x) (v := nI cm) (by decide) (by decide) hM rfl (show x < 12 by omega) (by omega) (hcm) dc_14_28_20 ?_
      refine r_iadd (v := nI (80 * x + cm)) (nI_add _ _) dc_14_28_21 ?_
      refine r_ncge (t := 300) (by omega) (by omega) (by decide) dc_14_28_22 (fun c_22 => ?_) (fun c_22 => ?_)
      · omega
      · skip
        refine r_aload_n rfl dc_14_28_25 ?_
        refine q_get (v := .ref 126) rx_87 hM rfl dc_14_28_26 ?_
        refine r_iload rfl dc_14_28_29 ?_
        refine q_ild (e := 80 * x + m) (v := nI (w m)) (by decide) (by decide) hM rfl (show 80 * x + m < 960 by omega) (by omega) (hw m h_m) dc_14_28_31 ?_
        refine r_istore (ls' := [(8, .int (nI (w m))), (7, .int (nI (80 * x + m))), (6, .int (nI S.length)), (0, .ref 100), (1, .int (nI x)), (2, .int (nI g)), (3, .int (nI t)), (4, .int (nI c)), (5, .int (nI u))]) (by decide) rfl dc_14_28_32 ?_
        refine r_iload rfl dc_14_28_34 ?_
        refine r_ldc (v := nI 1000002) nr_13_253 dc_14_28_36 ?_
        refine r_ncne (t := 70) (by omega) (by omega) (by decide) dc_14_28_38 (fun c_38 => ?_) (fun c_38 => ?_)
        · skip
          refine r_iload rfl dc_14_28_70 ?_
          refine r_ldc (v := nI 1000000) nr_13_254 dc_14_28_72 ?_
          refine r_nceq (t := 85) (by omega) (by omega) (by decide) dc_14_28_74 (fun c_74 => ?_) (fun c_74 => ?_)
          · obtain ⟨y9, x9, T, hx, hS2⟩ := tk_and c_74 hT
            have hl : S.length = T.length + 2 := by rw [hx]; rfl
            have hm9 : mt q (y9 :: x9 :: T) := hx ▸ hi_m.2.1
            refine r_iload rfl dc_14_28_85 ?_
            refine r_iconst (v := nI 1) (by decide) dc_14_28_87 ?_
            refine r_isub (v := nI (T.length + 1)) ((pk_sub (by omega)).trans (congrArg nI (by omega))) dc_14_28_88 ?_
            refine r_istore (ls' := [(6, .int (nI (T.length + 1))), (8, .int (nI (w m))), (7, .int (nI (80 * x + m))), (0, .ref 100), (1, .int (nI x)), (2, .int (nI g)), (3, .int (nI t)), (4, .int (nI c)), (5, .int (nI u))]) (by decide) rfl dc_14_28_89 ?_
            refine r_aload_n rfl dc_14_28_91 ?_
            refine q_get (v := .ref 130) rx_99 hM rfl dc_14_28_92 ?_
            refine r_iload rfl dc_14_28_95 ?_
            refine r_iconst (v := nI 1) (by decide) dc_14_28_97 ?_
            refine r_isub (v := nI T.length) ((pk_sub (by omega)).trans (congrArg nI (by omega))) dc_14_28_98 ?_
            refine r_iload rfl dc_14_28_99 ?_
            refine r_ldc (v := nI 1000000) nr_13_254 dc_14_28_101 ?_
            refine r_ncne (t := 136) (by omega) (by omega) (by decide) dc_14_28_103 (fun c_103 => ?_) (fun c_103 => ?_)
            · omega
            · skip
              refine r_aload_n rfl dc_14_28_106 ?_
              refine q_get (v := .ref 130) rx_99 hM rfl dc_14_28_107 ?_
              refine r_iload rfl dc_14_28_110 ?_
              refine r_iconst (v := nI 1) (by decide) dc_14_28_112 ?_
              refine r_isub (v := nI T.length) ((pk_sub (by omega)).trans (congrArg nI (by omega))) dc_14_28_113 ?_
              refine q_bld (e := T.length) (v := x9) (by decide) (by decide) hM rfl (show T.length < 80 by omega) (by omega) (hm9.2.1) dc_14_28_114 ?_
              refine r_ifeq (t := 132) (by decide) dc_14_28_115 (fun c_115 => ?_) (fun c_115 => ?_)
              · skip
                refine r_iconst (v := nI 0) (by decide) dc_14_28_132 ?_
                refine r_goto (t := 163) (by decide) dc_14_28_133 ?_
                refine q_bst (e := T.length) (k := 48) (u := 2) (w := nI 0) (by decide) (by decide) hM rfl rfl rfl (by decide) (show T.length < 80 by omega) (by omega) dc_14_28_163 ?_
                refine r_goto (t := 294) (by decide) dc_14_28_164 ?_
                refine r_iinc (x := nI (80 * x + m)) (v := nI (80 * x + m + 1)) (ls' := [(7, .int (nI (80 * x + m + 1))), (6, .int (nI (T.length + 1))), (8, .int (nI (w m))), (0, .ref 100), (1, .int (nI x)), (2, .int (nI g)), (3, .int (nI t)), (4, .int (nI c)), (5, .int (nI u))]) rfl (nI_1 _) (by decide) rfl dc_14_28_294 ?_
                refine r_goto (t := 9) (by decide) dc_14_28_297 ?_
                refine r_ls [(7, .int (nI (80 * x + m + 1))), (6, .int (nI (T.length + 1))), (0, .ref 100), (1, .int (nI x)), (2, .int (nI g)), (3, .int (nI t)), (4, .int (nI c)), (5, .int (nI u))] (mm_ndk_of [7, 6, 0, 1, 2, 3, 4, 5] rfl (by decide)) (mm_sub_cons rfl (mm_sub_cons rfl (mm_sub_cons rfl (mm_sub_cons rfl (mm_sub_cons rfl (mm_sub_cons rfl (mm_sub_cons rfl (mm_sub_cons rfl (mm_sub_nil _))))))))) ?_
                rw [va_up_up]
                exact ih_m (nI 0 :: T) (upd q T.length (nI 0)) (⟨evk_S hi_m.1 (by rw [hS2, if_pos c_115]), mt_push hm9.2.2, by show T.length + 1 ≤ m + 1; have := hi_m.2.2; omega⟩)
              · skip
                refine r_aload_n rfl dc_14_28_118 ?_
                refine q_get (v := .ref 130) rx_99 hM rfl dc_14_28_119 ?_
                refine r_iload rfl dc_14_28_122 ?_
                refine q_bld (e := T.length + 1) (v := y9) (by decide) (by decide) hM rfl (show T.length + 1 < 80 by omega) (by omega) (hm9.1) dc_14_28_124 ?_
                refine r_ifeq (t := 132) (by decide) dc_14_28_125 (fun c_125 => ?_) (fun c_125 => ?_)
                · skip
                  refine r_iconst (v := nI 0) (by decide) dc_14_28_132 ?_
                  refine r_goto (t := 163) (by decide) dc_14_28_133 ?_
                  refine q_bst (e := T.length) (k := 48) (u := 2) (w := nI 0) (by decide) (by decide) hM rfl rfl rfl (by decide) (show T.length < 80 by omega) (by omega) dc_14_28_163 ?_
                  refine r_goto (t := 294) (by decide) dc_14_28_164 ?_
                  refine r_iinc (x := nI (80 * x + m)) (v := nI (80 * x + m + 1)) (ls' := [(7, .int (nI (80 * x + m + 1))), (6, .int (nI (T.length + 1))), (8, .int (nI (w m))), (0, .ref 100), (1, .int (nI x)), (2, .int (nI g)), (3, .int (nI t)), (4, .int (nI c)), (5, .int (nI u))]) rfl (nI_1 _) (by decide) rfl dc_14_28_294 ?_
                  refine r_goto (t := 9) (by decide) dc_14_28_297 ?_
                  refine r_ls [(7, .int (nI (80 * x + m + 1))), (6, .int (nI (T.length + 1))), (0, .ref 100), (1, .int (nI x)), (2, .int (nI g)), (3, .int (nI t)), (4, .int (nI c)), (5, .int (nI u))] (mm_ndk_of [7, 6, 0, 1, 2, 3, 4, 5] rfl (by decide)) (mm_sub_cons rfl (mm_sub_cons rfl (mm_sub_cons rfl (mm_sub_cons rfl (mm_sub_cons rfl (mm_sub_cons rfl (mm_sub_cons rfl (mm_sub_cons rfl (mm_sub_nil _))))))))) ?_
                  rw [va_up_up]
                  exact ih_m (nI 0 :: T) (upd q T.length (nI 0)) (⟨evk_S hi_m.1 (by rw [hS2, if_neg c_115, if_pos c_125]), mt_push hm9.2.2, by show T.length + 1 ≤ m + 1; have := hi_m.2.2; omega⟩)
                · skip
                  refine r_iconst (v := nI 1) (by decide) dc_14_28_128 ?_
                  refine r_goto (t := 163) (by decide) dc_14_28_129 ?_
                  refine q_bst (e := T.length) (k := 48) (u := 2) (w := nI 1) (by decide) (by decide) hM rfl rfl rfl (by decide) (show T.length < 80 by omega) (by omega) dc_14_28_163 ?_
                  refine r_goto (t := 294) (by decide) dc_14_28_164 ?_
                  refine r_iinc (x := nI (80 * x + m)) (v := nI (80 * x + m + 1)) (ls' := [(7, .int (nI (80 * x + m + 1))), (6, .int (nI (T.length + 1))), (8, .int (nI (w m))), (0, .ref 100), (1, .int (nI x)), (2, .int (nI g)), (3, .int (nI t)), (4, .int (nI c)), (5, .int (nI u))]) rfl (nI_1 _) (by decide) rfl dc_14_28_294 ?_
                  refine r_goto (t := 9) (by decide) dc_14_28_297 ?_
                  refine r_ls [(7, .int (nI (80 * x + m + 1))), (6, .int (nI (T.length + 1))), (0, .ref 100), (1, .int (nI x)), (2, .int (nI g)), (3, .int (nI t)), (4, .int (nI c)), (5, .int (nI u))] (mm_ndk_of [7, 6, 0, 1, 2, 3, 4, 5] rfl (by decide)) (mm_sub_cons rfl (mm_sub_cons rfl (mm_sub_cons rfl (mm_sub_cons rfl (mm_sub_cons rfl (mm_sub_cons rfl (mm_sub_cons rfl (mm_sub_cons rfl (mm_sub_nil _))))))))) ?_
                  rw [va_up_up]
                  exact ih_m (nI 1 :: T) (upd q T.length (nI 1)) (⟨evk_S hi_m.1 (by rw [hS2, if_neg c_115, if_neg c_125]), mt_push hm9.2.2, by show T.length + 1 ≤ m + 1; have := hi_m.2.2; omega⟩)
          · skip
            refine r_iload rfl dc_14_28_77 ?_
            refine r_ldc_w (v := nI 1000001) nr_13_268 dc_14_28_79 ?_
            refine r_ncne (t := 167) (by omega) (by omega) (by decide) dc_14_28_82 (fun c_82 => ?_) (fun c_82 => ?_)
            · skip
              refine r_iload rfl dc_14_28_167 ?_
              refine r_ldc_w (v := nI 100000) nr_13_264 dc_14_28_169 ?_
              refine r_idiv (v := nI (w m / 100000)) (by decide) (pk_div (by omega) (by decide) (by decide)) dc_14_28_172 ?_
              refine r_istore (ls' := [(9, .int (nI (w m / 100000))), (8, .int (nI (w m))), (7, .int (nI (80 * x + m))), (6, .int (nI S.length)), (0, .ref 100), (1, .int (nI x)), (2, .int (nI g)), (3, .int (nI t)), (4, .int (nI c)), (5, .int (nI u))]) (by decide) rfl dc_14_28_173 ?_
              refine r_iload rfl dc_14_28_175 ?_
              refine r_nzne (t := 184) (by omega) (by decide) dc_14_28_177 (fun c_177 => ?_) (fun c_177 => ?_)
              · skip
                refine r_iload rfl dc_14_28_184 ?_
                refine r_iconst (v := nI 1) (by decide) dc_14_28_186 ?_
                refine r_ncne (t := 194) (by omega) (by omega) (by decide) dc_14_28_187 (fun c_187 => ?_) (fun c_187 => ?_)
                · skip
                  refine r_iload rfl dc_14_28_194 ?_
                  refine r_iconst (v := nI 2) (by decide) dc_14_28_196 ?_
                  refine r_ncne (t := 205) (by omega) (by omega) (by decide) dc_14_28_197 (fun c_197 => ?_) (fun c_197 => ?_)
                  · skip
                    refine r_iload rfl dc_14_28_205 ?_
                    have hv9 : vl g t c u (w m / 100000) = u := by unfold vl; rw [if_neg c_177, if_neg c_187, if_neg c_197]
                    refine r_istore (ls' := [(10, .int (nI u)), (9, .int (nI (w m / 100000))), (8, .int (nI (w m))), (7, .int (nI (80 * x + m))), (6, .int (nI S.length)), (0, .ref 100), (1, .int (nI x)), (2, .int (nI g)), (3, .int (nI t)), (4, .int (nI c)), (5, .int (nI u))]) (by decide) rfl dc_14_28_207 ?_
                    refine r_iload rfl dc_14_28_209 ?_
                    refine r_sipush (v := nI 10000) (by decide) dc_14_28_211 ?_
                    refine r_irem (v := nI (w m % 10000)) (by decide) (rm_n (by omega) (by decide) (by decide)) dc_14_28_214 ?_
                    refine r_istore (ls' := [(11, .int (nI (w m % 10000))), (10, .int (nI u)), (9, .int (nI (w m / 100000))), (8, .int (nI (w m))), (7, .int (nI (80 * x + m))), (6, .int (nI S.length)), (0, .ref 100), (1, .int (nI x)), (2, .int (nI g)), (3, .int (nI t)), (4, .int (nI c)), (5, .int (nI u))]) (by decide) rfl dc_14_28_215 ?_
                    refine r_iload rfl dc_14_28_217 ?_
                    refine r_sipush (v := nI 10000) (by decide) dc_14_28_219 ?_
                    refine r_idiv (v := nI (w m / 10000)) (by decide) (pk_div (by omega) (by decide) (by decide)) dc_14_28_222 ?_
                    refine r_bipush (v := nI 10) (by decide) dc_14_28_223 ?_
                    refine r_irem (v := nI (w m / 10000 % 10)) (by decide) (rm_n (by omega) (by decide) (by decide)) dc_14_28_225 ?_
                    refine r_istore (ls' := [(12, .int (nI (w m / 10000 % 10))), (11, .int (nI (w m % 10000))), (10, .int (nI u)), (9, .int (nI (w m / 100000))), (8, .int (nI (w m))), (7, .int (nI (80 * x + m))), (6, .int (nI S.length)), (0, .ref 100), (1, .int (nI x)), (2, .int (nI g)), (3, .int (nI t)), (4, .int (nI c)), (5, .int (nI u))]) (by decide) rfl dc_14_28_226 ?_
                    refine r_aload_n rfl dc_14_28_228 ?_
                    refine q_get (v := .ref 130) rx_99 hM rfl dc_14_28_229 ?_
                    refine r_iload rfl dc_14_28_232 ?_
                    refine r_iload rfl dc_14_28_234 ?_
                    refine r_nzne (t := 254) (by omega) (by decide) dc_14_28_236 (fun c_236 => ?_) (fun c_236 => ?_)
                    · skip
                      refine r_iload rfl dc_14_28_254 ?_
                      refine r_iconst (v := nI 1) (by decide) dc_14_28_256 ?_
                      refine r_ncne (t := 275) (by omega) (by omega) (by decide) dc_14_28_257 (fun c_257 => ?_) (fun c_257 => ?_)
                      · skip
                        refine r_iload rfl dc_14_28_275 ?_
                        refine r_iload rfl dc_14_28_277 ?_
                        refine r_ncne (t := 286) (by omega) (by omega) (by decide) dc_14_28_279 (fun c_279 => ?_) (fun c_279 => ?_)
                        · skip
                          refine r_iconst (v := nI 0) (by decide) dc_14_28_286 ?_
                          refine q_bst (e := S.length) (k := 48) (u := 2) (w := nI 0) (by decide) (by decide) hM rfl rfl rfl (by decide) (show S.length < 80 by omega) (by omega) dc_14_28_287 ?_
                          refine r_iload rfl dc_14_28_288 ?_
                          refine r_iconst (v := nI 1) (by decide) dc_14_28_290 ?_
                          refine r_iadd (v := nI (S.length + 1)) (nI_add _ _) dc_14_28_291 ?_
                          refine r_istore (ls' := [(6, .int (nI (S.length + 1))), (12, .int (nI (w m / 10000 % 10))), (11, .int (nI (w m % 10000))), (10, .int (nI u)), (9, .int (nI (w m / 100000))), (8, .int (nI (w m))), (7, .int (nI (80 * x + m))), (0, .ref 100), (1, .int (nI x)), (2, .int (nI g)), (3, .int (nI t)), (4, .int (nI c)), (5, .int (nI u))]) (by decide) rfl dc_14_28_292 ?_
                          refine r_iinc (x := nI (80 * x + m)) (v := nI (80 * x + m + 1)) (ls' := [(7, .int (nI (80 * x + m + 1))), (6, .int (nI (S.length + 1))), (12, .int (nI (w m / 10000 % 10))), (11, .int (nI (w m % 10000))), (10, .int (nI u)), (9, .int (nI (w m / 100000))), (8, .int (nI (w m))), (0, .ref 100), (1, .int (nI x)), (2, .int (nI g)), (3, .int (nI t)), (4, .int (nI c)), (5, .int (nI u))]) rfl (nI_1 _) (by decide) rfl dc_14_28_294 ?_
                          refine r_goto (t := 9) (by decide) dc_14_28_297 ?_
                          refine r_ls [(7, .int (nI (80 * x + m + 1))), (6, .int (nI (S.length + 1))), (0, .ref 100), (1, .int (nI x)), (2, .int (nI g)), (3, .int (nI t)), (4, .int (nI c)), (5, .int (nI u))] (mm_ndk_of [7, 6, 0, 1, 2, 3, 4, 5] rfl (by decide)) (mm_sub_cons rfl (mm_sub_cons rfl (mm_sub_cons rfl (mm_sub_cons rfl (mm_sub_cons rfl (mm_sub_cons rfl (mm_sub_cons rfl (mm_sub_cons rfl (mm_sub_nil _))))))))) ?_
                          have hcv : cmpv g t c u (w m) = nI 0 := by unfold cmpv; rw [if_neg c_236, if_neg c_257, if_neg (by rw [hv9]; omega)]
                          rw [va_up_up, ← hcv]
                          exact ih_m (cmpv g t c u (w m) :: S) (upd q S.length (cmpv g t c u (w m))) (⟨evk_S hi_m.1 (tk_cmp c_38 c_74 c_82), mt_push hi_m.2.1, Nat.succ_le_succ hi_m.2.2⟩)
                        · skip
                          refine r_iconst (v := nI 1) (by decide) dc_14_28_282 ?_
                          refine r_goto (t := 287) (by decide) dc_14_28_283 ?_
                          refine q_bst (e := S.length) (k := 48) (u := 2) (w := nI 1) (by decide) (by decide) hM rfl rfl rfl (by decide) (show S.length < 80 by omega) (by omega) dc_14_28_287 ?_
                          refine r_iload rfl dc_14_28_288 ?_
                          refine r_iconst (v := nI 1) (by decide) dc_14_28_290 ?_
                          refine r_iadd (v := nI (S.length + 1)) (nI_add _ _) dc_14_28_291 ?_
                          refine r_istore (ls' := [(6, .int (nI (S.length + 1))), (12, .int (nI (w m / 10000 % 10))), (11, .int (nI (w m % 10000))), (10, .int (nI u)), (9, .int (nI (w m / 100000))), (8, .int (nI (w m))), (7, .int (nI (80 * x + m))), (0, .ref 100), (1, .int (nI x)), (2, .int (nI g)), (3, .int (nI t)), (4, .int (nI c)), (5, .int (nI u))]) (by decide) rfl dc_14_28_292 ?_
                          refine r_iinc (x := nI (80 * x + m)) (v := nI (80 * x + m + 1)) (ls' := [(7, .int (nI (80 * x + m + 1))), (6, .int (nI (S.length + 1))), (12, .int (nI (w m / 10000 % 10))), (11, .int (nI (w m % 10000))), (10, .int (nI u)), (9, .int (nI (w m / 100000))), (8, .int (nI (w m))), (0, .ref 100), (1, .int (nI x)), (2, .int (nI g)), (3, .int (nI t)), (4, .int (nI c)), (5, .int (nI u))]) rfl (nI_1 _) (by decide) rfl dc_14_28_294 ?_
                          refine r_goto (t := 9) (by decide) dc_14_28_297 ?_
                          refine r_ls [(7, .int (nI (80 * x + m + 1))), (6, .int (nI (S.length + 1))), (0, .ref 100), (1, .int (nI x)), (2, .int (nI g)), (3, .int (nI t)), (4, .int (nI c)), (5, .int (nI u))] (mm_ndk_of [7, 6, 0, 1, 2, 3, 4, 5] rfl (by decide)) (mm_sub_cons rfl (mm_sub_cons rfl (mm_sub_cons rfl (mm_sub_cons rfl (mm_sub_cons rfl (mm_sub_cons rfl (mm_sub_cons rfl (mm_sub_cons rfl (mm_sub_nil _))))))))) ?_
                          have hcv : cmpv g t c u (w m) = nI 1 := by unfold cmpv; rw [if_neg c_236, if_neg c_257, if_pos (by rw [hv9]; omega)]
                          rw [va_up_up, ← hcv]
                          exact ih_m (cmpv g t c u (w m) :: S) (upd q S.length (cmpv g t c u (w m))) (⟨evk_S hi_m.1 (tk_cmp c_38 c_74 c_82), mt_push hi_m.2.1, Nat.succ_le_succ hi_m.2.2⟩)
                      · skip
                        refine r_iload rfl dc_14_28_260 ?_
                        refine r_iload rfl dc_14_28_262 ?_
                        refine r_ncle (t := 271) (by omega) (by omega) (by decide) dc_14_28_264 (fun c_264 => ?_) (fun c_264 => ?_)
                        · skip
                          refine r_iconst (v := nI 0) (by decide) dc_14_28_271 ?_
                          refine r_goto (t := 287) (by decide) dc_14_28_272 ?_
                          refine q_bst (e := S.length) (k := 48) (u := 2) (w := nI 0) (by decide) (by decide) hM rfl rfl rfl (by decide) (show S.length < 80 by omega) (by omega) dc_14_28_287 ?_
                          refine r_iload rfl dc_14_28_288 ?_
                          refine r_iconst (v := nI 1) (by decide) dc_14_28_290 ?_
                          refine r_iadd (v := nI (S.length + 1)) (nI_add _ _) dc_14_28_291 ?_
                          refine r_istore (ls' := [(6, .int (nI (S.length + 1))), (12, .int (nI (w m / 10000 % 10))), (11, .int (nI (w m % 10000))), (10, .int (nI u)), (9, .int (nI (w m / 100000))), (8, .int (nI (w m))), (7, .int (nI (80 * x + m))), (0, .ref 100), (1, .int (nI x)), (2, .int (nI g)), (3, .int (nI t)), (4, .int (nI c)), (5, .int (nI u))]) (by decide) rfl dc_14_28_292 ?_
                          refine r_iinc (x := nI (80 * x + m)) (v := nI (80 * x + m + 1)) (ls' := [(7, .int (nI (80 * x + m + 1))), (6, .int (nI (S.length + 1))), (12, .int (nI (w m / 10000 % 10))), (11, .int (nI (w m % 10000))), (10, .int (nI u)), (9, .int (nI (w m / 100000))), (8, .int (nI (w m))), (0, .ref 100), (1, .int (nI x)), (2, .int (nI g)), (3, .int (nI t)), (4, .int (nI c)), (5, .int (nI u))]) rfl (nI_1 _) (by decide) rfl dc_14_28_294 ?_
                          refine r_goto (t := 9) (by decide) dc_14_28_297 ?_
                          refine r_ls [(7, .int (nI (80 * x + m + 1))), (6, .int (nI (S.length + 1))), (0, .ref 100), (1, .int (nI x)), (2, .int (nI g)), (3, .int (nI t)), (4, .int (nI c)), (5, .int (nI u))] (mm_ndk_of [7, 6, 0, 1, 2, 3, 4, 5] rfl (by decide)) (mm_sub_cons rfl (mm_sub_cons rfl (mm_sub_cons rfl (mm_sub_cons rfl (mm_sub_cons rfl (mm_sub_cons rfl (mm_sub_cons rfl (mm_sub_cons rfl (mm_sub_nil _))))))))) ?_
                          have hcv : cmpv g t c u (w m) = nI 0 := by unfold cmpv; rw [if_neg c_236, if_pos c_257, if_neg (by rw [hv9]; omega)]
                          rw [va_up_up, ← hcv]
                          exact ih_m (cmpv g t c u (w m) :: S) (upd q S.length (cmpv g t c u (w m))) (⟨evk_S hi_m.1 (tk_cmp c_38 c_74 c_82), mt_push hi_m.2.1, Nat.succ_le_succ hi_m.2.2⟩)
                        · skip
                          refine r_iconst (v := nI 1) (by decide) dc_14_28_267 ?_
                          refine r_goto (t := 287) (by decide) dc_14_28_268 ?_
                          refine q_bst (e := S.length) (k := 48) (u := 2) (w := nI 1) (by decide) (by decide) hM rfl rfl rfl (by decide) (show S.length < 80 by omega) (by omega) dc_14_28_287 ?_
                          refine r_iload rfl dc_14_28_288 ?_
                          refine r_iconst (v := nI 1) (by decide) dc_14_28_290 ?_
                          refine r_iadd (v := nI (S.length + 1)) (nI_add _ _) dc_14_28_291 ?_
                          refine r_istore (ls' := [(6, .int (nI (S.length + 1))), (12, .int (nI (w m / 10000 % 10))), (11, .int (nI (w m % 10000))), (10, .int (nI u)), (9, .int (nI (w m / 100000))), (8, .int (nI (w m))), (7, .int (nI (80 * x + m))), (0, .ref 100), (1, .int (nI x)), (2, .int (nI g)), (3, .int (nI t)), (4, .int (nI c)), (5, .int (nI u))]) (by decide) rfl dc_14_28_292 ?_
                          refine r_iinc (x := nI (80 * x + m)) (v := nI (80 * x + m + 1)) (ls' := [(7, .int (nI (80 * x + m + 1))), (6, .int (nI (S.length + 1))), (12, .int (nI (w m / 10000 % 10))), (11, .int (nI (w m % 10000))), (10, .int (nI u)), (9, .int (nI (w m / 100000))), (8, .int (nI (w m))), (0, .ref 100), (1, .int (nI x)), (2, .int (nI g)), (3, .int (nI t)), (4, .int (nI c)), (5, .int (nI u))]) rfl (nI_1 _) (by decide) rfl dc_14_28_294 ?_
                          refine r_goto (t := 9) (by decide) dc_14_28_297 ?_
                          refine r_ls [(7, .int (nI (80 * x + m + 1))), (6, .int (nI (S.length + 1))), (0, .ref 100), (1, .int (nI x)), (2, .int (nI g)), (3, .int (nI t)), (4, .int (nI c)), (5, .int (nI u))] (mm_ndk_of [7, 6, 0, 1, 2, 3, 4, 5] rfl (by decide)) (mm_sub_cons rfl (mm_sub_cons rfl (mm_sub_cons rfl (mm_sub_cons rfl (mm_sub_cons rfl (mm_sub_cons rfl (mm_sub_cons rfl (mm_sub_cons rfl (mm_sub_nil _))))))))) ?_
                          have hcv : cmpv g t c u (w m) = nI 1 := by unfold cmpv; rw [if_neg c_236, if_pos c_257, if_pos (by rw [hv9]; omega)]
                          rw [va_up_up, ← hcv]
                          exact ih_m (cmpv g t c u (w m) :: S) (upd q S.length (cmpv g t c u (w m))) (⟨evk_S hi_m.1 (tk_cmp c_38 c_74 c_82), mt_push hi_m.2.1, Nat.succ_le_succ hi_m.2.2⟩)
                    · skip
                      refine r_iload rfl dc_14_28_239 ?_
                      refine r_iload rfl dc_14_28_241 ?_
                      refine r_ncge (t := 250) (by omega) (by omega) (by decide) dc_14_28_243 (fun c_243 => ?_) (fun c_243 => ?_)
                      · skip
                        refine r_iconst (v := nI 0) (by decide) dc_14_28_250 ?_
                        refine r_goto (t := 287) (by decide) dc_14_28_251 ?_
                        refine q_bst (e := S.length) (k := 48) (u := 2) (w := nI 0) (by decide) (by decide) hM rfl rfl rfl (by decide) (show S.length < 80 by omega) (by omega) dc_14_28_287 ?_
                        refine r_iload rfl dc_14_28_288 ?_
                        refine r_iconst (v := nI 1) (by decide) dc_14_28_290 ?_
                        refine r_iadd (v := nI (S.length + 1)) (nI_add _ _) dc_14_28_291 ?_
                        refine r_istore (ls' := [(6, .int (nI (S.length + 1))), (12, .int (nI (w m / 10000 % 10))), (11, .int (nI (w m % 10000))), (10, .int (nI u)), (9, .int (nI (w m / 100000))), (8, .int (nI (w m))), (7, .int (nI (80 * x + m))), (0, .ref 100), (1, .int (nI x)), (2, .int (nI g)), (3, .int (nI t)), (4, .int (nI c)), (5, .int (nI u))]) (by decide) rfl dc_14_28_292 ?_
                        refine r_iinc (x := nI (80 * x + m)) (v := nI (80 * x + m + 1)) (ls' := [(7, .int (nI (80 * x + m + 1))), (6, .int (nI (S.length + 1))), (12, .int (nI (w m / 10000 % 10))), (11, .int (nI (w m % 10000))), (10, .int (nI u)), (9, .int (nI (w m / 100000))), (8, .int (nI (w m))), (0, .ref 100), (1, .int (nI x)), (2, .int (nI g)), (3, .int (nI t)), (4, .int (nI c)), (5, .int (nI u))]) rfl (nI_1 _) (by decide) rfl dc_14_28_294 ?_
                        refine r_goto (t := 9) (by decide) dc_14_28_297 ?_
                        refine r_ls [(7, .int (nI (80 * x + m + 1))), (6, .int (nI (S.length + 1))), (0, .ref 100), (1, .int (nI x)), (2, .int (nI g)), (3, .int (nI t)), (4, .int (nI c)), (5, .int (nI u))] (mm_ndk_of [7, 6, 0, 1, 2, 3, 4, 5] rfl (by decide)) (mm_sub_cons rfl (mm_sub_cons rfl (mm_sub_cons rfl (mm_sub_cons rfl (mm_sub_cons rfl (mm_sub_cons rfl (mm_sub_cons rfl (mm_sub_cons rfl (mm_sub_nil _))))))))) ?_
                        have hcv : cmpv g t c u (w m) = nI 0 := by unfold cmpv; rw [if_pos c_236, if_neg (by rw [hv9]; omega)]
                        rw [va_up_up, ← hcv]
                        exact ih_m (cmpv g t c u (w m) :: S) (upd q S.length (cmpv g t c u (w m))) (⟨evk_S hi_m.1 (tk_cmp c_38 c_74 c_82), mt_push hi_m.2.1, Nat.succ_le_succ hi_m.2.2⟩)
                      · skip
                        refine r_iconst (v := nI 1) (by decide) dc_14_28_246 ?_
                        refine r_goto (t := 287) (by decide) dc_14_28_247 ?_
                        refine q_bst (e := S.length) (k := 48) (u := 2) (w := nI 1) (by decide) (by decide) hM rfl rfl rfl (by decide) (show S.length < 80 by omega) (by omega) dc_14_28_287 ?_
                        refine r_iload rfl dc_14_28_288 ?_
                        refine r_iconst (v := nI 1) (by decide) dc_14_28_290 ?_
                        refine r_iadd (v := nI (S.length + 1)) (nI_add _ _) dc_14_28_291 ?_
                        refine r_istore (ls' := [(6, .int (nI (S.length + 1))), (12, .int (nI (w m / 10000 % 10))), (11, .int (nI (w m % 10000))), (10, .int (nI u)), (9, .int (nI (w m / 100000))), (8, .int (nI (w m))), (7, .int (nI (80 * x + m))), (0, .ref 100), (1, .int (nI x)), (2, .int (nI g)), (3, .int (nI t)), (4, .int (nI c)), (5, .int (nI u))]) (by decide) rfl dc_14_28_292 ?_
                        refine r_iinc (x := nI (80 * x + m)) (v := nI (80 * x + m + 1)) (ls' := [(7, .int (nI (80 * x + m + 1))), (6, .int (nI (S.length + 1))), (12, .int (nI (w m / 10000 % 10))), (11, .int (nI (w m % 10000))), (10, .int (nI u)), (9, .int (nI (w m / 100000))), (8, .int (nI (w m))), (0, .ref 100), (1, .int (nI x)), (2, .int (nI g)), (3, .int (nI t)), (4, .int (nI c)), (5, .int (nI u))]) rfl (nI_1 _) (by decide) rfl dc_14_28_294 ?_
                        refine r_goto (t := 9) (by decide) dc_14_28_297 ?_
                        refine r_ls [(7, .int (nI (80 * x + m + 1))), (6, .int (nI (S.length + 1))), (0, .ref 100), (1, .int (nI x)), (2, .int (nI g)), (3, .int (nI t)), (4, .int (nI c)), (5, .int (nI u))] (mm_ndk_of [7, 6, 0, 1, 2, 3, 4, 5] rfl (by decide)) (mm_sub_cons rfl (mm_sub_cons rfl (mm_sub_cons rfl (mm_sub_cons rfl (mm_sub_cons rfl (mm_sub_cons rfl (mm_sub_cons rfl (mm_sub_cons rfl (mm_sub_nil _))))))))) ?_
                        have hcv : cmpv g t c u (w m) = nI 1 := by unfold cmpv; rw [if_pos c_236, if_pos (by rw [hv9]; omega)]
                        rw [va_up_up, ← hcv]
                        exact ih_m (cmpv g t c u (w m) :: S) (upd q S.length (cmpv g t c u (w m))) (⟨evk_S hi_m.1 (tk_cmp c_38 c_74 c_82), mt_push hi_m.2.1, Nat.succ_le_succ hi_m.2.2⟩)
                  · skip
                    refine r_iload rfl dc_14_28_200 ?_
                    refine r_goto (t := 207) (by decide) dc_14_28_202 ?_
                    have hv9 : vl g t c u (w m / 100000) = c := by unfold vl; rw [if_neg c_177, if_neg c_187, if_pos c_197]
                    refine r_istore (ls' := [(10, .int (nI c)), (9, .int (nI (w m / 100000))), (8, .int (nI (w m))), (7, .int (nI (80 * x + m))), (6, .int (nI S.length)), (0, .ref 100), (1, .int (nI x)), (2, .int (nI g)), (3, .int (nI t)), (4, .int (nI c)), (5, .int (nI u))]) (by decide) rfl dc_14_28_207 ?_
                    refine r_iload rfl dc_14_28_209 ?_
                    refine r_sipush (v := nI 10000) (by decide) dc_14_28_211 ?_
                    refine r_irem (v := nI (w m % 10000)) (by decide) (rm_n (by omega) (by decide) (by decide)) dc_14_28_214 ?_
                    refine r_istore (ls' := [(11, .int (nI (w m % 10000))), (10, .int (nI c)), (9, .int (nI (w m / 100000))), (8, .int (nI (w m))), (7, .int (nI (80 * x + m))), (6, .int (nI S.length)), (0, .ref 100), (1, .int (nI x)), (2, .int (nI g)), (3, .int (nI t)), (4, .int (nI c)), (5, .int (nI u))]) (by decide) rfl dc_14_28_215 ?_
                    refine r_iload rfl dc_14_28_217 ?_
                    refine r_sipush (v := nI 10000) (by decide) dc_14_28_219 ?_
                    refine r_idiv (v := nI (w m / 10000)) (by decide) (pk_div (by omega) (by decide) (by decide)) dc_14_28_222 ?_
                    refine r_bipush (v := nI 10) (by decide) dc_14_28_223 ?_
                    refine r_irem (v := nI (w m / 10000 % 10)) (by decide) (rm_n (by omega) (by decide) (by decide)) dc_14_28_225 ?_
                    refine r_istore (ls' := [(12, .int (nI (w m / 10000 % 10))), (11, .int (nI (w m % 10000))), (10, .int (nI c)), (9, .int (nI (w m / 100000))), (8, .int (nI (w m))), (7, .int (nI (80 * x + m))), (6, .int (nI S.length)), (0, .ref 100), (1, .int (nI x)), (2, .int (nI g)), (3, .int (nI t)), (4, .int (nI c)), (5, .int (nI u))]) (by decide) rfl dc_14_28_226 ?_
                    refine r_aload_n rfl dc_14_28_228 ?_
                    refine q_get (v := .ref 130) rx_99 hM rfl dc_14_28_229 ?_
                    refine r_iload rfl dc_14_28_232 ?_
                    refine r_iload rfl dc_14_28_234 ?_
                    refine r_nzne (t := 254) (by omega) (by decide) dc_14_28_236 (fun c_236 => ?_) (fun c_236 => ?_)
                    · skip
                      refine r_iload rfl dc_14_28_254 ?_
                      refine r_iconst (v := nI 1) (by decide) dc_14_28_256 ?_
                      refine r_ncne (t := 275) (by omega) (by omega) (by decide) dc_14_28_257 (fun c_257 => ?_) (fun c_257 => ?_)
                      · skip
                        refine r_iload rfl dc_14_28_275 ?_
                        refine r_iload rfl dc_14_28_277 ?_
                        refine r_ncne (t := 286) (by omega) (by omega) (by decide) dc_14_28_279 (fun c_279 => ?_) (fun c_279 => ?_)
                        · skip
                          refine r_iconst (v := nI 0) (by decide) dc_14_28_286 ?_
                          refine q_bst (e := S.length) (k := 48) (u := 2) (w := nI 0) (by decide) (by decide) hM rfl rfl rfl (by decide) (show S.length < 80 by omega) (by omega) dc_14_28_287 ?_
                          refine r_iload rfl dc_14_28_288 ?_
                          refine r_iconst (v := nI 1) (by decide) dc_14_28_290 ?_
                          refine r_iadd (v := nI (S.length + 1)) (nI_add _ _) dc_14_28_291 ?_
                          refine r_istore (ls' := [(6, .int (nI (S.length + 1))), (12, .int (nI (w m / 10000 % 10))), (11, .int (nI (w m % 10000))), (10, .int (nI c)), (9, .int (nI (w m / 100000))), (8, .int (nI (w m))), (7, .int (nI (80 * x + m))), (0, .ref 100), (1, .int (nI x)), (2, .int (nI g)), (3, .int (nI t)), (4, .int (nI c)), (5, .int (nI u))]) (by decide) rfl dc_14_28_292 ?_
                          refine r_iinc (x := nI (80 * x + m)) (v := nI (80 * x + m + 1)) (ls' := [(7, .int (nI (80 * x + m + 1))), (6, .int (nI (S.length + 1))), (12, .int (nI (w m / 10000 % 10))), (11, .int (nI (w m % 10000))), (10, .int (nI c)), (9, .int (nI (w m / 100000))), (8, .int (nI (w m))), (0, .ref 100), (1, .int (nI x)), (2, .int (nI g)), (3, .int (nI t)), (4, .int (nI c)), (5, .int (nI u))]) rfl (nI_1 _) (by decide) rfl dc_14_28_294 ?_
                          refine r_goto (t := 9) (by decide) dc_14_28_297 ?_
                          refine r_ls [(7, .int (nI (80 * x + m + 1))), (6, .int (nI (S.length + 1))), (0, .ref 100), (1, .int (nI x)), (2, .int (nI g)), (3, .int (nI t)), (4, .int (nI c)), (5, .int (nI u))] (mm_ndk_of [7, 6, 0, 1, 2, 3, 4, 5] rfl (by decide)) (mm_sub_cons rfl (mm_sub_cons rfl (mm_sub_cons rfl (mm_sub_cons rfl (mm_sub_cons rfl (mm_sub_cons rfl (mm_sub_cons rfl (mm_sub_cons rfl (mm_sub_nil _))))))))) ?_
                          have hcv : cmpv g t c u (w m) = nI 0 := by unfold cmpv; rw [if_neg c_236, if_neg c_257, if_neg (by rw [hv9]; omega)]
                          rw [va_up_up, ← hcv]
                          exact ih_m (cmpv g t c u (w m) :: S) (upd q S.length (cmpv g t c u (w m))) (⟨evk_S hi_m.1 (tk_cmp c_38 c_74 c_82), mt_push hi_m.2.1, Nat.succ_le_succ hi_m.2.2⟩)
                        · skip
                          refine r_iconst (v := nI 1) (by decide) dc_14_28_282 ?_
                          refine r_goto (t := 287) (by decide) dc_14_28_283 ?_
                          refine q_bst (e := S.length) (k := 48) (u := 2) (w := nI 1) (by decide) (by decide) hM rfl rfl rfl (by decide) (show S.length < 80 by omega) (by omega) dc_14_28_287 ?_
                          refine r_iload rfl dc_14_28_288 ?_
                          refine r_iconst (v := nI 1) (by decide) dc_14_28_290 ?_
                          refine r_iadd (v := nI (S.length + 1)) (nI_add _ _) dc_14_28_291 ?_
                          refine r_istore (ls' := [(6, .int (nI (S.length + 1))), (12, .int (nI (w m / 10000 % 10))), (11, .int (nI (w m % 10000))), (10, .int (nI c)), (9, .int (nI (w m / 100000))), (8, .int (nI (w m))), (7, .int (nI (80 * x + m))), (0, .ref 100), (1, .int (nI x)), (2, .int (nI g)), (3, .int (nI t)), (4, .int (nI c)), (5, .int (nI u))]) (by decide) rfl dc_14_28_292 ?_
                          refine r_iinc (x := nI (80 * x + m)) (v := nI (80 * x + m + 1)) (ls' := [(7, .int (nI (80 * x + m + 1))), (6, .int (nI (S.length + 1))), (12, .int (nI (w m / 10000 % 10))), (11, .int (nI (w m % 10000))), (10, .int (nI c)), (9, .int (nI (w m / 100000))), (8, .int (nI (w m))), (0, .ref 100), (1, .int (nI x)), (2, .int (nI g)), (3, .int (nI t)), (4, .int (nI c)), (5, .int (nI u))]) rfl (nI_1 _) (by decide) rfl dc_14_28_294 ?_
                          refine r_goto (t := 9) (by decide) dc_14_28_297 ?_
                          refine r_ls [(7, .int (nI (80 * x + m + 1))), (6, .int (nI (S.length + 1))), (0, .ref 100), (1, .int (nI x)), (2, .int (nI g)), (3, .int (nI t)), (4, .int (nI c)), (5, .int (nI u))] (mm_ndk_of [7, 6, 0, 1, 2, 3, 4, 5] rfl (by decide)) (mm_sub_cons rfl (mm_sub_cons rfl (mm_sub_cons rfl (mm_sub_cons rfl (mm_sub_cons rfl (mm_sub_cons rfl (mm_sub_cons rfl (mm_sub_cons rfl (mm_sub_nil _))))))))) ?_
                          have hcv : cmpv g t c u (w m) = nI 1 := by unfold cmpv; rw [if_neg c_236, if_neg c_257, if_pos (by rw [hv9]; omega)]
                          rw [va_up_up, ← hcv]
                          exact ih_m (cmpv g t c u (w m) :: S) (upd q S.length (cmpv g t c u (w m))) (⟨evk_S hi_m.1 (tk_cmp c_38 c_74 c_82), mt_push hi_m.2.1, Nat.succ_le_succ hi_m.2.2⟩)
                      · skip
                        refine r_iload rfl dc_14_28_260 ?_
                        refine r_iload rfl dc_14_28_262 ?_
                        refine r_ncle (t := 271) (by omega) (by omega) (by decide) dc_14_28_264 (fun c_264 => ?_) (fun c_264 => ?_)
                        · skip
                          refine r_iconst (v := nI 0) (by decide) dc_14_28_271 ?_
                          refine r_goto (t := 287) (by decide) dc_14_28_272 ?_
                          refine q_bst (e := S.length) (k := 48) (u := 2) (w := nI 0) (by decide) (by decide) hM rfl rfl rfl (by decide) (show S.length < 80 by omega) (by omega) dc_14_28_287 ?_
                          refine r_iload rfl dc_14_28_288 ?_
                          refine r_iconst (v := nI 1) (by decide) dc_14_28_290 ?_
                          refine r_iadd (v := nI (S.length + 1)) (nI_add _ _) dc_14_28_291 ?_
                          refine r_istore (ls' := [(6, .int (nI (S.length + 1))), (12, .int (nI (w m / 10000 % 10))), (11, .int (nI (w m % 10000))), (10, .int (nI c)), (9, .int (nI (w m / 100000))), (8, .int (nI (w m))), (7, .int (nI (80 * x + m))), (0, .ref 100), (1, .int (nI x)), (2, .int (nI g)), (3, .int (nI t)), (4, .int (nI c)), (5, .int (nI u))]) (by decide) rfl dc_14_28_292 ?_
                          refine r_iinc (x := nI (80 * x + m)) (v := nI (80 * x + m + 1)) (ls' := [(7, .int (nI (80 * x + m + 1))), (6, .int (nI (S.length + 1))), (12, .int (nI (w m / 10000 % 10))), (11, .int (nI (w m % 10000))), (10, .int (nI c)), (9, .int (nI (w m / 100000))), (8, .int (nI (w m))), (0, .ref 100), (1, .int (nI x)), (2, .int (nI g)), (3, .int (nI t)), (4, .int (nI c)), (5, .int (nI u))]) rfl (nI_1 _) (by decide) rfl dc_14_28_294 ?_
                          refine r_goto (t := 9) (by decide) dc_14_28_297 ?_
                          refine r_ls [(7, .int (nI (80 * x + m + 1))), (6, .int (nI (S.length + 1))), (0, .ref 100), (1, .int (nI x)), (2, .int (nI g)), (3, .int (nI t)), (4, .int (nI c)), (5, .int (nI u))] (mm_ndk_of [7, 6, 0, 1, 2, 3, 4, 5] rfl (by decide)) (mm_sub_cons rfl (mm_sub_cons rfl (mm_sub_cons rfl (mm_sub_cons rfl (mm_sub_cons rfl (mm_sub_cons rfl (mm_sub_cons rfl (mm_sub_cons rfl (mm_sub_nil _))))))))) ?_
                          have hcv : cmpv g t c u (w m) = nI 0 := by unfold cmpv; rw [if_neg c_236, if_pos c_257, if_neg (by rw [hv9]; omega)]
                          rw [va_up_up, ← hcv]
                          exact ih_m (cmpv g t c u (w m) :: S) (upd q S.length (cmpv g t c u (w m))) (⟨evk_S hi_m.1 (tk_cmp c_38 c_74 c_82), mt_push hi_m.2.1, Nat.succ_le_succ hi_m.2.2⟩)
                        · skip
                          refine r_iconst (v := nI 1) (by decide) dc_14_28_267 ?_
                          refine r_goto (t := 287) (by decide) dc_14_28_268 ?_
                          refine q_bst (e := S.length) (k := 48) (u := 2) (w := nI 1) (by decide) (by decide) hM rfl rfl rfl (by decide) (show S.length < 80 by omega) (by omega) dc_14_28_287 ?_
                          refine r_iload rfl dc_14_28_288 ?_
                          refine r_iconst (v := nI 1) (by decide) dc_14_28_290 ?_
                          refine r_iadd (v := nI (S.length + 1)) (nI_add _ _) dc_14_28_291 ?_
                          refine r_istore (ls' := [(6, .int (nI (S.length + 1))), (12, .int (nI (w m / 10000 % 10))), (11, .int (nI (w m % 10000))), (10, .int (nI c)), (9, .int (nI (w m / 100000))), (8, .int (nI (w m))), (7, .int (nI (80 * x + m))), (0, .ref 100), (1, .int (nI x)), (2, .int (nI g)), (3, .int (nI t)), (4, .int (nI c)), (5, .int (nI u))]) (by decide) rfl dc_14_28_292 ?_
                          refine r_iinc (x := nI (80 * x + m)) (v := nI (80 * x + m + 1)) (ls' := [(7, .int (nI (80 * x + m + 1))), (6, .int (nI (S.length + 1))), (12, .int (nI (w m / 10000 % 10))), (11, .int (nI (w m % 10000))), (10, .int (nI c)), (9, .int (nI (w m / 100000))), (8, .int (nI (w m))), (0, .ref 100), (1, .int (nI x)), (2, .int (nI g)), (3, .int (nI t)), (4, .int (nI c)), (5, .int (nI u))]) rfl (nI_1 _) (by decide) rfl dc_14_28_294 ?_
                          refine r_goto (t := 9) (by decide) dc_14_28_297 ?_
                          refine r_ls [(7, .int (nI (80 * x + m + 1))), (6, .int (nI (S.length + 1))), (0, .ref 100), (1, .int (nI x)), (2, .int (nI g)), (3, .int (nI t)), (4, .int (nI c)), (5, .int (nI u))] (mm_ndk_of [7, 6, 0, 1, 2, 3, 4, 5] rfl (by decide)) (mm_sub_cons rfl (mm_sub_cons rfl (mm_sub_cons rfl (mm_sub_cons rfl (mm_sub_cons rfl (mm_sub_cons rfl (mm_sub_cons rfl (mm_sub_cons rfl (mm_sub_nil _))))))))) ?_
                          have hcv : cmpv g t c u (w m) = nI 1 := by unfold cmpv; rw [if_neg c_236, if_pos c_257, if_pos (by rw [hv9]; omega)]
                          rw [va_up_up, ← hcv]
                          exact ih_m (cmpv g t c u (w m) :: S) (upd q S.length (cmpv g t c u (w m))) (⟨evk_S hi_m.1 (tk_cmp c_38 c_74 c_82), mt_push hi_m.2.1, Nat.succ_le_succ hi_m.2.2⟩)
                    · skip
                      refine r_iload rfl dc_14_28_239 ?_
                      refine r_iload rfl dc_14_28_241 ?_
                      refine r_ncge (t := 250) (by omega) (by omega) (by decide) dc_14_28_243 (fun c_243 => ?_) (fun c_243 => ?_)
                      · skip
                        refine r_iconst (v := nI 0) (by decide) dc_14_28_250 ?_
                        refine r_goto (t := 287) (by decide) dc_14_28_251 ?_
                        refine q_bst (e := S.length) (k := 48) (u := 2) (w := nI 0) (by decide) (by decide) hM rfl rfl rfl (by decide) (show S.length < 80 by omega) (by omega) dc_14_28_287 ?_
                        refine r_iload rfl dc_14_28_288 ?_
                        refine r_iconst (v := nI 1) (by decide) dc_14_28_290 ?_
                        refine r_iadd (v := nI (S.length + 1)) (nI_add _ _) dc_14_28_291 ?_
                        refine r_istore (ls' := [(6, .int (nI (S.length + 1))), (12, .int (nI (w m / 10000 % 10))), (11, .int (nI (w m % 10000))), (10, .int (nI c)), (9, .int (nI (w m / 100000))), (8, .int (nI (w m))), (7, .int (nI (80 * x + m))), (0, .ref 100), (1, .int (nI x)), (2, .int (nI g)), (3, .int (nI t)), (4, .int (nI c)), (5, .int (nI u))]) (by decide) rfl dc_14_28_292 ?_
                        refine r_iinc (x := nI (80 * x + m)) (v := nI (80 * x + m + 1)) (ls' := [(7, .int (nI (80 * x + m + 1))), (6, .int (nI (S.length + 1))), (12, .int (nI (w m / 10000 % 10))), (11, .int (nI (w m % 10000))), (10, .int (nI c)), (9, .int (nI (w m / 100000))), (8, .int (nI (w m))), (0, .ref 100), (1, .int (nI x)), (2, .int (nI g)), (3, .int (nI t)), (4, .int (nI c)), (5, .int (nI u))]) rfl (nI_1 _) (by decide) rfl dc_14_28_294 ?_
                        refine r_goto (t := 9) (by decide) dc_14_28_297 ?_
                        refine r_ls [(7, .int (nI (80 * x + m + 1))), (6, .int (nI (S.length + 1))), (0, .ref 100), (1, .int (nI x)), (2, .int (nI g)), (3, .int (nI t)), (4, .int (nI c)), (5, .int (nI u))] (mm_ndk_of [7, 6, 0, 1, 2, 3, 4, 5] rfl (by decide)) (mm_sub_cons rfl (mm_sub_cons rfl (mm_sub_cons rfl (mm_sub_cons rfl (mm_sub_cons rfl (mm_sub_cons rfl (mm_sub_cons rfl (mm_sub_cons rfl (mm_sub_nil _))))))))) ?_
                        have hcv : cmpv g t c u (w m) = nI 0 := by unfold cmpv; rw [if_pos c_236, if_neg (by rw [hv9]; omega)]
                        rw [va_up_up, ← hcv]
                        exact ih_m (cmpv g t c u (w m) :: S) (upd q S.length (cmpv g t c u (w m))) (⟨evk_S hi_m.1 (tk_cmp c_38 c_74 c_82), mt_push hi_m.2.1, Nat.succ_le_succ hi_m.2.2⟩)
                      · skip
                        refine r_iconst (v := nI 1) (by decide) dc_14_28_246 ?_
                        refine r_goto (t := 287) (by decide) dc_14_28_247 ?_
                        refine q_bst (e := S.length) (k := 48) (u := 2) (w := nI 1) (by decide) (by decide) hM rfl rfl rfl (by decide) (show S.length < 80 by omega) (by omega) dc_14_28_287 ?_
                        refine r_iload rfl dc_14_28_288 ?_
                        refine r_iconst (v := nI 1) (by decide) dc_14_28_290 ?_
                        refine r_iadd (v := nI (S.length + 1)) (nI_add _ _) dc_14_28_291 ?_
                        refine r_istore (ls' := [(6, .int (nI (S.length + 1))), (12, .int (nI (w m / 10000 % 10))), (11, .int (nI (w m % 10000))), (10, .int (nI c)), (9, .int (nI (w m / 100000))), (8, .int (nI (w m))), (7, .int (nI (80 * x + m))), (0, .ref 100), (1, .int (nI x)), (2, .int (nI g)), (3, .int (nI t)), (4, .int (nI c)), (5, .int (nI u))]) (by decide) rfl dc_14_28_292 ?_
                        refine r_iinc (x := nI (80 * x + m)) (v := nI (80 * x + m + 1)) (ls' := [(7, .int (nI (80 * x + m + 1))), (6, .int (nI (S.length + 1))), (12, .int (nI (w m / 10000 % 10))), (11, .int (nI (w m % 10000))), (10, .int (nI c)), (9, .int (nI (w m / 100000))), (8, .int (nI (w m))), (0, .ref 100), (1, .int (nI x)), (2, .int (nI g)), (3, .int (nI t)), (4, .int (nI c)), (5, .int (nI u))]) rfl (nI_1 _) (by decide) rfl dc_14_28_294 ?_
                        refine r_goto (t := 9) (by decide) dc_14_28_297 ?_
                        refine r_ls [(7, .int (nI (80 * x + m + 1))), (6, .int (nI (S.length + 1))), (0, .ref 100), (1, .int (nI x)), (2, .int (nI g)), (3, .int (nI t)), (4, .int (nI c)), (5, .int (nI u))] (mm_ndk_of [7, 6, 0, 1, 2, 3, 4, 5] rfl (by decide)) (mm_sub_cons rfl (mm_sub_cons rfl (mm_sub_cons rfl (mm_sub_cons rfl (mm_sub_cons rfl (mm_sub_cons rfl (mm_sub_cons rfl (mm_sub_cons rfl (mm_sub_nil _))))))))) ?_
                        have hcv : cmpv g t c u (w m) = nI 1 := by unfold cmpv; rw [if_pos c_236, if_pos (by rw [hv9]; omega)]
                        rw [va_up_up, ← hcv]
                        exact ih_m (cmpv g t c u (w m) :: S) (upd q S.length (cmpv g t c u (w m))) (⟨evk_S hi_m.1 (tk_cmp c_38 c_74 c_82), mt_push hi_m.2.1, Nat.succ_le_succ hi_m.2.2⟩)
                · skip
                  refine r_iload_n rfl dc_14_28_190 ?_
                  refine r_goto (t := 207) (by decide) dc_14_28_191 ?_
                  have hv9 : vl g t c u (w m / 100000) = t := by unfold vl; rw [if_neg c_177, if_pos c_187]
                  refine r_istore (ls' := [(10, .int (nI t)), (9, .int (nI (w m / 100000))), (8, .int (nI (w m))), (7, .int (nI (80 * x + m))), (6, .int (nI S.length)), (0, .ref 100), (1, .int (nI x)), (2, .int (nI g)), (3, .int (nI t)), (4, .int (nI c)), (5, .int (nI u))]) (by decide) rfl dc_14_28_207 ?_
                  refine r_iload rfl dc_14_28_209 ?_
                  refine r_sipush (v := nI 10000) (by decide) dc_14_28_211 ?_
                  refine r_irem (v := nI (w m % 10000)) (by decide) (rm_n (by omega) (by decide) (by decide)) dc_14_28_214 ?_
                  refine r_istore (ls' := [(11, .int (nI (w m % 10000))), (10, .int (nI t)), (9, .int (nI (w m / 100000))), (8, .int (nI (w m))), (7, .int (nI (80 * x + m))), (6, .int (nI S.length)), (0, .ref 100), (1, .int (nI x)), (2, .int (nI g)), (3, .int (nI t)), (4, .int (nI c)), (5, .int (nI u))]) (by decide) rfl dc_14_28_215 ?_
                  refine r_iload rfl dc_14_28_217 ?_
                  refine r_sipush (v := nI 10000) (by decide) dc_14_28_219 ?_
                  refine r_idiv (v := nI (w m / 10000)) (by decide) (pk_div (by omega) (by decide) (by decide)) dc_14_28_222 ?_
                  refine r_bipush (v := nI 10) (by decide) dc_14_28_223 ?_
                  refine r_irem (v := nI (w m / 10000 % 10)) (by decide) (rm_n (by omega) (by decide) (by decide)) dc_14_28_225 ?_
                  refine r_istore (ls' := [(12, .int (nI (w m / 10000 % 10))), (11, .int (nI (w m % 10000))), (10, .int (nI t)), (9, .int (nI (w m / 100000))), (8, .int (nI (w m))), (7, .int (nI (80 * x + m))), (6, .int (nI S.length)), (0, .ref 100), (1, .int (nI x)), (2, .int (nI g)), (3, .int (nI t)), (4, .int (nI c)), (5, .int (nI u))]) (by decide) rfl dc_14_28_226 ?_
                  refine r_aload_n rfl dc_14_28_228 ?_
                  refine q_get (v := .ref 130) rx_99 hM rfl dc_14_28_229 ?_
                  refine r_iload rfl dc_14_28_232 ?_
                  refine r_iload rfl dc_14_28_234 ?_
                  refine r_nzne (t := 254) (by omega) (by decide) dc_14_28_236 (fun c_236 => ?_) (fun c_236 => ?_)
                  · skip
                    refine r_iload rfl dc_14_28_254 ?_
                    refine r_iconst (v := nI 1) (by decide) dc_14_28_256 ?_
                    refine r_ncne (t := 275) (by omega) (by omega) (by decide) dc_14_28_257 (fun c_257 => ?_) (fun c_257 => ?_)
                    · skip
                      refine r_iload rfl dc_14_28_275 ?_
                      refine r_iload rfl dc_14_28_277 ?_
                      refine r_ncne (t := 286) (by omega) (by omega) (by decide) dc_14_28_279 (fun c_279 => ?_) (fun c_279 => ?_)
                      · skip
                        refine r_iconst (v := nI 0) (by decide) dc_14_28_286 ?_
                        refine q_bst (e := S.length) (k := 48) (u := 2) (w := nI 0) (by decide) (by decide) hM rfl rfl rfl (by decide) (show S.length < 80 by omega) (by omega) dc_14_28_287 ?_
                        refine r_iload rfl dc_14_28_288 ?_
                        refine r_iconst (v := nI 1) (by decide) dc_14_28_290 ?_
                        refine r_iadd (v := nI (S.length + 1)) (nI_add _ _) dc_14_28_291 ?_
                        refine r_istore (ls' := [(6, .int (nI (S.length + 1))), (12, .int (nI (w m / 10000 % 10))), (11, .int (nI (w m % 10000))), (10, .int (nI t)), (9, .int (nI (w m / 100000))), (8, .int (nI (w m))), (7, .int (nI (80 * x + m))), (0, .ref 100), (1, .int (nI x)), (2, .int (nI g)), (3, .int (nI t)), (4, .int (nI c)), (5, .int (nI u))]) (by decide) rfl dc_14_28_292 ?_
                        refine r_iinc (x := nI (80 * x + m)) (v := nI (80 * x + m + 1)) (ls' := [(7, .int (nI (80 * x + m + 1))), (6, .int (nI (S.length + 1))), (12, .int (nI (w m / 10000 % 10))), (11, .int (nI (w m % 10000))), (10, .int (nI t)), (9, .int (nI (w m / 100000))), (8, .int (nI (w m))), (0, .ref 100), (1, .int (nI x)), (2, .int (nI g)), (3, .int (nI t)), (4, .int (nI c)), (5, .int (nI u))]) rfl (nI_1 _) (by decide) rfl dc_14_28_294 ?_
                        refine r_goto (t := 9) (by decide) dc_14_28_297 ?_
                        refine r_ls [(7, .int (nI (80 * x + m + 1))), (6, .int (nI (S.length + 1))), (0, .ref 100), (1, .int (nI x)), (2, .int (nI g)), (3, .int (nI t)), (4, .int (nI c)), (5, .int (nI u))] (mm_ndk_of [7, 6, 0, 1, 2, 3, 4, 5] rfl (by decide)) (mm_sub_cons rfl (mm_sub_cons rfl (mm_sub_cons rfl (mm_sub_cons rfl (mm_sub_cons rfl (mm_sub_cons rfl (mm_sub_cons rfl (mm_sub_cons rfl (mm_sub_nil _))))))))) ?_
                        have hcv : cmpv g t c u (w m) = nI 0 := by unfold cmpv; rw [if_neg c_236, if_neg c_257, if_neg (by rw [hv9]; omega)]
                        rw [va_up_up, ← hcv]
                        exact ih_m (cmpv g t c u (w m) :: S) (upd q S.length (cmpv g t c u (w m))) (⟨evk_S hi_m.1 (tk_cmp c_38 c_74 c_82), mt_push hi_m.2.1, Nat.succ_le_succ hi_m.2.2⟩)
                      · skip
                        refine r_iconst (v := nI 1) (by decide) dc_14_28_282 ?_
                        refine r_goto (t := 287) (by decide) dc_14_28_283 ?_
                        refine q_bst (e := S.length) (k := 48) (u := 2) (w := nI 1) (by decide) (by decide) hM rfl rfl rfl (by decide) (show S.length < 80 by omega) (by omega) dc_14_28_287 ?_
                        refine r_iload rfl dc_14_28_288 ?_
                        refine r_iconst (v := nI 1) (by decide) dc_14_28_290 ?_
                        refine r_iadd (v := nI (S.length + 1)) (nI_add _ _) dc_14_28_291 ?_
                        refine r_istore (ls' := [(6, .int (nI (S.length + 1))), (12, .int (nI (w m / 10000 % 10))), (11, .int (nI (w m % 10000))), (10, .int (nI t)), (9, .int (nI (w m / 100000))), (8, .int (nI (w m))), (7, .int (nI (80 * x + m))), (0, .ref 100), (1, .int (nI x)), (2, .int (nI g)), (3, .int (nI t)), (4, .int (nI c)), (5, .int (nI u))]) (by decide) rfl dc_14_28_292 ?_
                        refine r_iinc (x := nI (80 * x + m)) (v := nI (80 * x + m + 1)) (ls' := [(7, .int (nI (80 * x + m + 1))), (6, .int (nI (S.length + 1))), (12, .int (nI (w m / 10000 % 10))), (11, .int (nI (w m % 10000))), (10, .int (nI t)), (9, .int (nI (w m / 100000))), (8, .int (nI (w m))), (0, .ref 100), (1, .int (nI x)), (2, .int (nI g)), (3, .int (nI t)), (4, .int (nI c)), (5, .int (nI u))]) rfl (nI_1 _) (by decide) rfl dc_14_28_294 ?_
                        refine r_goto (t := 9) (by decide) dc_14_28_297 ?_
                        refine r_ls [(7, .int (nI (80 * x + m + 1))), (6, .int (nI (S.length + 1))), (0, .ref 100), (1, .int (nI x)), (2, .int (nI g)), (3, .int (nI t)), (4, .int (nI c)), (5, .int (nI u))] (mm_ndk_of [7, 6, 0, 1, 2, 3, 4, 5] rfl (by decide)) (mm_sub_cons rfl (mm_sub_cons rfl (mm_sub_cons rfl (mm_sub_cons rfl (mm_sub_cons rfl (mm_sub_cons rfl (mm_sub_cons rfl (mm_sub_cons rfl (mm_sub_nil _))))))))) ?_
                        have hcv : cmpv g t c u (w m) = nI 1 := by unfold cmpv; rw [if_neg c_236, if_neg c_257, if_pos (by rw [hv9]; omega)]
                        rw [va_up_up, ← hcv]
                        exact ih_m (cmpv g t c u (w m) :: S) (upd q S.length (cmpv g t c u (w m))) (⟨evk_S hi_m.1 (tk_cmp c_38 c_74 c_82), mt_push hi_m.2.1, Nat.succ_le_succ hi_m.2.2⟩)
                    · skip
                      refine r_iload rfl dc_14_28_260 ?_
                      refine r_iload rfl dc_14_28_262 ?_
                      refine r_ncle (t := 271) (by omega) (by omega) (by decide) dc_14_28_264 (fun c_264 => ?_) (fun c_264 => ?_)
                      · skip
                        refine r_iconst (v := nI 0) (by decide) dc_14_28_271 ?_
                        refine r_goto (t := 287) (by decide) dc_14_28_272 ?_
                        refine q_bst (e := S.length) (k := 48) (u := 2) (w := nI 0) (by decide) (by decide) hM rfl rfl rfl (by decide) (show S.length < 80 by omega) (by omega) dc_14_28_287 ?_
                        refine r_iload rfl dc_14_28_288 ?_
                        refine r_iconst (v := nI 1) (by decide) dc_14_28_290 ?_
                        refine r_iadd (v := nI (S.length + 1)) (nI_add _ _) dc_14_28_291 ?_
                        refine r_istore (ls' := [(6, .int (nI (S.length + 1))), (12, .int (nI (w m / 10000 % 10))), (11, .int (nI (w m % 10000))), (10, .int (nI t)), (9, .int (nI (w m / 100000))), (8, .int (nI (w m))), (7, .int (nI (80 * x + m))), (0, .ref 100), (1, .int (nI x)), (2, .int (nI g)), (3, .int (nI t)), (4, .int (nI c)), (5, .int (nI u))]) (by decide) rfl dc_14_28_292 ?_
                        refine r_iinc (x := nI (80 * x + m)) (v := nI (80 * x + m + 1)) (ls' := [(7, .int (nI (80 * x + m + 1))), (6, .int (nI (S.length + 1))), (12, .int (nI (w m / 10000 % 10))), (11, .int (nI (w m % 10000))), (10, .int (nI t)), (9, .int (nI (w m / 100000))), (8, .int (nI (w m))), (0, .ref 100), (1, .int (nI x)), (2, .int (nI g)), (3, .int (nI t)), (4, .int (nI c)), (5, .int (nI u))]) rfl (nI_1 _) (by decide) rfl dc_14_28_294 ?_
                        refine r_goto (t := 9) (by decide) dc_14_28_297 ?_
                        refine r_ls [(7, .int (nI (80 * x + m + 1))), (6, .int (nI (S.length + 1))), (0, .ref 100), (1, .int (nI x)), (2, .int (nI g)), (3, .int (nI t)), (4, .int (nI c)), (5, .int (nI u))] (mm_ndk_of [7, 6, 0, 1, 2, 3, 4, 5] rfl (by decide)) (mm_sub_cons rfl (mm_sub_cons rfl (mm_sub_cons rfl (mm_sub_cons rfl (mm_sub_cons rfl (mm_sub_cons rfl (mm_sub_cons rfl (mm_sub_cons rfl (mm_sub_nil _))))))))) ?_
                        have hcv : cmpv g t c u (w m) = nI 0 := by unfold cmpv; rw [if_neg c_236, if_pos c_257, if_neg (by rw [hv9]; omega)]
                        rw [va_up_up, ← hcv]
                        exact ih_m (cmpv g t c u (w m) :: S) (upd q S.length (cmpv g t c u (w m))) (⟨evk_S hi_m.1 (tk_cmp c_38 c_74 c_82), mt_push hi_m.2.1, Nat.succ_le_succ hi_m.2.2⟩)
                      · skip
                        refine r_iconst (v := nI 1) (by decide) dc_14_28_267 ?_
                        refine r_goto (t := 287) (by decide) dc_14_28_268 ?_
                        refine q_bst (e := S.length) (k := 48) (u := 2) (w := nI 1) (by decide) (by decide) hM rfl rfl rfl (by decide) (show S.length < 80 by omega) (by omega) dc_14_28_287 ?_
                        refine r_iload rfl dc_14_28_288 ?_
                        refine r_iconst (v := nI 1) (by decide) dc_14_28_290 ?_
                        refine r_iadd (v := nI (S.length + 1)) (nI_add _ _) dc_14_28_291 ?_
                        refine r_istore (ls' := [(6, .int (nI (S.length + 1))), (12, .int (nI (w m / 10000 % 10))), (11, .int (nI (w m % 10000))), (10, .int (nI t)), (9, .int (nI (w m / 100000))), (8, .int (nI (w m))), (7, .int (nI (80 * x + m))), (0, .ref 100), (1, .int (nI x)), (2, .int (nI g)), (3, .int (nI t)), (4, .int (nI c)), (5, .int (nI u))]) (by decide) rfl dc_14_28_292 ?_
                        refine r_iinc (x := nI (80 * x + m)) (v := nI (80 * x + m + 1)) (ls' := [(7, .int (nI (80 * x + m + 1))), (6, .int (nI (S.length + 1))), (12, .int (nI (w m / 10000 % 10))), (11, .int (nI (w m % 10000))), (10, .int (nI t)), (9, .int (nI (w m / 100000))), (8, .int (nI (w m))), (0, .ref 100), (1, .int (nI x)), (2, .int (nI g)), (3, .int (nI t)), (4, .int (nI c)), (5, .int (nI u))]) rfl (nI_1 _) (by decide) rfl dc_14_28_294 ?_
                        refine r_goto (t := 9) (by decide) dc_14_28_297 ?_
                        refine r_ls [(7, .int (nI (80 * x + m + 1))), (6, .int (nI (S.length + 1))), (0, .ref 100), (1, .int (nI x)), (2, .int (nI g)), (3, .int (nI t)), (4, .int (nI c)), (5, .int (nI u))] (mm_ndk_of [7, 6, 0, 1, 2, 3, 4, 5] rfl (by decide)) (mm_sub_cons rfl (mm_sub_cons rfl (mm_sub_cons rfl (mm_sub_cons rfl (mm_sub_cons rfl (mm_sub_cons rfl (mm_sub_cons rfl (mm_sub_cons rfl (mm_sub_nil _))))))))) ?_
                        have hcv : cmpv g t c u (w m) = nI 1 := by unfold cmpv; rw [if_neg c_236, if_pos c_257, if_pos (by rw [hv9]; omega)]
                        rw [va_up_up, ← hcv]
                        exact ih_m (cmpv g t c u (w m) :: S) (upd q S.length (cmpv g t c u (w m))) (⟨evk_S hi_m.1 (tk_cmp c_38 c_74 c_82), mt_push hi_m.2.1, Nat.succ_le_succ hi_m.2.2⟩)
                  · skip
                    refine r_iload rfl dc_14_28_239 ?_
                    refine r_iload rfl dc_14_28_241 ?_
                    refine r_ncge (t := 250) (by omega) (by omega) (by decide) dc_14_28_243 (fun c_243 => ?_) (fun c_243 => ?_)
                    · skip
                      refine r_iconst (v := nI 0) (by decide) dc_14_28_250 ?_
                      refine r_goto (t := 287) (by decide) dc_14_28_251 ?_
                      refine q_bst (e := S.length) (k := 48) (u := 2) (w := nI 0) (by decide) (by decide) hM rfl rfl rfl (by decide) (show S.length < 80 by omega) (by omega) dc_14_28_287 ?_
                      refine r_iload rfl dc_14_28_288 ?_
                      refine r_iconst (v := nI 1) (by decide) dc_14_28_290 ?_
                      refine r_iadd (v := nI (S.length + 1)) (nI_add _ _) dc_14_28_291 ?_
                      refine r_istore (ls' := [(6, .int (nI (S.length + 1))), (12, .int (nI (w m / 10000 % 10))), (11, .int (nI (w m % 10000))), (10, .int (nI t)), (9, .int (nI (w m / 100000))), (8, .int (nI (w m))), (7, .int (nI (80 * x + m))), (0, .ref 100), (1, .int (nI x)), (2, .int (nI g)), (3, .int (nI t)), (4, .int (nI c)), (5, .int (nI u))]) (by decide) rfl dc_14_28_292 ?_
                      refine r_iinc (x := nI (80 * x + m)) (v := nI (80 * x + m + 1)) (ls' := [(7, .int (nI (80 * x + m + 1))), (6, .int (nI (S.length + 1))), (12, .int (nI (w m / 10000 % 10))), (11, .int (nI (w m % 10000))), (10, .int (nI t)), (9, .int (nI (w m / 100000))), (8, .int (nI (w m))), (0, .ref 100), (1, .int (nI x)), (2, .int (nI g)), (3, .int (nI t)), (4, .int (nI c)), (5, .int (nI u))]) rfl (nI_1 _) (by decide) rfl dc_14_28_294 ?_
                      refine r_goto (t := 9) (by decide) dc_14_28_297 ?_
                      refine r_ls [(7, .int (nI (80 * x + m + 1))), (6, .int (nI (S.length + 1))), (0, .ref 100), (1, .int (nI x)), (2, .int (nI g)), (3, .int (nI t)), (4, .int (nI c)), (5, .int (nI u))] (mm_ndk_of [7, 6, 0, 1, 2, 3, 4, 5] rfl (by decide)) (mm_sub_cons rfl (mm_sub_cons rfl (mm_sub_cons rfl (mm_sub_cons rfl (mm_sub_cons rfl (mm_sub_cons rfl (mm_sub_cons rfl (mm_sub_cons rfl (mm_sub_nil _))))))))) ?_
                      have hcv : cmpv g t c u (w m) = nI 0 := by unfold cmpv; rw [if_pos c_236, if_neg (by rw [hv9]; omega)]
                      rw [va_up_up, ← hcv]
                      exact ih_m (cmpv g t c u (w m) :: S) (upd q S.length (cmpv g t c u (w m))) (⟨evk_S hi_m.1 (tk_cmp c_38 c_74 c_82), mt_push hi_m.2.1, Nat.succ_le_succ hi_m.2.2⟩)
                    · skip
                      refine r_iconst (v := nI 1) (by decide) dc_14_28_246 ?_
                      refine r_goto (t := 287) (by decide) dc_14_28_247 ?_
                      refine q_bst (e := S.length) (k := 48) (u := 2) (w := nI 1) (by decide) (by decide) hM rfl rfl rfl (by decide) (show S.length < 80 by omega) (by omega) dc_14_28_287 ?_
                      refine r_iload rfl dc_14_28_288 ?_
                      refine r_iconst (v := nI 1) (by decide) dc_14_28_290 ?_
                      refine r_iadd (v := nI (S.length + 1)) (nI_add _ _) dc_14_28_291 ?_
                      refine r_istore (ls' := [(6, .int (nI (S.length + 1))), (12, .int (nI (w m / 10000 % 10))), (11, .int (nI (w m % 10000))), (10, .int (nI t)), (9, .int (nI (w m / 100000))), (8, .int (nI (w m))), (7, .int (nI (80 * x + m))), (0, .ref 100), (1, .int (nI x)), (2, .int (nI g)), (3, .int (nI t)), (4, .int (nI c)), (5, .int (nI u))]) (by decide) rfl dc_14_28_292 ?_
                      refine r_iinc (x := nI (80 * x + m)) (v := nI (80 * x + m + 1)) (ls' := [(7, .int (nI (80 * x + m + 1))), (6, .int (nI (S.length + 1))), (12, .int (nI (w m / 10000 % 10))), (11, .int (nI (w m % 10000))), (10, .int (nI t)), (9, .int (nI (w m / 100000))), (8, .int (nI (w m))), (0, .ref 100), (1, .int (nI x)), (2, .int (nI g)), (3, .int (nI t)), (4, .int (nI c)), (5, .int (nI u))]) rfl (nI_1 _) (by decide) rfl dc_14_28_294 ?_
                      refine r_goto (t := 9) (by decide) dc_14_28_297 ?_
                      refine r_ls [(7, .int (nI (80 * x + m + 1))), (6, .int (nI (S.length + 1))), (0, .ref 100), (1, .int (nI x)), (2, .int (nI g)), (3, .int (nI t)), (4, .int (nI c)), (5, .int (nI u))] (mm_ndk_of [7, 6, 0, 1, 2, 3, 4, 5] rfl (by decide)) (mm_sub_cons rfl (mm_sub_cons rfl (mm_sub_cons rfl (mm_sub_cons rfl (mm_sub_cons rfl (mm_sub_cons rfl (mm_sub_cons rfl (mm_sub_cons rfl (mm_sub_nil _))))))))) ?_
                      have hcv : cmpv g t c u (w m) = nI 1 := by unfold cmpv; rw [if_pos c_236, if_pos (by rw [hv9]; omega)]
                      rw [va_up_up, ← hcv]
                      exact ih_m (cmpv g t c u (w m) :: S) (upd q S.length (cmpv g t c u (w m))) (⟨evk_S hi_m.1 (tk_cmp c_38 c_74 c_82), mt_push hi_m.2.1, Nat.succ_le_succ hi_m.2.2⟩)
              · skip
                refine r_iload_n rfl dc_14_28_180 ?_
                refine r_goto (t := 207) (by decide) dc_14_28_181 ?_
                have hv9 : vl g t c u (w m / 100000) = g := by unfold vl; rw [if_pos c_177]
                refine r_istore (ls' := [(10, .int (nI g)), (9, .int (nI (w m / 100000))), (8, .int (nI (w m))), (7, .int (nI (80 * x + m))), (6, .int (nI S.length)), (0, .ref 100), (1, .int (nI x)), (2, .int (nI g)), (3, .int (nI t)), (4, .int (nI c)), (5, .int (nI u))]) (by decide) rfl dc_14_28_207 ?_
                refine r_iload rfl dc_14_28_209 ?_
                refine r_sipush (v := nI 10000) (by decide) dc_14_28_211 ?_
                refine r_irem (v := nI (w m % 10000)) (by decide) (rm_n (by omega) (by decide) (by decide)) dc_14_28_214 ?_
                refine r_istore (ls' := [(11, .int (nI (w m % 10000))), (10, .int (nI g)), (9, .int (nI (w m / 100000))), (8, .int (nI (w m))), (7, .int (nI (80 * x + m))), (6, .int (nI S.length)), (0, .ref 100), (1, .int (nI x)), (2, .int (nI g)), (3, .int (nI t)), (4, .int (nI c)), (5, .int (nI u))]) (by decide) rfl dc_14_28_215 ?_
                refine r_iload rfl dc_14_28_217 ?_
                refine r_sipush (v := nI 10000) (by decide) dc_14_28_219 ?_
                refine r_idiv (v := nI (w m / 10000)) (by decide) (pk_div (by omega) (by decide) (by decide)) dc_14_28_222 ?_
                refine r_bipush (v := nI 10) (by decide) dc_14_28_223 ?_
                refine r_irem (v := nI (w m / 10000 % 10)) (by decide) (rm_n (by omega) (by decide) (by decide)) dc_14_28_225 ?_
                refine r_istore (ls' := [(12, .int (nI (w m / 10000 % 10))), (11, .int (nI (w m % 10000))), (10, .int (nI g)), (9, .int (nI (w m / 100000))), (8, .int (nI (w m))), (7, .int (nI (80 * x + m))), (6, .int (nI S.length)), (0, .ref 100), (1, .int (nI x)), (2, .int (nI g)), (3, .int (nI t)), (4, .int (nI c)), (5, .int (nI u))]) (by decide) rfl dc_14_28_226 ?_
                refine r_aload_n rfl dc_14_28_228 ?_
                refine q_get (v := .ref 130) rx_99 hM rfl dc_14_28_229 ?_
                refine r_iload rfl dc_14_28_232 ?_
                refine r_iload rfl dc_14_28_234 ?_
                refine r_nzne (t := 254) (by omega) (by decide) dc_14_28_236 (fun c_236 => ?_) (fun c_236 => ?_)
                · skip
                  refine r_iload rfl dc_14_28_254 ?_
                  refine r_iconst (v := nI 1) (by decide) dc_14_28_256 ?_
                  refine r_ncne (t := 275) (by omega) (by omega) (by decide) dc_14_28_257 (fun c_257 => ?_) (fun c_257 => ?_)
                  · skip
                    refine r_iload rfl dc_14_28_275 ?_
                    refine r_iload rfl dc_14_28_277 ?_
                    refine r_ncne (t := 286) (by omega) (by omega) (by decide) dc_14_28_279 (fun c_279 => ?_) (fun c_279 => ?_)
                    · skip
                      refine r_iconst (v := nI 0) (by decide) dc_14_28_286 ?_
                      refine q_bst (e := S.length) (k := 48) (u := 2) (w := nI 0) (by decide) (by decide) hM rfl rfl rfl (by decide) (show S.length < 80 by omega) (by omega) dc_14_28_287 ?_
                      refine r_iload rfl dc_14_28_288 ?_
                      refine r_iconst (v := nI 1) (by decide) dc_14_28_290 ?_
                      refine r_iadd (v := nI (S.length + 1)) (nI_add _ _) dc_14_28_291 ?_
                      refine r_istore (ls' := [(6, .int (nI (S.length + 1))), (12, .int (nI (w m / 10000 % 10))), (11, .int (nI (w m % 10000))), (10, .int (nI g)), (9, .int (nI (w m / 100000))), (8, .int (nI (w m))), (7, .int (nI (80 * x + m))), (0, .ref 100), (1, .int (nI x)), (2, .int (nI g)), (3, .int (nI t)), (4, .int (nI c)), (5, .int (nI u))]) (by decide) rfl dc_14_28_292 ?_
                      refine r_iinc (x := nI (80 * x + m)) (v := nI (80 * x + m + 1)) (ls' := [(7, .int (nI (80 * x + m + 1))), (6, .int (nI (S.length + 1))), (12, .int (nI (w m / 10000 % 10))), (11, .int (nI (w m % 10000))), (10, .int (nI g)), (9, .int (nI (w m / 100000))), (8, .int (nI (w m))), (0, .ref 100), (1, .int (nI x)), (2, .int (nI g)), (3, .int (nI t)), (4, .int (nI c)), (5, .int (nI u))]) rfl (nI_1 _) (by decide) rfl dc_14_28_294 ?_
                      refine r_goto (t := 9) (by decide) dc_14_28_297 ?_
                      refine r_ls [(7, .int (nI (80 * x + m + 1))), (6, .int (nI (S.length + 1))), (0, .ref 100), (1, .int (nI x)), (2, .int (nI g)), (3, .int (nI t)), (4, .int (nI c)), (5, .int (nI u))] (mm_ndk_of [7, 6, 0, 1, 2, 3, 4, 5] rfl (by decide)) (mm_sub_cons rfl (mm_sub_cons rfl (mm_sub_cons rfl (mm_sub_cons rfl (mm_sub_cons rfl (mm_sub_cons rfl (mm_sub_cons rfl (mm_sub_cons rfl (mm_sub_nil _))))))))) ?_
                      have hcv : cmpv g t c u (w m) = nI 0 := by unfold cmpv; rw [if_neg c_236, if_neg c_257, if_neg (by rw [hv9]; omega)]
                      rw [va_up_up, ← hcv]
                      exact ih_m (cmpv g t c u (w m) :: S) (upd q S.length (cmpv g t c u (w m))) (⟨evk_S hi_m.1 (tk_cmp c_38 c_74 c_82), mt_push hi_m.2.1, Nat.succ_le_succ hi_m.2.2⟩)
                    · skip
                      refine r_iconst (v := nI 1) (by decide) dc_14_28_282 ?_
                      refine r_goto (t := 287) (by decide) dc_14_28_283 ?_
                      refine q_bst (e := S.length) (k := 48) (u := 2) (w := nI 1) (by decide) (by decide) hM rfl rfl rfl (by decide) (show S.length < 80 by omega) (by omega) dc_14_28_287 ?_
                      refine r_iload rfl dc_14_28_288 ?_
                      refine r_iconst (v := nI 1) (by decide) dc_14_28_290 ?_
                      refine r_iadd (v := nI (S.length + 1)) (nI_add _ _) dc_14_28_291 ?_
                      refine r_istore (ls' := [(6, .int (nI (S.length + 1))), (12, .int (nI (w m / 10000 % 10))), (11, .int (nI (w m % 10000))), (10, .int (nI g)), (9, .int (nI (w m / 100000))), (8, .int (nI (w m))), (7, .int (nI (80 * x + m))), (0, .ref 100), (1, .int (nI x)), (2, .int (nI g)), (3, .int (nI t)), (4, .int (nI c)), (5, .int (nI u))]) (by decide) rfl dc_14_28_292 ?_
                      refine r_iinc (x := nI (80 * x + m)) (v := nI (80 * x + m + 1)) (ls' := [(7, .int (nI (80 * x + m + 1))), (6, .int (nI (S.length + 1))), (12, .int (nI (w m / 10000 % 10))), (11, .int (nI (w m % 10000))), (10, .int (nI g)), (9, .int (nI (w m / 100000))), (8, .int (nI (w m))), (0, .ref 100), (1, .int (nI x)), (2, .int (nI g)), (3, .int (nI t)), (4, .int (nI c)), (5, .int (nI u))]) rfl (nI_1 _) (by decide) rfl dc_14_28_294 ?_
                      refine r_goto (t := 9) (by decide) dc_14_28_297 ?_
                      refine r_ls [(7, .int (nI (80 * x + m + 1))), (6, .int (nI (S.length + 1))), (0, .ref 100), (1, .int (nI x)), (2, .int (nI g)), (3, .int (nI t)), (4, .int (nI c)), (5, .int (nI u))] (mm_ndk_of [7, 6, 0, 1, 2, 3, 4, 5] rfl (by decide)) (mm_sub_cons rfl (mm_sub_cons rfl (mm_sub_cons rfl (mm_sub_cons rfl (mm_sub_cons rfl (mm_sub_cons rfl (mm_sub_cons rfl (mm_sub_cons rfl (mm_sub_nil _))))))))) ?_
                      have hcv : cmpv g t c u (w m) = nI 1 := by unfold cmpv; rw [if_neg c_236, if_neg c_257, if_pos (by rw [hv9]; omega)]
                      rw [va_up_up, ← hcv]
                      exact ih_m (cmpv g t c u (w m) :: S) (upd q S.length (cmpv g t c u (w m))) (⟨evk_S hi_m.1 (tk_cmp c_38 c_74 c_82), mt_push hi_m.2.1, Nat.succ_le_succ hi_m.2.2⟩)
                  · skip
                    refine r_iload rfl dc_14_28_260 ?_
                    refine r_iload rfl dc_14_28_262 ?_
                    refine r_ncle (t := 271) (by omega) (by omega) (by decide) dc_14_28_264 (fun c_264 => ?_) (fun c_264 => ?_)
                    · skip
                      refine r_iconst (v := nI 0) (by decide) dc_14_28_271 ?_
                      refine r_goto (t := 287) (by decide) dc_14_28_272 ?_
                      refine q_bst (e := S.length) (k := 48) (u := 2) (w := nI 0) (by decide) (by decide) hM rfl rfl rfl (by decide) (show S.length < 80 by omega) (by omega) dc_14_28_287 ?_
                      refine r_iload rfl dc_14_28_288 ?_
                      refine r_iconst (v := nI 1) (by decide) dc_14_28_290 ?_
                      refine r_iadd (v := nI (S.length + 1)) (nI_add _ _) dc_14_28_291 ?_
                      refine r_istore (ls' := [(6, .int (nI (S.length + 1))), (12, .int (nI (w m / 10000 % 10))), (11, .int (nI (w m % 10000))), (10, .int (nI g)), (9, .int (nI (w m / 100000))), (8, .int (nI (w m))), (7, .int (nI (80 * x + m))), (0, .ref 100), (1, .int (nI x)), (2, .int (nI g)), (3, .int (nI t)), (4, .int (nI c)), (5, .int (nI u))]) (by decide) rfl dc_14_28_292 ?_
                      refine r_iinc (x := nI (80 * x + m)) (v := nI (80 * x + m + 1)) (ls' := [(7, .int (nI (80 * x + m + 1))), (6, .int (nI (S.length + 1))), (12, .int (nI (w m / 10000 % 10))), (11, .int (nI (w m % 10000))), (10, .int (nI g)), (9, .int (nI (w m / 100000))), (8, .int (nI (w m))), (0, .ref 100), (1, .int (nI x)), (2, .int (nI g)), (3, .int (nI t)), (4, .int (nI c)), (5, .int (nI u))]) rfl (nI_1 _) (by decide) rfl dc_14_28_294 ?_
                      refine r_goto (t := 9) (by decide) dc_14_28_297 ?_
                      refine r_ls [(7, .int (nI (80 * x + m + 1))), (6, .int (nI (S.length + 1))), (0, .ref 100), (1, .int (nI x)), (2, .int (nI g)), (3, .int (nI t)), (4, .int (nI c)), (5, .int (nI u))] (mm_ndk_of [7, 6, 0, 1, 2, 3, 4, 5] rfl (by decide)) (mm_sub_cons rfl (mm_sub_cons rfl (mm_sub_cons rfl (mm_sub_cons rfl (mm_sub_cons rfl (mm_sub_cons rfl (mm_sub_cons rfl (mm_sub_cons rfl (mm_sub_nil _))))))))) ?_
                      have hcv : cmpv g t c u (w m) = nI 0 := by unfold cmpv; rw [if_neg c_236, if_pos c_257, if_neg (by rw [hv9]; omega)]
                      rw [va_up_up, ← hcv]
                      exact ih_m (cmpv g t c u (w m) :: S) (upd q S.length (cmpv g t c u (w m))) (⟨evk_S hi_m.1 (tk_cmp c_38 c_74 c_82), mt_push hi_m.2.1, Nat.succ_le_succ hi_m.2.2⟩)
                    · skip
                      refine r_iconst (v := nI 1) (by decide) dc_14_28_267 ?_
                      refine r_goto (t := 287) (by decide) dc_14_28_268 ?_
                      refine q_bst (e := S.length) (k := 48) (u := 2) (w := nI 1) (by decide) (by decide) hM rfl rfl rfl (by decide) (show S.length < 80 by omega) (by omega) dc_14_28_287 ?_
                      refine r_iload rfl dc_14_28_288 ?_
                      refine r_iconst (v := nI 1) (by decide) dc_14_28_290 ?_
                      refine r_iadd (v := nI (S.length + 1)) (nI_add _ _) dc_14_28_291 ?_
                      refine r_istore (ls' := [(6, .int (nI (S.length + 1))), (12, .int (nI (w m / 10000 % 10))), (11, .int (nI (w m % 10000))), (10, .int (nI g)), (9, .int (nI (w m / 100000))), (8, .int (nI (w m))), (7, .int (nI (80 * x + m))), (0, .ref 100), (1, .int (nI x)), (2, .int (nI g)), (3, .int (nI t)), (4, .int (nI c)), (5, .int (nI u))]) (by decide) rfl dc_14_28_292 ?_
                      refine r_iinc (x := nI (80 * x + m)) (v := nI (80 * x + m + 1)) (ls' := [(7, .int (nI (80 * x + m + 1))), (6, .int (nI (S.length + 1))), (12, .int (nI (w m / 10000 % 10))), (11, .int (nI (w m % 10000))), (10, .int (nI g)), (9, .int (nI (w m / 100000))), (8, .int (nI (w m))), (0, .ref 100), (1, .int (nI x)), (2, .int (nI g)), (3, .int (nI t)), (4, .int (nI c)), (5, .int (nI u))]) rfl (nI_1 _) (by decide) rfl dc_14_28_294 ?_
                      refine r_goto (t := 9) (by decide) dc_14_28_297 ?_
                      refine r_ls [(7, .int (nI (80 * x + m + 1))), (6, .int (nI (S.length + 1))), (0, .ref 100), (1, .int (nI x)), (2, .int (nI g)), (3, .int (nI t)), (4, .int (nI c)), (5, .int (nI u))] (mm_ndk_of [7, 6, 0, 1, 2, 3, 4, 5] rfl (by decide)) (mm_sub_cons rfl (mm_sub_cons rfl (mm_sub_cons rfl (mm_sub_cons rfl (mm_sub_cons rfl (mm_sub_cons rfl (mm_sub_cons rfl (mm_sub_cons rfl (mm_sub_nil _))))))))) ?_
                      have hcv : cmpv g t c u (w m) = nI 1 := by unfold cmpv; rw [if_neg c_236, if_pos c_257, if_pos (by rw [hv9]; omega)]
                      rw [va_up_up, ← hcv]
                      exact ih_m (cmpv g t c u (w m) :: S) (upd q S.length (cmpv g t c u (w m))) (⟨evk_S hi_m.1 (tk_cmp c_38 c_74 c_82), mt_push hi_m.2.1, Nat.succ_le_succ hi_m.2.2⟩)
                · skip
                  refine r_iload rfl dc_14_28_239 ?_
                  refine r_iload rfl dc_14_28_241 ?_
                  refine r_ncge (t := 250) (by omega) (by omega) (by decide) dc_14_28_243 (fun c_243 => ?_) (fun c_243 => ?_)
                  · skip
                    refine r_iconst (v := nI 0) (by decide) dc_14_28_250 ?_
                    refine r_goto (t := 287) (by decide) dc_14_28_251 ?_
                    refine q_bst (e := S.length) (k := 48) (u := 2) (w := nI 0) (by decide) (by decide) hM rfl rfl rfl (by decide) (show S.length < 80 by omega) (by omega) dc_14_28_287 ?_
                    refine r_iload rfl dc_14_28_288 ?_
                    refine r_iconst (v := nI 1) (by decide) dc_14_28_290 ?_
                    refine r_iadd (v := nI (S.length + 1)) (nI_add _ _) dc_14_28_291 ?_
                    refine r_istore (ls' := [(6, .int (nI (S.length + 1))), (12, .int (nI (w m / 10000 % 10))), (11, .int (nI (w m % 10000))), (10, .int (nI g)), (9, .int (nI (w m / 100000))), (8, .int (nI (w m))), (7, .int (nI (80 * x + m))), (0, .ref 100), (1, .int (nI x)), (2, .int (nI g)), (3, .int (nI t)), (4, .int (nI c)), (5, .int (nI u))]) (by decide) rfl dc_14_28_292 ?_
                    refine r_iinc (x := nI (80 * x + m)) (v := nI (80 * x + m + 1)) (ls' := [(7, .int (nI (80 * x + m + 1))), (6, .int (nI (S.length + 1))), (12, .int (nI (w m / 10000 % 10))), (11, .int (nI (w m % 10000))), (10, .int (nI g)), (9, .int (nI (w m / 100000))), (8, .int (nI (w m))), (0, .ref 100), (1, .int (nI x)), (2, .int (nI g)), (3, .int (nI t)), (4, .int (nI c)), (5, .int (nI u))]) rfl (nI_1 _) (by decide) rfl dc_14_28_294 ?_
                    refine r_goto (t := 9) (by decide) dc_14_28_297 ?_
                    refine r_ls [(7, .int (nI (80 * x + m + 1))), (6, .int (nI (S.length + 1))), (0, .ref 100), (1, .int (nI x)), (2, .int (nI g)), (3, .int (nI t)), (4, .int (nI c)), (5, .int (nI u))] (mm_ndk_of [7, 6, 0, 1, 2, 3, 4, 5] rfl (by decide)) (mm_sub_cons rfl (mm_sub_cons rfl (mm_sub_cons rfl (mm_sub_cons rfl (mm_sub_cons rfl (mm_sub_cons rfl (mm_sub_cons rfl (mm_sub_cons rfl (mm_sub_nil _))))))))) ?_
                    have hcv : cmpv g t c u (w m) = nI 0 := by unfold cmpv; rw [if_pos c_236, if_neg (by rw [hv9]; omega)]
                    rw [va_up_up, ← hcv]
                    exact ih_m (cmpv g t c u (w m) :: S) (upd q S.length (cmpv g t c u (w m))) (⟨evk_S hi_m.1 (tk_cmp c_38 c_74 c_82), mt_push hi_m.2.1, Nat.succ_le_succ hi_m.2.2⟩)
                  · skip
                    refine r_iconst (v := nI 1) (by decide) dc_14_28_246 ?_
                    refine r_goto (t := 287) (by decide) dc_14_28_247 ?_
                    refine q_bst (e := S.length) (k := 48) (u := 2) (w := nI 1) (by decide) (by decide) hM rfl rfl rfl (by decide) (show S.length < 80 by omega) (by omega) dc_14_28_287 ?_
                    refine r_iload rfl dc_14_28_288 ?_
                    refine r_iconst (v := nI 1) (by decide) dc_14_28_290 ?_
                    refine r_iadd (v := nI (S.length + 1)) (nI_add _ _) dc_14_28_291 ?_
                    refine r_istore (ls' := [(6, .int (nI (S.length + 1))), (12, .int (nI (w m / 10000 % 10))), (11, .int (nI (w m % 10000))), (10, .int (nI g)), (9, .int (nI (w m / 100000))), (8, .int (nI (w m))), (7, .int (nI (80 * x + m))), (0, .ref 100), (1, .int (nI x)), (2, .int (nI g)), (3, .int (nI t)), (4, .int (nI c)), (5, .int (nI u))]) (by decide) rfl dc_14_28_292 ?_
                    refine r_iinc (x := nI (80 * x + m)) (v := nI (80 * x + m + 1)) (ls' := [(7, .int (nI (80 * x + m + 1))), (6, .int (nI (S.length + 1))), (12, .int (nI (w m / 10000 % 10))), (11, .int (nI (w m % 10000))), (10, .int (nI g)), (9, .int (nI (w m / 100000))), (8, .int (nI (w m))), (0, .ref 100), (1, .int (nI x)), (2, .int (nI g)), (3, .int (nI t)), (4, .int (nI c)), (5, .int (nI u))]) rfl (nI_1 _) (by decide) rfl dc_14_28_294 ?_
                    refine r_goto (t := 9) (by decide) dc_14_28_297 ?_
                    refine r_ls [(7, .int (nI (80 * x + m + 1))), (6, .int (nI (S.length + 1))), (0, .ref 100), (1, .int (nI x)), (2, .int (nI g)), (3, .int (nI t)), (4, .int (nI c)), (5, .int (nI u))] (mm_ndk_of [7, 6, 0, 1, 2, 3, 4, 5] rfl (by decide)) (mm_sub_cons rfl (mm_sub_cons rfl (mm_sub_cons rfl (mm_sub_cons rfl (mm_sub_cons rfl (mm_sub_cons rfl (mm_sub_cons rfl (mm_sub_cons rfl (mm_sub_nil _))))))))) ?_
                    have hcv : cmpv g t c u (w m) = nI 1 := by unfold cmpv; rw [if_pos c_236, if_pos (by rw [hv9]; omega)]
                    rw [va_up_up, ← hcv]
                    exact ih_m (cmpv g t c u (w m) :: S) (upd q S.length (cmpv g t c u (w m))) (⟨evk_S hi_m.1 (tk_cmp c_38 c_74 c_82), mt_push hi_m.2.1, Nat.succ_le_succ hi_m.2.2⟩)
            · obtain ⟨y9, x9, T, hx, hS2⟩ := tk_or c_82 hT
              have hl : S.length = T.length + 2 := by rw [hx]; rfl
              have hm9 : mt q (y9 :: x9 :: T) := hx ▸ hi_m.2.1
              refine r_iload rfl dc_14_28_85 ?_
              refine r_iconst (v := nI 1) (by decide) dc_14_28_87 ?_
              refine r_isub (v := nI (T.length + 1)) ((pk_sub (by omega)).trans (congrArg nI (by omega))) dc_14_28_88 ?_
              refine r_istore (ls' := [(6, .int (nI (T.length + 1))), (8, .int (nI (w m))), (7, .int (nI (80 * x + m))), (0, .ref 100), (1, .int (nI x)), (2, .int (nI g)), (3, .int (nI t)), (4, .int (nI c)), (5, .int (nI u))]) (by decide) rfl dc_14_28_89 ?_
              refine r_aload_n rfl dc_14_28_91 ?_
              refine q_get (v := .ref 130) rx_99 hM rfl dc_14_28_92 ?_
              refine r_iload rfl dc_14_28_95 ?_
              refine r_iconst (v := nI 1) (by decide) dc_14_28_97 ?_
              refine r_isub (v := nI T.length) ((pk_sub (by omega)).trans (congrArg nI (by omega))) dc_14_28_98 ?_
              refine r_iload rfl dc_14_28_99 ?_
              refine r_ldc (v := nI 1000000) nr_13_254 dc_14_28_101 ?_
              refine r_ncne (t := 136) (by omega) (by omega) (by decide) dc_14_28_103 (fun c_103 => ?_) (fun c_103 => ?_)
              · skip
                refine r_aload_n rfl dc_14_28_136 ?_
                refine q_get (v := .ref 130) rx_99 hM rfl dc_14_28_137 ?_
                refine r_iload rfl dc_14_28_140 ?_
                refine r_iconst (v := nI 1) (by decide) dc_14_28_142 ?_
                refine r_isub (v := nI T.length) ((pk_sub (by omega)).trans (congrArg nI (by omega))) dc_14_28_143 ?_
                refine q_bld (e := T.length) (v := x9) (by decide) (by decide) hM rfl (show T.length < 80 by omega) (by omega) (hm9.2.1) dc_14_28_144 ?_
                refine r_ifne (t := 158) (by decide) dc_14_28_145 (fun c_145 => ?_) (fun c_145 => ?_)
                · skip
                  refine r_iconst (v := nI 1) (by decide) dc_14_28_158 ?_
                  refine r_goto (t := 163) (by decide) dc_14_28_159 ?_
                  refine q_bst (e := T.length) (k := 48) (u := 2) (w := nI 1) (by decide) (by decide) hM rfl rfl rfl (by decide) (show T.length < 80 by omega) (by omega) dc_14_28_163 ?_
                  refine r_goto (t := 294) (by decide) dc_14_28_164 ?_
                  refine r_iinc (x := nI (80 * x + m)) (v := nI (80 * x + m + 1)) (ls' := [(7, .int (nI (80 * x + m + 1))), (6, .int (nI (T.length + 1))), (8, .int (nI (w m))), (0, .ref 100), (1, .int (nI x)), (2, .int (nI g)), (3, .int (nI t)), (4, .int (nI c)), (5, .int (nI u))]) rfl (nI_1 _) (by decide) rfl dc_14_28_294 ?_
                  refine r_goto (t := 9) (by decide) dc_14_28_297 ?_
                  refine r_ls [(7, .int (nI (80 * x + m + 1))), (6, .int (nI (T.length + 1))), (0, .ref 100), (1, .int (nI x)), (2, .int (nI g)), (3, .int (nI t)), (4, .int (nI c)), (5, .int (nI u))] (mm_ndk_of [7, 6, 0, 1, 2, 3, 4, 5] rfl (by decide)) (mm_sub_cons rfl (mm_sub_cons rfl (mm_sub_cons rfl (mm_sub_cons rfl (mm_sub_cons rfl (mm_sub_cons rfl (mm_sub_cons rfl (mm_sub_cons rfl (mm_sub_nil _))))))))) ?_
                  rw [va_up_up]
                  exact ih_m (nI 1 :: T) (upd q T.length (nI 1)) (⟨evk_S hi_m.1 (by rw [hS2, if_neg c_145]), mt_push hm9.2.2, by show T.length + 1 ≤ m + 1; have := hi_m.2.2; omega⟩)
                · skip
                  refine r_aload_n rfl dc_14_28_148 ?_
                  refine q_get (v := .ref 130) rx_99 hM rfl dc_14_28_149 ?_
                  refine r_iload rfl dc_14_28_152 ?_
                  refine q_bld (e := T.length + 1) (v := y9) (by decide) (by decide) hM rfl (show T.length + 1 < 80 by omega) (by omega) (hm9.1) dc_14_28_154 ?_
                  refine r_ifeq (t := 162) (by decide) dc_14_28_155 (fun c_155 => ?_) (fun c_155 => ?_)
                  · skip
                    refine r_iconst (v := nI 0) (by decide) dc_14_28_162 ?_
                    refine q_bst (e := T.length) (k := 48) (u := 2) (w := nI 0) (by decide) (by decide) hM rfl rfl rfl (by decide) (show T.length < 80 by omega) (by omega) dc_14_28_163 ?_
                    refine r_goto (t := 294) (by decide) dc_14_28_164 ?_
                    refine r_iinc (x := nI (80 * x + m)) (v := nI (80 * x + m + 1)) (ls' := [(7, .int (nI (80 * x + m + 1))), (6, .int (nI (T.length + 1))), (8, .int (nI (w m))), (0, .ref 100), (1, .int (nI x)), (2, .int (nI g)), (3, .int (nI t)), (4, .int (nI c)), (5, .int (nI u))]) rfl (nI_1 _) (by decide) rfl dc_14_28_294 ?_
                    refine r_goto (t := 9) (by decide) dc_14_28_297 ?_
                    refine r_ls [(7, .int (nI (80 * x + m + 1))), (6, .int (nI (T.length + 1))), (0, .ref 100), (1, .int (nI x)), (2, .int (nI g)), (3, .int (nI t)), (4, .int (nI c)), (5, .int (nI u))] (mm_ndk_of [7, 6, 0, 1, 2, 3, 4, 5] rfl (by decide)) (mm_sub_cons rfl (mm_sub_cons rfl (mm_sub_cons rfl (mm_sub_cons rfl (mm_sub_cons rfl (mm_sub_cons rfl (mm_sub_cons rfl (mm_sub_cons rfl (mm_sub_nil _))))))))) ?_
                    rw [va_up_up]
                    exact ih_m (nI 0 :: T) (upd q T.length (nI 0)) (⟨evk_S hi_m.1 (by rw [hS2, if_pos c_145, if_pos c_155]), mt_push hm9.2.2, by show T.length + 1 ≤ m + 1; have := hi_m.2.2; omega⟩)
                  · skip
                    refine r_iconst (v := nI 1) (by decide) dc_14_28_158 ?_
                    refine r_goto (t := 163) (by decide) dc_14_28_159 ?_
                    refine q_bst (e := T.length) (k := 48) (u := 2) (w := nI 1) (by decide) (by decide) hM rfl rfl rfl (by decide) (show T.length < 80 by omega) (by omega) dc_14_28_163 ?_
                    refine r_goto (t := 294) (by decide) dc_14_28_164 ?_
                    refine r_iinc (x := nI (80 * x + m)) (v := nI (80 * x + m + 1)) (ls' := [(7, .int (nI (80 * x + m + 1))), (6, .int (nI (T.length + 1))), (8, .int (nI (w m))), (0, .ref 100), (1, .int (nI x)), (2, .int (nI g)), (3, .int (nI t)), (4, .int (nI c)), (5, .int (nI u))]) rfl (nI_1 _) (by decide) rfl dc_14_28_294 ?_
                    refine r_goto (t := 9) (by decide) dc_14_28_297 ?_
                    refine r_ls [(7, .int (nI (80 * x + m + 1))), (6, .int (nI (T.length + 1))), (0, .ref 100), (1, .int (nI x)), (2, .int (nI g)), (3, .int (nI t)), (4, .int (nI c)), (5, .int (nI u))] (mm_ndk_of [7, 6, 0, 1, 2, 3, 4, 5] rfl (by decide)) (mm_sub_cons rfl (mm_sub_cons rfl (mm_sub_cons rfl (mm_sub_cons rfl (mm_sub_cons rfl (mm_sub_cons rfl (mm_sub_cons rfl (mm_sub_cons rfl (mm_sub_nil _))))))))) ?_
                    rw [va_up_up]
                    exact ih_m (nI 1 :: T) (upd q T.length (nI 1)) (⟨evk_S hi_m.1 (by rw [hS2, if_pos c_145, if_neg c_155]), mt_push hm9.2.2, by show T.length + 1 ≤ m + 1; have := hi_m.2.2; omega⟩)
              · omega
        · obtain ⟨x9, T, hx, hS2⟩ := tk_not c_38 hT
          have hl : S.length = T.length + 1 := by rw [hx]; rfl
          have hm9 : mt q (x9 :: T) := hx ▸ hi_m.2.1
          refine r_aload_n rfl dc_14_28_41 ?_
          refine q_get (v := .ref 130) rx_99 hM rfl dc_14_28_42 ?_
          refine r_iload rfl dc_14_28_45 ?_
          refine r_iconst (v := nI 1) (by decide) dc_14_28_47 ?_
          refine r_isub (v := nI T.length) ((pk_sub (by omega)).trans (congrArg nI (by omega))) dc_14_28_48 ?_
          refine r_aload_n rfl dc_14_28_49 ?_
          refine q_get (v := .ref 130) rx_99 hM rfl dc_14_28_50 ?_
          refine r_iload rfl dc_14_28_53 ?_
          refine r_iconst (v := nI 1) (by decide) dc_14_28_55 ?_
          refine r_isub (v := nI T.length) ((pk_sub (by omega)).trans (congrArg nI (by omega))) dc_14_28_56 ?_
          refine q_bld (e := T.length) (v := x9) (by decide) (by decide) hM rfl (show T.length < 80 by omega) (by omega) (hm9.1) dc_14_28_57 ?_
          refine r_ifne (t := 65) (by decide) dc_14_28_58 (fun c_58 => ?_) (fun c_58 => ?_)
          · skip
            refine r_iconst (v := nI 0) (by decide) dc_14_28_65 ?_
            refine q_bst (e := T.length) (k := 48) (u := 2) (w := nI 0) (by decide) (by decide) hM rfl rfl rfl (by decide) (show T.length < 80 by omega) (by omega) dc_14_28_66 ?_
            refine r_goto (t := 294) (by decide) dc_14_28_67 ?_
            refine r_iinc (x := nI (80 * x + m)) (v := nI (80 * x + m + 1)) (ls' := [(7, .int (nI (80 * x + m + 1))), (8, .int (nI (w m))), (6, .int (nI S.length)), (0, .ref 100), (1, .int (nI x)), (2, .int (nI g)), (3, .int (nI t)), (4, .int (nI c)), (5, .int (nI u))]) rfl (nI_1 _) (by decide) rfl dc_14_28_294 ?_
            refine r_goto (t := 9) (by decide) dc_14_28_297 ?_
            refine r_ls [(7, .int (nI (80 * x + m + 1))), (6, .int (nI S.length)), (0, .ref 100), (1, .int (nI x)), (2, .int (nI g)), (3, .int (nI t)), (4, .int (nI c)), (5, .int (nI u))] (mm_ndk_of [7, 6, 0, 1, 2, 3, 4, 5] rfl (by decide)) (mm_sub_cons rfl (mm_sub_cons rfl (mm_sub_cons rfl (mm_sub_cons rfl (mm_sub_cons rfl (mm_sub_cons rfl (mm_sub_cons rfl (mm_sub_cons rfl (mm_sub_nil _))))))))) ?_
            rw [hl]
            rw [va_up_up]
            exact ih_m (nI 0 :: T) (upd q T.length (nI 0)) (⟨evk_S hi_m.1 (by rw [hS2, if_neg c_58]), mt_push hm9.2, by show T.length + 1 ≤ m + 1; have := hi_m.2.2; omega⟩)
          · skip
            refine r_iconst (v := nI 1) (by decide) dc_14_28_61 ?_
            refine r_goto (t := 66) (by decide) dc_14_28_62 ?_
            refine q_bst (e := T.length) (k := 48) (u := 2) (w := nI 1) (by decide) (by decide) hM rfl rfl rfl (by decide) (show T.length < 80 by omega) (by omega) dc_14_28_66 ?_
            refine r_goto (t := 294) (by decide) dc_14_28_67 ?_
            refine r_iinc (x := nI (80 * x + m)) (v := nI (80 * x + m + 1)) (ls' := [(7, .int (nI (80 * x + m + 1))), (8, .int (nI (w m))), (6, .int (nI S.length)), (0, .ref 100), (1, .int (nI x)), (2, .int (nI g)), (3, .int (nI t)), (4, .int (nI c)), (5, .int (nI u))]) rfl (nI_1 _) (by decide) rfl dc_14_28_294 ?_
            refine r_goto (t := 9) (by decide) dc_14_28_297 ?_
            refine r_ls [(7, .int (nI (80 * x + m + 1))), (6, .int (nI S.length)), (0, .ref 100), (1, .int (nI x)), (2, .int (nI g)), (3, .int (nI t)), (4, .int (nI c)), (5, .int (nI u))] (mm_ndk_of [7, 6, 0, 1, 2, 3, 4, 5] rfl (by decide)) (mm_sub_cons rfl (mm_sub_cons rfl (mm_sub_cons rfl (mm_sub_cons rfl (mm_sub_cons rfl (mm_sub_cons rfl (mm_sub_cons rfl (mm_sub_cons rfl (mm_sub_nil _))))))))) ?_
            rw [hl]
            rw [va_up_up]
            exact ih_m (nI 1 :: T) (upd q T.length (nI 1)) (⟨evk_S hi_m.1 (by rw [hS2, if_pos c_58]), mt_push hm9.2, by show T.length + 1 ≤ m + 1; have := hi_m.2.2; omega⟩)
  obtain ⟨z9, ⟨q, e9⟩, h9⟩ := hq9
  subst e9
  exact ⟨q, h9⟩
set_option maxHeartbeats 4000000 in
theorem c_meets_ok (M : mH) (hM : 157 ≤ M.1) (io : Nat → Int32) (sg : Nat → Nat → Int32) (nx : Nat) (h4 : io 4 = nI nx) (hnx : nx ≤ 12) (x cm : Nat) (w : Nat → Nat) (hx : x < nx) (hcm : sg 36 x = nI cm) (hc60 : cm ≤ 79) (hw : ∀ k, k < cm → sg 35 (80 * x + k) = nI (w k)) (hw9 : ∀ k, k < cm → w k ≤ 1000002) (hok : okc w cm) (g t c u : Nat) (hg : g ≤ 100) (ht : t ≤ 9) (hc : c ≤ 99) (hu : u ≤ 7) : ∃ (q : Nat → Int32), mm_Ev 2 211 [.ref 100, .int (nI x), .int (nI g), .int (nI t), .int (nI c), .int (nI u)] (rf_mk M io sg) ((some (.int (pI (sp_met w cm g t c u))), rf_mk M io (va_up sg 48 q))) := by
  have hq9 : ∃ z, (fun r9 => ∃ (q : Nat → Int32), r9 = ((some (.int (pI (sp_met w cm g t c u))), rf_mk M io (va_up sg 48 q)))) z ∧ mm_Ev 2 211 [.ref 100, .int (nI x), .int (nI g), .int (nI t), .int (nI c), .int (nI u)] (rf_mk M io sg) z := by
    refine r_evQ (by decide +kernel) (show (6 : Nat) ≤ mm_nL 211 by decide +kernel) ?_
    show mm_Ru 1 (13, 6, false, prog_14_method_29_code, some .int) 0 [(0, .ref 100), (1, .int (nI x)), (2, .int (nI g)), (3, .int (nI t)), (4, .int (nI c)), (5, .int (nI u))] [] (rf_mk M io sg) (fun r9 => ∃ (q : Nat → Int32), r9 = ((some (.int (pI (sp_met w cm g t c u))), rf_mk M io (va_up sg 48 q))))
    refine r_aload_n rfl dc_14_29_0 ?_
    refine r_iload_n rfl dc_14_29_1 ?_
    refine q_calli (as := [.int (nI x)]) (rest := []) (v := .int (nI 1)) (M1 := rf_mk M io sg) iv_13_v296 na_1_212 o_212 hM rfl (show (0 : Nat) ≤ 8 by decide) dc_14_29_2 (c_isAgreementT M hM io sg nx h4 x (by omega) (by omega)) ?_
    refine r_ifeq (t := 50) (by decide) dc_14_29_5 (fun c_5 => ?_) (fun c_5 => ?_)
    · exact absurd c_5 (by decide)
    · skip
      refine r_iload_n rfl dc_14_29_8 ?_
      refine r_iconst (v := nI 0) (by decide) dc_14_29_9 ?_
      refine r_bipush (v := nI 100) (by decide) dc_14_29_10 ?_
      refine q_calls (as := [.int (nI g), .int (nI 0), .int (nI 100)]) (rest := []) (v := .int (nI 1)) iv_13_s180 na_0_187 rfl (show (0 : Nat) ≤ 8 by decide) dc_14_29_12 (c_inT _ g 0 100 (by omega) (by omega) (by omega)) ?_
      refine r_ifeq (t := 50) (by decide) dc_14_29_15 (fun c_15 => ?_) (fun c_15 => ?_)
      · exact absurd c_15 (by decide)
      · skip
        refine r_iload_n rfl dc_14_29_18 ?_
        refine r_iconst (v := nI 0) (by decide) dc_14_29_19 ?_
        refine r_bipush (v := nI 9) (by decide) dc_14_29_20 ?_
        refine q_calls (as := [.int (nI t), .int (nI 0), .int (nI 9)]) (rest := []) (v := .int (nI 1)) iv_13_s180 na_0_187 rfl (show (0 : Nat) ≤ 8 by decide) dc_14_29_22 (c_inT _ t 0 9 (by omega) (by omega) (by omega)) ?_
        refine r_ifeq (t := 50) (by decide) dc_14_29_25 (fun c_25 => ?_) (fun c_25 => ?_)
        · exact absurd c_25 (by decide)
        · skip
          refine r_iload rfl dc_14_29_28 ?_
          refine r_iconst (v := nI 0) (by decide) dc_14_29_30 ?_
          refine r_bipush (v := nI 99) (by decide) dc_14_29_31 ?_
          refine q_calls (as := [.int (nI c), .int (nI 0), .int (nI 99)]) (rest := []) (v := .int (nI 1)) iv_13_s180 na_0_187 rfl (show (0 : Nat) ≤ 8 by decide) dc_14_29_33 (c_inT _ c 0 99 (by omega) (by omega) (by omega)) ?_
          refine r_ifeq (t := 50) (by decide) dc_14_29_36 (fun c_36 => ?_) (fun c_36 => ?_)
          · exact absurd c_36 (by decide)
          · skip
            refine r_iload rfl dc_14_29_39 ?_
            refine r_iconst (v := nI 0) (by decide) dc_14_29_41 ?_
            refine r_bipush (v := nI 7) (by decide) dc_14_29_42 ?_
            refine q_calls (as := [.int (nI u), .int (nI 0), .int (nI 7)]) (rest := []) (v := .int (nI 1)) iv_13_s180 na_0_187 rfl (show (0 : Nat) ≤ 8 by decide) dc_14_29_44 (c_inT _ u 0 7 (by omega) (by omega) (by omega)) ?_
            refine r_ifne (t := 52) (by decide) dc_14_29_47 (fun c_47 => ?_) (fun c_47 => ?_)
            · skip
              refine r_aload_n rfl dc_14_29_52 ?_
              refine r_iload_n rfl dc_14_29_53 ?_
              refine r_iload_n rfl dc_14_29_54 ?_
              refine r_iload_n rfl dc_14_29_55 ?_
              refine r_iload rfl dc_14_29_56 ?_
              refine r_iload rfl dc_14_29_58 ?_
              obtain ⟨q9, hmet⟩ := c_isMet M hM io sg x cm w (by omega) hcm hc60 hw hw9 hok g t c u hg ht hc hu
              refine q_calli (as := [.int (nI x), .int (nI g), .int (nI t), .int (nI c), .int (nI u)]) (rest := []) (v := .int (pI (sp_met w cm g t c u))) (M1 := rf_mk M io (va_up sg 48 q9)) iv_13_v299 na_1_213 o_213 hM rfl (show (0 : Nat) ≤ 8 by decide) dc_14_29_60 (hmet) ?_
              refine r_ifeq (t := 70) (by decide) dc_14_29_63 (fun c_63 => ?_) (fun c_63 => ?_)
              · skip
                refine r_iconst (v := nI 0) (by decide) dc_14_29_70 ?_
                refine r_iret rfl dc_14_29_71 ?_
                rw [pI_f (pI_eq0 c_63)]
                exact ⟨q9, rfl⟩
              · skip
                refine r_iconst (v := nI 1) (by decide) dc_14_29_66 ?_
                refine r_goto (t := 71) (by decide) dc_14_29_67 ?_
                refine r_iret rfl dc_14_29_71 ?_
                rw [pI_t (pI_ne c_63)]
                exact ⟨q9, rfl⟩
            · exact absurd c_47 (by decide)
  obtain ⟨z9, ⟨q, e9⟩, h9⟩ := hq9
  subst e9
  exact ⟨q, h9⟩
def gd_meets (io : Nat → Int32) (x g t c u : Int32) : Prop := (0 ≤ x ∧ x < io 4) ∧ (nI 0 ≤ g ∧ g ≤ nI 100) ∧ (nI 0 ≤ t ∧ t ≤ nI 9) ∧ (nI 0 ≤ c ∧ c ≤ nI 99) ∧ (nI 0 ≤ u ∧ u ≤ nI 7)
set_option maxHeartbeats 4000000 in
theorem c_meets_no (M : mH) (hM : 157 ≤ M.1) (io : Nat → Int32) (sg : Nat → Nat → Int32) (x g t c u : Int32) (hno : ¬ gd_meets io x g t c u) : mm_Ev 2 211 [.ref 100, .int x, .int g, .int t, .int c, .int u] (rf_mk M io sg) ((some (.int (-1)), rf_mk M io sg)) := by
  refine r_ev (by decide +kernel) (show (6 : Nat) ≤ mm_nL 211 by decide +kernel) ?_
  show mm_Ru 1 (13, 6, false, prog_14_method_29_code, some .int) 0 [(0, .ref 100), (1, .int x), (2, .int g), (3, .int t), (4, .int c), (5, .int u)] [] (rf_mk M io sg) (fun r9 => r9 = ((some (.int (-1)), rf_mk M io sg)))
  refine r_aload_n rfl dc_14_29_0 ?_
  refine r_iload_n rfl dc_14_29_1 ?_
  refine q_calli (as := [.int x]) (rest := []) (v := .int (sp_is x (io 4))) (M1 := rf_mk M io sg) iv_13_v296 na_1_212 o_212 hM rfl (show (0 : Nat) ≤ 8 by decide) dc_14_29_2 (c_isAgreement M hM io sg x) ?_
  refine r_ifeq (t := 50) (by decide) dc_14_29_5 (fun c_5 => ?_) (fun c_5 => ?_)
  · skip
    refine r_iconst (v := -1) (by decide) dc_14_29_50 ?_
    exact r_iret rfl dc_14_29_51 (rfl)
  · skip
    refine r_iload_n rfl dc_14_29_8 ?_
    refine r_iconst (v := nI 0) (by decide) dc_14_29_9 ?_
    refine r_bipush (v := nI 100) (by decide) dc_14_29_10 ?_
    refine q_calls (as := [.int g, .int (nI 0), .int (nI 100)]) (rest := []) (v := .int (sp_in g (nI 0) (nI 100))) iv_13_s180 na_0_187 rfl (show (0 : Nat) ≤ 8 by decide) dc_14_29_12 (c_in _ g (nI 0) (nI 100)) ?_
    refine r_ifeq (t := 50) (by decide) dc_14_29_15 (fun c_15 => ?_) (fun c_15 => ?_)
    · skip
      refine r_iconst (v := -1) (by decide) dc_14_29_50 ?_
      exact r_iret rfl dc_14_29_51 (rfl)
    · skip
      refine r_iload_n rfl dc_14_29_18 ?_
      refine r_iconst (v := nI 0) (by decide) dc_14_29_19 ?_
      refine r_bipush (v := nI 9) (by decide) dc_14_29_20 ?_
      refine q_calls (as := [.int t, .int (nI 0), .int (nI 9)]) (rest := []) (v := .int (sp_in t (nI 0) (nI 9))) iv_13_s180 na_0_187 rfl (show (0 : Nat) ≤ 8 by decide) dc_14_29_22 (c_in _ t (nI 0) (nI 9)) ?_
      refine r_ifeq (t := 50) (by decide) dc_14_29_25 (fun c_25 => ?_) (fun c_25 => ?_)
      · skip
        refine r_iconst (v := -1) (by decide) dc_14_29_50 ?_
        exact r_iret rfl dc_14_29_51 (rfl)
      · skip
        refine r_iload rfl dc_14_29_28 ?_
        refine r_iconst (v := nI 0) (by decide) dc_14_29_30 ?_
        refine r_bipush (v := nI 99) (by decide) dc_14_29_31 ?_
        refine q_calls (as := [.int c, .int (nI 0), .int (nI 99)]) (rest := []) (v := .int (sp_in c (nI 0) (nI 99))) iv_13_s180 na_0_187 rfl (show (0 : Nat) ≤ 8 by decide) dc_14_29_33 (c_in _ c (nI 0) (nI 99)) ?_
        refine r_ifeq (t := 50) (by decide) dc_14_29_36 (fun c_36 => ?_) (fun c_36 => ?_)
        · skip
          refine r_iconst (v := -1) (by decide) dc_14_29_50 ?_
          exact r_iret rfl dc_14_29_51 (rfl)
        · skip
          refine r_iload rfl dc_14_29_39 ?_
          refine r_iconst (v := nI 0) (by decide) dc_14_29_41 ?_
          refine r_bipush (v := nI 7) (by decide) dc_14_29_42 ?_
          refine q_calls (as := [.int u, .int (nI 0), .int (nI 7)]) (rest := []) (v := .int (sp_in u (nI 0) (nI 7))) iv_13_s180 na_0_187 rfl (show (0 : Nat) ≤ 8 by decide) dc_14_29_44 (c_in _ u (nI 0) (nI 7)) ?_
          refine r_ifne (t := 52) (by decide) dc_14_29_47 (fun c_47 => ?_) (fun c_47 => ?_)
          · skip
            exact absurd (⟨sp_is_ne c_5, sp_in_ne c_15, sp_in_ne c_25, sp_in_ne c_36, sp_in_ne c_47⟩) hno
          · skip
            refine r_iconst (v := -1) (by decide) dc_14_29_50 ?_
            exact r_iret rfl dc_14_29_51 (rfl)
