/-! THE LAW -/
theorem dl_0 : decode code 0 = .ok (.new 7, 3) := by decide +kernel
theorem dl_3 : decode code 3 = .ok (.dup, 1) := by decide +kernel
theorem dl_4 : decode code 4 = .ok (.invokespecial 9, 3) := by decide +kernel
theorem dl_7 : decode code 7 = .ok (.astore_n 1, 1) := by decide +kernel
theorem dl_8 : decode code 8 = .ok (.new 10, 3) := by decide +kernel
theorem dl_11 : decode code 11 = .ok (.dup, 1) := by decide +kernel
theorem dl_12 : decode code 12 = .ok (.invokespecial 12, 3) := by decide +kernel
theorem dl_15 : decode code 15 = .ok (.astore_n 2, 1) := by decide +kernel
theorem dl_16 : decode code 16 = .ok (.iconst 0, 1) := by decide +kernel
theorem dl_17 : decode code 17 = .ok (.istore_n 3, 1) := by decide +kernel
theorem dl_18 : decode code 18 = .ok (.iload_n 3, 1) := by decide +kernel
theorem dl_19 : decode code 19 = .ok (.aload_n 0, 1) := by decide +kernel
theorem dl_20 : decode code 20 = .ok (.arraylength, 1) := by decide +kernel
theorem dl_21 : decode code 21 = .ok (.bipush 8, 2) := by decide +kernel
theorem dl_23 : decode code 23 = .ok (.isub, 1) := by decide +kernel
theorem dl_24 : decode code 24 = .ok (.if_icmp .gt 1425, 3) := by decide +kernel
theorem dl_27 : decode code 27 = .ok (.aload_n 0, 1) := by decide +kernel
theorem dl_28 : decode code 28 = .ok (.iload_n 3, 1) := by decide +kernel
theorem dl_29 : decode code 29 = .ok (.iaload, 1) := by decide +kernel
theorem dl_30 : decode code 30 = .ok (.bipush 31, 2) := by decide +kernel
theorem dl_32 : decode code 32 = .ok (.iand, 1) := by decide +kernel
theorem dl_33 : decode code 33 = .ok (.tableswitch 1410 0 31 #[143, 186, 229, 282, 369, 402, 465, 508, 571, 614, 677, 720, 753, 786, 799, 822, 835, 848, 871, 934, 993, 1036, 1089, 1132, 1165, 1208, 1251, 1284, 1297, 1321, 1354, 1387], 143) := by decide +kernel
theorem dl_176 : decode code 176 = .ok (.aload_n 1, 1) := by decide +kernel
theorem dl_177 : decode code 177 = .ok (.aload_n 0, 1) := by decide +kernel
theorem dl_178 : decode code 178 = .ok (.iload_n 3, 1) := by decide +kernel
theorem dl_179 : decode code 179 = .ok (.iconst 1, 1) := by decide +kernel
theorem dl_180 : decode code 180 = .ok (.iadd, 1) := by decide +kernel
theorem dl_181 : decode code 181 = .ok (.iaload, 1) := by decide +kernel
theorem dl_182 : decode code 182 = .ok (.aload_n 0, 1) := by decide +kernel
theorem dl_183 : decode code 183 = .ok (.iload_n 3, 1) := by decide +kernel
theorem dl_184 : decode code 184 = .ok (.iconst 2, 1) := by decide +kernel
theorem dl_185 : decode code 185 = .ok (.iadd, 1) := by decide +kernel
theorem dl_186 : decode code 186 = .ok (.iaload, 1) := by decide +kernel
theorem dl_187 : decode code 187 = .ok (.aload_n 0, 1) := by decide +kernel
theorem dl_188 : decode code 188 = .ok (.iload_n 3, 1) := by decide +kernel
theorem dl_189 : decode code 189 = .ok (.iconst 3, 1) := by decide +kernel
theorem dl_190 : decode code 190 = .ok (.iadd, 1) := by decide +kernel
theorem dl_191 : decode code 191 = .ok (.iaload, 1) := by decide +kernel
theorem dl_192 : decode code 192 = .ok (.invokevirtual 13, 3) := by decide +kernel
theorem dl_195 : decode code 195 = .ok (.aload_n 2, 1) := by decide +kernel
theorem dl_196 : decode code 196 = .ok (.aload_n 0, 1) := by decide +kernel
theorem dl_197 : decode code 197 = .ok (.iload_n 3, 1) := by decide +kernel
theorem dl_198 : decode code 198 = .ok (.iconst 1, 1) := by decide +kernel
theorem dl_199 : decode code 199 = .ok (.iadd, 1) := by decide +kernel
theorem dl_200 : decode code 200 = .ok (.iaload, 1) := by decide +kernel
theorem dl_201 : decode code 201 = .ok (.aload_n 0, 1) := by decide +kernel
theorem dl_202 : decode code 202 = .ok (.iload_n 3, 1) := by decide +kernel
theorem dl_203 : decode code 203 = .ok (.iconst 2, 1) := by decide +kernel
theorem dl_204 : decode code 204 = .ok (.iadd, 1) := by decide +kernel
theorem dl_205 : decode code 205 = .ok (.iaload, 1) := by decide +kernel
theorem dl_206 : decode code 206 = .ok (.aload_n 0, 1) := by decide +kernel
theorem dl_207 : decode code 207 = .ok (.iload_n 3, 1) := by decide +kernel
theorem dl_208 : decode code 208 = .ok (.iconst 3, 1) := by decide +kernel
theorem dl_209 : decode code 209 = .ok (.iadd, 1) := by decide +kernel
theorem dl_210 : decode code 210 = .ok (.iaload, 1) := by decide +kernel
theorem dl_211 : decode code 211 = .ok (.invokevirtual 17, 3) := by decide +kernel
theorem dl_214 : decode code 214 = .ok (.if_icmp .eq 1229, 3) := by decide +kernel
theorem dl_219 : decode code 219 = .ok (.aload_n 1, 1) := by decide +kernel
theorem dl_220 : decode code 220 = .ok (.aload_n 0, 1) := by decide +kernel
theorem dl_221 : decode code 221 = .ok (.iload_n 3, 1) := by decide +kernel
theorem dl_222 : decode code 222 = .ok (.iconst 1, 1) := by decide +kernel
theorem dl_223 : decode code 223 = .ok (.iadd, 1) := by decide +kernel
theorem dl_224 : decode code 224 = .ok (.iaload, 1) := by decide +kernel
theorem dl_225 : decode code 225 = .ok (.aload_n 0, 1) := by decide +kernel
theorem dl_226 : decode code 226 = .ok (.iload_n 3, 1) := by decide +kernel
theorem dl_227 : decode code 227 = .ok (.iconst 2, 1) := by decide +kernel
theorem dl_228 : decode code 228 = .ok (.iadd, 1) := by decide +kernel
theorem dl_229 : decode code 229 = .ok (.iaload, 1) := by decide +kernel
theorem dl_230 : decode code 230 = .ok (.aload_n 0, 1) := by decide +kernel
theorem dl_231 : decode code 231 = .ok (.iload_n 3, 1) := by decide +kernel
theorem dl_232 : decode code 232 = .ok (.iconst 3, 1) := by decide +kernel
theorem dl_233 : decode code 233 = .ok (.iadd, 1) := by decide +kernel
theorem dl_234 : decode code 234 = .ok (.iaload, 1) := by decide +kernel
theorem dl_235 : decode code 235 = .ok (.invokevirtual 18, 3) := by decide +kernel
theorem dl_238 : decode code 238 = .ok (.aload_n 2, 1) := by decide +kernel
theorem dl_239 : decode code 239 = .ok (.aload_n 0, 1) := by decide +kernel
theorem dl_240 : decode code 240 = .ok (.iload_n 3, 1) := by decide +kernel
theorem dl_241 : decode code 241 = .ok (.iconst 1, 1) := by decide +kernel
theorem dl_242 : decode code 242 = .ok (.iadd, 1) := by decide +kernel
theorem dl_243 : decode code 243 = .ok (.iaload, 1) := by decide +kernel
theorem dl_244 : decode code 244 = .ok (.aload_n 0, 1) := by decide +kernel
theorem dl_245 : decode code 245 = .ok (.iload_n 3, 1) := by decide +kernel
theorem dl_246 : decode code 246 = .ok (.iconst 2, 1) := by decide +kernel
theorem dl_247 : decode code 247 = .ok (.iadd, 1) := by decide +kernel
theorem dl_248 : decode code 248 = .ok (.iaload, 1) := by decide +kernel
theorem dl_249 : decode code 249 = .ok (.aload_n 0, 1) := by decide +kernel
theorem dl_250 : decode code 250 = .ok (.iload_n 3, 1) := by decide +kernel
theorem dl_251 : decode code 251 = .ok (.iconst 3, 1) := by decide +kernel
theorem dl_252 : decode code 252 = .ok (.iadd, 1) := by decide +kernel
theorem dl_253 : decode code 253 = .ok (.iaload, 1) := by decide +kernel
theorem dl_254 : decode code 254 = .ok (.invokevirtual 21, 3) := by decide +kernel
theorem dl_257 : decode code 257 = .ok (.if_icmp .eq 1186, 3) := by decide +kernel
theorem dl_262 : decode code 262 = .ok (.aload_n 1, 1) := by decide +kernel
theorem dl_263 : decode code 263 = .ok (.aload_n 0, 1) := by decide +kernel
theorem dl_264 : decode code 264 = .ok (.iload_n 3, 1) := by decide +kernel
theorem dl_265 : decode code 265 = .ok (.iconst 1, 1) := by decide +kernel
theorem dl_266 : decode code 266 = .ok (.iadd, 1) := by decide +kernel
theorem dl_267 : decode code 267 = .ok (.iaload, 1) := by decide +kernel
theorem dl_268 : decode code 268 = .ok (.aload_n 0, 1) := by decide +kernel
theorem dl_269 : decode code 269 = .ok (.iload_n 3, 1) := by decide +kernel
theorem dl_270 : decode code 270 = .ok (.iconst 2, 1) := by decide +kernel
theorem dl_271 : decode code 271 = .ok (.iadd, 1) := by decide +kernel
theorem dl_272 : decode code 272 = .ok (.iaload, 1) := by decide +kernel
theorem dl_273 : decode code 273 = .ok (.aload_n 0, 1) := by decide +kernel
theorem dl_274 : decode code 274 = .ok (.iload_n 3, 1) := by decide +kernel
theorem dl_275 : decode code 275 = .ok (.iconst 3, 1) := by decide +kernel
theorem dl_276 : decode code 276 = .ok (.iadd, 1) := by decide +kernel
theorem dl_277 : decode code 277 = .ok (.iaload, 1) := by decide +kernel
theorem dl_278 : decode code 278 = .ok (.aload_n 0, 1) := by decide +kernel
theorem dl_279 : decode code 279 = .ok (.iload_n 3, 1) := by decide +kernel
theorem dl_280 : decode code 280 = .ok (.iconst 4, 1) := by decide +kernel
theorem dl_281 : decode code 281 = .ok (.iadd, 1) := by decide +kernel
theorem dl_282 : decode code 282 = .ok (.iaload, 1) := by decide +kernel
theorem dl_283 : decode code 283 = .ok (.invokevirtual 22, 3) := by decide +kernel
theorem dl_286 : decode code 286 = .ok (.aload_n 2, 1) := by decide +kernel
theorem dl_287 : decode code 287 = .ok (.aload_n 0, 1) := by decide +kernel
theorem dl_288 : decode code 288 = .ok (.iload_n 3, 1) := by decide +kernel
theorem dl_289 : decode code 289 = .ok (.iconst 1, 1) := by decide +kernel
theorem dl_290 : decode code 290 = .ok (.iadd, 1) := by decide +kernel
theorem dl_291 : decode code 291 = .ok (.iaload, 1) := by decide +kernel
theorem dl_292 : decode code 292 = .ok (.aload_n 0, 1) := by decide +kernel
theorem dl_293 : decode code 293 = .ok (.iload_n 3, 1) := by decide +kernel
theorem dl_294 : decode code 294 = .ok (.iconst 2, 1) := by decide +kernel
theorem dl_295 : decode code 295 = .ok (.iadd, 1) := by decide +kernel
theorem dl_296 : decode code 296 = .ok (.iaload, 1) := by decide +kernel
theorem dl_297 : decode code 297 = .ok (.aload_n 0, 1) := by decide +kernel
theorem dl_298 : decode code 298 = .ok (.iload_n 3, 1) := by decide +kernel
theorem dl_299 : decode code 299 = .ok (.iconst 3, 1) := by decide +kernel
theorem dl_300 : decode code 300 = .ok (.iadd, 1) := by decide +kernel
theorem dl_301 : decode code 301 = .ok (.iaload, 1) := by decide +kernel
theorem dl_302 : decode code 302 = .ok (.aload_n 0, 1) := by decide +kernel
theorem dl_303 : decode code 303 = .ok (.iload_n 3, 1) := by decide +kernel
theorem dl_304 : decode code 304 = .ok (.iconst 4, 1) := by decide +kernel
theorem dl_305 : decode code 305 = .ok (.iadd, 1) := by decide +kernel
theorem dl_306 : decode code 306 = .ok (.iaload, 1) := by decide +kernel
theorem dl_307 : decode code 307 = .ok (.invokevirtual 26, 3) := by decide +kernel
theorem dl_310 : decode code 310 = .ok (.if_icmp .eq 1133, 3) := by decide +kernel
theorem dl_315 : decode code 315 = .ok (.aload_n 1, 1) := by decide +kernel
theorem dl_316 : decode code 316 = .ok (.aload_n 0, 1) := by decide +kernel
theorem dl_317 : decode code 317 = .ok (.iload_n 3, 1) := by decide +kernel
theorem dl_318 : decode code 318 = .ok (.iconst 1, 1) := by decide +kernel
theorem dl_319 : decode code 319 = .ok (.iadd, 1) := by decide +kernel
theorem dl_320 : decode code 320 = .ok (.iaload, 1) := by decide +kernel
theorem dl_321 : decode code 321 = .ok (.aload_n 0, 1) := by decide +kernel
theorem dl_322 : decode code 322 = .ok (.iload_n 3, 1) := by decide +kernel
theorem dl_323 : decode code 323 = .ok (.iconst 2, 1) := by decide +kernel
theorem dl_324 : decode code 324 = .ok (.iadd, 1) := by decide +kernel
theorem dl_325 : decode code 325 = .ok (.iaload, 1) := by decide +kernel
theorem dl_326 : decode code 326 = .ok (.aload_n 0, 1) := by decide +kernel
theorem dl_327 : decode code 327 = .ok (.iload_n 3, 1) := by decide +kernel
theorem dl_328 : decode code 328 = .ok (.iconst 3, 1) := by decide +kernel
theorem dl_329 : decode code 329 = .ok (.iadd, 1) := by decide +kernel
theorem dl_330 : decode code 330 = .ok (.iaload, 1) := by decide +kernel
theorem dl_331 : decode code 331 = .ok (.aload_n 0, 1) := by decide +kernel
theorem dl_332 : decode code 332 = .ok (.iload_n 3, 1) := by decide +kernel
theorem dl_333 : decode code 333 = .ok (.iconst 4, 1) := by decide +kernel
theorem dl_334 : decode code 334 = .ok (.iadd, 1) := by decide +kernel
theorem dl_335 : decode code 335 = .ok (.iaload, 1) := by decide +kernel
theorem dl_336 : decode code 336 = .ok (.aload_n 0, 1) := by decide +kernel
theorem dl_337 : decode code 337 = .ok (.iload_n 3, 1) := by decide +kernel
theorem dl_338 : decode code 338 = .ok (.iconst 5, 1) := by decide +kernel
theorem dl_339 : decode code 339 = .ok (.iadd, 1) := by decide +kernel
theorem dl_340 : decode code 340 = .ok (.iaload, 1) := by decide +kernel
theorem dl_341 : decode code 341 = .ok (.aload_n 0, 1) := by decide +kernel
theorem dl_342 : decode code 342 = .ok (.iload_n 3, 1) := by decide +kernel
theorem dl_343 : decode code 343 = .ok (.bipush 6, 2) := by decide +kernel
theorem dl_345 : decode code 345 = .ok (.iadd, 1) := by decide +kernel
theorem dl_346 : decode code 346 = .ok (.iaload, 1) := by decide +kernel
theorem dl_347 : decode code 347 = .ok (.aload_n 0, 1) := by decide +kernel
theorem dl_348 : decode code 348 = .ok (.iload_n 3, 1) := by decide +kernel
theorem dl_349 : decode code 349 = .ok (.bipush 7, 2) := by decide +kernel
theorem dl_351 : decode code 351 = .ok (.iadd, 1) := by decide +kernel
theorem dl_352 : decode code 352 = .ok (.iaload, 1) := by decide +kernel
theorem dl_353 : decode code 353 = .ok (.invokevirtual 27, 3) := by decide +kernel
theorem dl_356 : decode code 356 = .ok (.aload_n 2, 1) := by decide +kernel
theorem dl_357 : decode code 357 = .ok (.aload_n 0, 1) := by decide +kernel
theorem dl_358 : decode code 358 = .ok (.iload_n 3, 1) := by decide +kernel
theorem dl_359 : decode code 359 = .ok (.iconst 1, 1) := by decide +kernel
theorem dl_360 : decode code 360 = .ok (.iadd, 1) := by decide +kernel
theorem dl_361 : decode code 361 = .ok (.iaload, 1) := by decide +kernel
theorem dl_362 : decode code 362 = .ok (.aload_n 0, 1) := by decide +kernel
theorem dl_363 : decode code 363 = .ok (.iload_n 3, 1) := by decide +kernel
theorem dl_364 : decode code 364 = .ok (.iconst 2, 1) := by decide +kernel
theorem dl_365 : decode code 365 = .ok (.iadd, 1) := by decide +kernel
theorem dl_366 : decode code 366 = .ok (.iaload, 1) := by decide +kernel
theorem dl_367 : decode code 367 = .ok (.aload_n 0, 1) := by decide +kernel
theorem dl_368 : decode code 368 = .ok (.iload_n 3, 1) := by decide +kernel
theorem dl_369 : decode code 369 = .ok (.iconst 3, 1) := by decide +kernel
theorem dl_370 : decode code 370 = .ok (.iadd, 1) := by decide +kernel
theorem dl_371 : decode code 371 = .ok (.iaload, 1) := by decide +kernel
theorem dl_372 : decode code 372 = .ok (.aload_n 0, 1) := by decide +kernel
theorem dl_373 : decode code 373 = .ok (.iload_n 3, 1) := by decide +kernel
theorem dl_374 : decode code 374 = .ok (.iconst 4, 1) := by decide +kernel
theorem dl_375 : decode code 375 = .ok (.iadd, 1) := by decide +kernel
theorem dl_376 : decode code 376 = .ok (.iaload, 1) := by decide +kernel
theorem dl_377 : decode code 377 = .ok (.aload_n 0, 1) := by decide +kernel
theorem dl_378 : decode code 378 = .ok (.iload_n 3, 1) := by decide +kernel
theorem dl_379 : decode code 379 = .ok (.iconst 5, 1) := by decide +kernel
theorem dl_380 : decode code 380 = .ok (.iadd, 1) := by decide +kernel
theorem dl_381 : decode code 381 = .ok (.iaload, 1) := by decide +kernel
theorem dl_382 : decode code 382 = .ok (.aload_n 0, 1) := by decide +kernel
theorem dl_383 : decode code 383 = .ok (.iload_n 3, 1) := by decide +kernel
theorem dl_384 : decode code 384 = .ok (.bipush 6, 2) := by decide +kernel
theorem dl_386 : decode code 386 = .ok (.iadd, 1) := by decide +kernel
theorem dl_387 : decode code 387 = .ok (.iaload, 1) := by decide +kernel
theorem dl_388 : decode code 388 = .ok (.aload_n 0, 1) := by decide +kernel
theorem dl_389 : decode code 389 = .ok (.iload_n 3, 1) := by decide +kernel
theorem dl_390 : decode code 390 = .ok (.bipush 7, 2) := by decide +kernel
theorem dl_392 : decode code 392 = .ok (.iadd, 1) := by decide +kernel
theorem dl_393 : decode code 393 = .ok (.iaload, 1) := by decide +kernel
theorem dl_394 : decode code 394 = .ok (.invokevirtual 31, 3) := by decide +kernel
theorem dl_397 : decode code 397 = .ok (.if_icmp .eq 1046, 3) := by decide +kernel
theorem dl_402 : decode code 402 = .ok (.aload_n 1, 1) := by decide +kernel
theorem dl_403 : decode code 403 = .ok (.aload_n 0, 1) := by decide +kernel
theorem dl_404 : decode code 404 = .ok (.iload_n 3, 1) := by decide +kernel
theorem dl_405 : decode code 405 = .ok (.iconst 1, 1) := by decide +kernel
theorem dl_406 : decode code 406 = .ok (.iadd, 1) := by decide +kernel
theorem dl_407 : decode code 407 = .ok (.iaload, 1) := by decide +kernel
theorem dl_408 : decode code 408 = .ok (.aload_n 0, 1) := by decide +kernel
theorem dl_409 : decode code 409 = .ok (.iload_n 3, 1) := by decide +kernel
theorem dl_410 : decode code 410 = .ok (.iconst 2, 1) := by decide +kernel
theorem dl_411 : decode code 411 = .ok (.iadd, 1) := by decide +kernel
theorem dl_412 : decode code 412 = .ok (.iaload, 1) := by decide +kernel
theorem dl_413 : decode code 413 = .ok (.invokevirtual 32, 3) := by decide +kernel
theorem dl_416 : decode code 416 = .ok (.aload_n 2, 1) := by decide +kernel
theorem dl_417 : decode code 417 = .ok (.aload_n 0, 1) := by decide +kernel
theorem dl_418 : decode code 418 = .ok (.iload_n 3, 1) := by decide +kernel
theorem dl_419 : decode code 419 = .ok (.iconst 1, 1) := by decide +kernel
theorem dl_420 : decode code 420 = .ok (.iadd, 1) := by decide +kernel
theorem dl_421 : decode code 421 = .ok (.iaload, 1) := by decide +kernel
theorem dl_422 : decode code 422 = .ok (.aload_n 0, 1) := by decide +kernel
theorem dl_423 : decode code 423 = .ok (.iload_n 3, 1) := by decide +kernel
theorem dl_424 : decode code 424 = .ok (.iconst 2, 1) := by decide +kernel
theorem dl_425 : decode code 425 = .ok (.iadd, 1) := by decide +kernel
theorem dl_426 : decode code 426 = .ok (.iaload, 1) := by decide +kernel
theorem dl_427 : decode code 427 = .ok (.invokevirtual 36, 3) := by decide +kernel
theorem dl_430 : decode code 430 = .ok (.if_icmp .eq 1013, 3) := by decide +kernel
theorem dl_435 : decode code 435 = .ok (.aload_n 1, 1) := by decide +kernel
theorem dl_436 : decode code 436 = .ok (.aload_n 0, 1) := by decide +kernel
theorem dl_437 : decode code 437 = .ok (.iload_n 3, 1) := by decide +kernel
theorem dl_438 : decode code 438 = .ok (.iconst 1, 1) := by decide +kernel
theorem dl_439 : decode code 439 = .ok (.iadd, 1) := by decide +kernel
theorem dl_440 : decode code 440 = .ok (.iaload, 1) := by decide +kernel
theorem dl_441 : decode code 441 = .ok (.aload_n 0, 1) := by decide +kernel
theorem dl_442 : decode code 442 = .ok (.iload_n 3, 1) := by decide +kernel
theorem dl_443 : decode code 443 = .ok (.iconst 2, 1) := by decide +kernel
theorem dl_444 : decode code 444 = .ok (.iadd, 1) := by decide +kernel
theorem dl_445 : decode code 445 = .ok (.iaload, 1) := by decide +kernel
theorem dl_446 : decode code 446 = .ok (.aload_n 0, 1) := by decide +kernel
theorem dl_447 : decode code 447 = .ok (.iload_n 3, 1) := by decide +kernel
theorem dl_448 : decode code 448 = .ok (.iconst 3, 1) := by decide +kernel
theorem dl_449 : decode code 449 = .ok (.iadd, 1) := by decide +kernel
theorem dl_450 : decode code 450 = .ok (.iaload, 1) := by decide +kernel
theorem dl_451 : decode code 451 = .ok (.aload_n 0, 1) := by decide +kernel
theorem dl_452 : decode code 452 = .ok (.iload_n 3, 1) := by decide +kernel
theorem dl_453 : decode code 453 = .ok (.iconst 4, 1) := by decide +kernel
theorem dl_454 : decode code 454 = .ok (.iadd, 1) := by decide +kernel
theorem dl_455 : decode code 455 = .ok (.iaload, 1) := by decide +kernel
theorem dl_456 : decode code 456 = .ok (.aload_n 0, 1) := by decide +kernel
theorem dl_457 : decode code 457 = .ok (.iload_n 3, 1) := by decide +kernel
theorem dl_458 : decode code 458 = .ok (.iconst 5, 1) := by decide +kernel
theorem dl_459 : decode code 459 = .ok (.iadd, 1) := by decide +kernel
theorem dl_460 : decode code 460 = .ok (.iaload, 1) := by decide +kernel
theorem dl_461 : decode code 461 = .ok (.invokevirtual 37, 3) := by decide +kernel
theorem dl_464 : decode code 464 = .ok (.aload_n 2, 1) := by decide +kernel
theorem dl_465 : decode code 465 = .ok (.aload_n 0, 1) := by decide +kernel
theorem dl_466 : decode code 466 = .ok (.iload_n 3, 1) := by decide +kernel
theorem dl_467 : decode code 467 = .ok (.iconst 1, 1) := by decide +kernel
theorem dl_468 : decode code 468 = .ok (.iadd, 1) := by decide +kernel
theorem dl_469 : decode code 469 = .ok (.iaload, 1) := by decide +kernel
theorem dl_470 : decode code 470 = .ok (.aload_n 0, 1) := by decide +kernel
theorem dl_471 : decode code 471 = .ok (.iload_n 3, 1) := by decide +kernel
theorem dl_472 : decode code 472 = .ok (.iconst 2, 1) := by decide +kernel
theorem dl_473 : decode code 473 = .ok (.iadd, 1) := by decide +kernel
theorem dl_474 : decode code 474 = .ok (.iaload, 1) := by decide +kernel
theorem dl_475 : decode code 475 = .ok (.aload_n 0, 1) := by decide +kernel
theorem dl_476 : decode code 476 = .ok (.iload_n 3, 1) := by decide +kernel
theorem dl_477 : decode code 477 = .ok (.iconst 3, 1) := by decide +kernel
theorem dl_478 : decode code 478 = .ok (.iadd, 1) := by decide +kernel
theorem dl_479 : decode code 479 = .ok (.iaload, 1) := by decide +kernel
theorem dl_480 : decode code 480 = .ok (.aload_n 0, 1) := by decide +kernel
theorem dl_481 : decode code 481 = .ok (.iload_n 3, 1) := by decide +kernel
theorem dl_482 : decode code 482 = .ok (.iconst 4, 1) := by decide +kernel
theorem dl_483 : decode code 483 = .ok (.iadd, 1) := by decide +kernel
theorem dl_484 : decode code 484 = .ok (.iaload, 1) := by decide +kernel
theorem dl_485 : decode code 485 = .ok (.aload_n 0, 1) := by decide +kernel
theorem dl_486 : decode code 486 = .ok (.iload_n 3, 1) := by decide +kernel
theorem dl_487 : decode code 487 = .ok (.iconst 5, 1) := by decide +kernel
theorem dl_488 : decode code 488 = .ok (.iadd, 1) := by decide +kernel
theorem dl_489 : decode code 489 = .ok (.iaload, 1) := by decide +kernel
theorem dl_490 : decode code 490 = .ok (.invokevirtual 41, 3) := by decide +kernel
theorem dl_493 : decode code 493 = .ok (.if_icmp .eq 950, 3) := by decide +kernel
theorem dl_498 : decode code 498 = .ok (.aload_n 1, 1) := by decide +kernel
theorem dl_499 : decode code 499 = .ok (.aload_n 0, 1) := by decide +kernel
theorem dl_500 : decode code 500 = .ok (.iload_n 3, 1) := by decide +kernel
theorem dl_501 : decode code 501 = .ok (.iconst 1, 1) := by decide +kernel
theorem dl_502 : decode code 502 = .ok (.iadd, 1) := by decide +kernel
theorem dl_503 : decode code 503 = .ok (.iaload, 1) := by decide +kernel
theorem dl_504 : decode code 504 = .ok (.aload_n 0, 1) := by decide +kernel
theorem dl_505 : decode code 505 = .ok (.iload_n 3, 1) := by decide +kernel
theorem dl_506 : decode code 506 = .ok (.iconst 2, 1) := by decide +kernel
theorem dl_507 : decode code 507 = .ok (.iadd, 1) := by decide +kernel
theorem dl_508 : decode code 508 = .ok (.iaload, 1) := by decide +kernel
theorem dl_509 : decode code 509 = .ok (.aload_n 0, 1) := by decide +kernel
theorem dl_510 : decode code 510 = .ok (.iload_n 3, 1) := by decide +kernel
theorem dl_511 : decode code 511 = .ok (.iconst 3, 1) := by decide +kernel
theorem dl_512 : decode code 512 = .ok (.iadd, 1) := by decide +kernel
theorem dl_513 : decode code 513 = .ok (.iaload, 1) := by decide +kernel
theorem dl_514 : decode code 514 = .ok (.invokevirtual 42, 3) := by decide +kernel
theorem dl_517 : decode code 517 = .ok (.aload_n 2, 1) := by decide +kernel
theorem dl_518 : decode code 518 = .ok (.aload_n 0, 1) := by decide +kernel
theorem dl_519 : decode code 519 = .ok (.iload_n 3, 1) := by decide +kernel
theorem dl_520 : decode code 520 = .ok (.iconst 1, 1) := by decide +kernel
theorem dl_521 : decode code 521 = .ok (.iadd, 1) := by decide +kernel
theorem dl_522 : decode code 522 = .ok (.iaload, 1) := by decide +kernel
theorem dl_523 : decode code 523 = .ok (.aload_n 0, 1) := by decide +kernel
theorem dl_524 : decode code 524 = .ok (.iload_n 3, 1) := by decide +kernel
theorem dl_525 : decode code 525 = .ok (.iconst 2, 1) := by decide +kernel
theorem dl_526 : decode code 526 = .ok (.iadd, 1) := by decide +kernel
theorem dl_527 : decode code 527 = .ok (.iaload, 1) := by decide +kernel
theorem dl_528 : decode code 528 = .ok (.aload_n 0, 1) := by decide +kernel
theorem dl_529 : decode code 529 = .ok (.iload_n 3, 1) := by decide +kernel
theorem dl_530 : decode code 530 = .ok (.iconst 3, 1) := by decide +kernel
theorem dl_531 : decode code 531 = .ok (.iadd, 1) := by decide +kernel
theorem dl_532 : decode code 532 = .ok (.iaload, 1) := by decide +kernel
theorem dl_533 : decode code 533 = .ok (.invokevirtual 46, 3) := by decide +kernel
theorem dl_536 : decode code 536 = .ok (.if_icmp .eq 907, 3) := by decide +kernel
theorem dl_541 : decode code 541 = .ok (.aload_n 1, 1) := by decide +kernel
theorem dl_542 : decode code 542 = .ok (.aload_n 0, 1) := by decide +kernel
theorem dl_543 : decode code 543 = .ok (.iload_n 3, 1) := by decide +kernel
theorem dl_544 : decode code 544 = .ok (.iconst 1, 1) := by decide +kernel
theorem dl_545 : decode code 545 = .ok (.iadd, 1) := by decide +kernel
theorem dl_546 : decode code 546 = .ok (.iaload, 1) := by decide +kernel
theorem dl_547 : decode code 547 = .ok (.aload_n 0, 1) := by decide +kernel
theorem dl_548 : decode code 548 = .ok (.iload_n 3, 1) := by decide +kernel
theorem dl_549 : decode code 549 = .ok (.iconst 2, 1) := by decide +kernel
theorem dl_550 : decode code 550 = .ok (.iadd, 1) := by decide +kernel
theorem dl_551 : decode code 551 = .ok (.iaload, 1) := by decide +kernel
theorem dl_552 : decode code 552 = .ok (.aload_n 0, 1) := by decide +kernel
theorem dl_553 : decode code 553 = .ok (.iload_n 3, 1) := by decide +kernel
theorem dl_554 : decode code 554 = .ok (.iconst 3, 1) := by decide +kernel
theorem dl_555 : decode code 555 = .ok (.iadd, 1) := by decide +kernel
theorem dl_556 : decode code 556 = .ok (.iaload, 1) := by decide +kernel
theorem dl_557 : decode code 557 = .ok (.aload_n 0, 1) := by decide +kernel
theorem dl_558 : decode code 558 = .ok (.iload_n 3, 1) := by decide +kernel
theorem dl_559 : decode code 559 = .ok (.iconst 4, 1) := by decide +kernel
theorem dl_560 : decode code 560 = .ok (.iadd, 1) := by decide +kernel
theorem dl_561 : decode code 561 = .ok (.iaload, 1) := by decide +kernel
theorem dl_562 : decode code 562 = .ok (.aload_n 0, 1) := by decide +kernel
theorem dl_563 : decode code 563 = .ok (.iload_n 3, 1) := by decide +kernel
theorem dl_564 : decode code 564 = .ok (.iconst 5, 1) := by decide +kernel
theorem dl_565 : decode code 565 = .ok (.iadd, 1) := by decide +kernel
theorem dl_566 : decode code 566 = .ok (.iaload, 1) := by decide +kernel
theorem dl_567 : decode code 567 = .ok (.invokevirtual 47, 3) := by decide +kernel
theorem dl_570 : decode code 570 = .ok (.aload_n 2, 1) := by decide +kernel
theorem dl_571 : decode code 571 = .ok (.aload_n 0, 1) := by decide +kernel
theorem dl_572 : decode code 572 = .ok (.iload_n 3, 1) := by decide +kernel
theorem dl_573 : decode code 573 = .ok (.iconst 1, 1) := by decide +kernel
theorem dl_574 : decode code 574 = .ok (.iadd, 1) := by decide +kernel
theorem dl_575 : decode code 575 = .ok (.iaload, 1) := by decide +kernel
theorem dl_576 : decode code 576 = .ok (.aload_n 0, 1) := by decide +kernel
theorem dl_577 : decode code 577 = .ok (.iload_n 3, 1) := by decide +kernel
theorem dl_578 : decode code 578 = .ok (.iconst 2, 1) := by decide +kernel
theorem dl_579 : decode code 579 = .ok (.iadd, 1) := by decide +kernel
theorem dl_580 : decode code 580 = .ok (.iaload, 1) := by decide +kernel
theorem dl_581 : decode code 581 = .ok (.aload_n 0, 1) := by decide +kernel
theorem dl_582 : decode code 582 = .ok (.iload_n 3, 1) := by decide +kernel
theorem dl_583 : decode code 583 = .ok (.iconst 3, 1) := by decide +kernel
theorem dl_584 : decode code 584 = .ok (.iadd, 1) := by decide +kernel
theorem dl_585 : decode code 585 = .ok (.iaload, 1) := by decide +kernel
theorem dl_586 : decode code 586 = .ok (.aload_n 0, 1) := by decide +kernel
theorem dl_587 : decode code 587 = .ok (.iload_n 3, 1) := by decide +kernel
theorem dl_588 : decode code 588 = .ok (.iconst 4, 1) := by decide +kernel
theorem dl_589 : decode code 589 = .ok (.iadd, 1) := by decide +kernel
theorem dl_590 : decode code 590 = .ok (.iaload, 1) := by decide +kernel
theorem dl_591 : decode code 591 = .ok (.aload_n 0, 1) := by decide +kernel
theorem dl_592 : decode code 592 = .ok (.iload_n 3, 1) := by decide +kernel
theorem dl_593 : decode code 593 = .ok (.iconst 5, 1) := by decide +kernel
theorem dl_594 : decode code 594 = .ok (.iadd, 1) := by decide +kernel
theorem dl_595 : decode code 595 = .ok (.iaload, 1) := by decide +kernel
theorem dl_596 : decode code 596 = .ok (.invokevirtual 50, 3) := by decide +kernel
theorem dl_599 : decode code 599 = .ok (.if_icmp .eq 844, 3) := by decide +kernel
theorem dl_604 : decode code 604 = .ok (.aload_n 1, 1) := by decide +kernel
theorem dl_605 : decode code 605 = .ok (.aload_n 0, 1) := by decide +kernel
theorem dl_606 : decode code 606 = .ok (.iload_n 3, 1) := by decide +kernel
theorem dl_607 : decode code 607 = .ok (.iconst 1, 1) := by decide +kernel
theorem dl_608 : decode code 608 = .ok (.iadd, 1) := by decide +kernel
theorem dl_609 : decode code 609 = .ok (.iaload, 1) := by decide +kernel
theorem dl_610 : decode code 610 = .ok (.aload_n 0, 1) := by decide +kernel
theorem dl_611 : decode code 611 = .ok (.iload_n 3, 1) := by decide +kernel
theorem dl_612 : decode code 612 = .ok (.iconst 2, 1) := by decide +kernel
theorem dl_613 : decode code 613 = .ok (.iadd, 1) := by decide +kernel
theorem dl_614 : decode code 614 = .ok (.iaload, 1) := by decide +kernel
theorem dl_615 : decode code 615 = .ok (.aload_n 0, 1) := by decide +kernel
theorem dl_616 : decode code 616 = .ok (.iload_n 3, 1) := by decide +kernel
theorem dl_617 : decode code 617 = .ok (.iconst 3, 1) := by decide +kernel
theorem dl_618 : decode code 618 = .ok (.iadd, 1) := by decide +kernel
theorem dl_619 : decode code 619 = .ok (.iaload, 1) := by decide +kernel
theorem dl_620 : decode code 620 = .ok (.invokevirtual 51, 3) := by decide +kernel
theorem dl_623 : decode code 623 = .ok (.aload_n 2, 1) := by decide +kernel
theorem dl_624 : decode code 624 = .ok (.aload_n 0, 1) := by decide +kernel
theorem dl_625 : decode code 625 = .ok (.iload_n 3, 1) := by decide +kernel
theorem dl_626 : decode code 626 = .ok (.iconst 1, 1) := by decide +kernel
theorem dl_627 : decode code 627 = .ok (.iadd, 1) := by decide +kernel
theorem dl_628 : decode code 628 = .ok (.iaload, 1) := by decide +kernel
theorem dl_629 : decode code 629 = .ok (.aload_n 0, 1) := by decide +kernel
theorem dl_630 : decode code 630 = .ok (.iload_n 3, 1) := by decide +kernel
theorem dl_631 : decode code 631 = .ok (.iconst 2, 1) := by decide +kernel
theorem dl_632 : decode code 632 = .ok (.iadd, 1) := by decide +kernel
theorem dl_633 : decode code 633 = .ok (.iaload, 1) := by decide +kernel
theorem dl_634 : decode code 634 = .ok (.aload_n 0, 1) := by decide +kernel
theorem dl_635 : decode code 635 = .ok (.iload_n 3, 1) := by decide +kernel
theorem dl_636 : decode code 636 = .ok (.iconst 3, 1) := by decide +kernel
theorem dl_637 : decode code 637 = .ok (.iadd, 1) := by decide +kernel
theorem dl_638 : decode code 638 = .ok (.iaload, 1) := by decide +kernel
theorem dl_639 : decode code 639 = .ok (.invokevirtual 54, 3) := by decide +kernel
theorem dl_642 : decode code 642 = .ok (.if_icmp .eq 801, 3) := by decide +kernel
theorem dl_647 : decode code 647 = .ok (.aload_n 1, 1) := by decide +kernel
theorem dl_648 : decode code 648 = .ok (.aload_n 0, 1) := by decide +kernel
theorem dl_649 : decode code 649 = .ok (.iload_n 3, 1) := by decide +kernel
theorem dl_650 : decode code 650 = .ok (.iconst 1, 1) := by decide +kernel
theorem dl_651 : decode code 651 = .ok (.iadd, 1) := by decide +kernel
theorem dl_652 : decode code 652 = .ok (.iaload, 1) := by decide +kernel
theorem dl_653 : decode code 653 = .ok (.aload_n 0, 1) := by decide +kernel
theorem dl_654 : decode code 654 = .ok (.iload_n 3, 1) := by decide +kernel
theorem dl_655 : decode code 655 = .ok (.iconst 2, 1) := by decide +kernel
theorem dl_656 : decode code 656 = .ok (.iadd, 1) := by decide +kernel
theorem dl_657 : decode code 657 = .ok (.iaload, 1) := by decide +kernel
theorem dl_658 : decode code 658 = .ok (.aload_n 0, 1) := by decide +kernel
theorem dl_659 : decode code 659 = .ok (.iload_n 3, 1) := by decide +kernel
theorem dl_660 : decode code 660 = .ok (.iconst 3, 1) := by decide +kernel
theorem dl_661 : decode code 661 = .ok (.iadd, 1) := by decide +kernel
theorem dl_662 : decode code 662 = .ok (.iaload, 1) := by decide +kernel
theorem dl_663 : decode code 663 = .ok (.aload_n 0, 1) := by decide +kernel
theorem dl_664 : decode code 664 = .ok (.iload_n 3, 1) := by decide +kernel
theorem dl_665 : decode code 665 = .ok (.iconst 4, 1) := by decide +kernel
theorem dl_666 : decode code 666 = .ok (.iadd, 1) := by decide +kernel
theorem dl_667 : decode code 667 = .ok (.iaload, 1) := by decide +kernel
theorem dl_668 : decode code 668 = .ok (.aload_n 0, 1) := by decide +kernel
theorem dl_669 : decode code 669 = .ok (.iload_n 3, 1) := by decide +kernel
theorem dl_670 : decode code 670 = .ok (.iconst 5, 1) := by decide +kernel
theorem dl_671 : decode code 671 = .ok (.iadd, 1) := by decide +kernel
theorem dl_672 : decode code 672 = .ok (.iaload, 1) := by decide +kernel
theorem dl_673 : decode code 673 = .ok (.invokevirtual 55, 3) := by decide +kernel
theorem dl_676 : decode code 676 = .ok (.aload_n 2, 1) := by decide +kernel
theorem dl_677 : decode code 677 = .ok (.aload_n 0, 1) := by decide +kernel
theorem dl_678 : decode code 678 = .ok (.iload_n 3, 1) := by decide +kernel
theorem dl_679 : decode code 679 = .ok (.iconst 1, 1) := by decide +kernel
theorem dl_680 : decode code 680 = .ok (.iadd, 1) := by decide +kernel
theorem dl_681 : decode code 681 = .ok (.iaload, 1) := by decide +kernel
theorem dl_682 : decode code 682 = .ok (.aload_n 0, 1) := by decide +kernel
theorem dl_683 : decode code 683 = .ok (.iload_n 3, 1) := by decide +kernel
theorem dl_684 : decode code 684 = .ok (.iconst 2, 1) := by decide +kernel
theorem dl_685 : decode code 685 = .ok (.iadd, 1) := by decide +kernel
theorem dl_686 : decode code 686 = .ok (.iaload, 1) := by decide +kernel
theorem dl_687 : decode code 687 = .ok (.aload_n 0, 1) := by decide +kernel
theorem dl_688 : decode code 688 = .ok (.iload_n 3, 1) := by decide +kernel
theorem dl_689 : decode code 689 = .ok (.iconst 3, 1) := by decide +kernel
theorem dl_690 : decode code 690 = .ok (.iadd, 1) := by decide +kernel
theorem dl_691 : decode code 691 = .ok (.iaload, 1) := by decide +kernel
theorem dl_692 : decode code 692 = .ok (.aload_n 0, 1) := by decide +kernel
theorem dl_693 : decode code 693 = .ok (.iload_n 3, 1) := by decide +kernel
theorem dl_694 : decode code 694 = .ok (.iconst 4, 1) := by decide +kernel
theorem dl_695 : decode code 695 = .ok (.iadd, 1) := by decide +kernel
theorem dl_696 : decode code 696 = .ok (.iaload, 1) := by decide +kernel
theorem dl_697 : decode code 697 = .ok (.aload_n 0, 1) := by decide +kernel
theorem dl_698 : decode code 698 = .ok (.iload_n 3, 1) := by decide +kernel
theorem dl_699 : decode code 699 = .ok (.iconst 5, 1) := by decide +kernel
theorem dl_700 : decode code 700 = .ok (.iadd, 1) := by decide +kernel
theorem dl_701 : decode code 701 = .ok (.iaload, 1) := by decide +kernel
theorem dl_702 : decode code 702 = .ok (.invokevirtual 58, 3) := by decide +kernel
theorem dl_705 : decode code 705 = .ok (.if_icmp .eq 738, 3) := by decide +kernel
theorem dl_710 : decode code 710 = .ok (.aload_n 1, 1) := by decide +kernel
theorem dl_711 : decode code 711 = .ok (.aload_n 0, 1) := by decide +kernel
theorem dl_712 : decode code 712 = .ok (.iload_n 3, 1) := by decide +kernel
theorem dl_713 : decode code 713 = .ok (.iconst 1, 1) := by decide +kernel
theorem dl_714 : decode code 714 = .ok (.iadd, 1) := by decide +kernel
theorem dl_715 : decode code 715 = .ok (.iaload, 1) := by decide +kernel
theorem dl_716 : decode code 716 = .ok (.aload_n 0, 1) := by decide +kernel
theorem dl_717 : decode code 717 = .ok (.iload_n 3, 1) := by decide +kernel
theorem dl_718 : decode code 718 = .ok (.iconst 2, 1) := by decide +kernel
theorem dl_719 : decode code 719 = .ok (.iadd, 1) := by decide +kernel
theorem dl_720 : decode code 720 = .ok (.iaload, 1) := by decide +kernel
theorem dl_721 : decode code 721 = .ok (.aload_n 0, 1) := by decide +kernel
theorem dl_722 : decode code 722 = .ok (.iload_n 3, 1) := by decide +kernel
theorem dl_723 : decode code 723 = .ok (.iconst 3, 1) := by decide +kernel
theorem dl_724 : decode code 724 = .ok (.iadd, 1) := by decide +kernel
theorem dl_725 : decode code 725 = .ok (.iaload, 1) := by decide +kernel
theorem dl_726 : decode code 726 = .ok (.invokevirtual 59, 3) := by decide +kernel
theorem dl_729 : decode code 729 = .ok (.aload_n 2, 1) := by decide +kernel
theorem dl_730 : decode code 730 = .ok (.aload_n 0, 1) := by decide +kernel
theorem dl_731 : decode code 731 = .ok (.iload_n 3, 1) := by decide +kernel
theorem dl_732 : decode code 732 = .ok (.iconst 1, 1) := by decide +kernel
theorem dl_733 : decode code 733 = .ok (.iadd, 1) := by decide +kernel
theorem dl_734 : decode code 734 = .ok (.iaload, 1) := by decide +kernel
theorem dl_735 : decode code 735 = .ok (.aload_n 0, 1) := by decide +kernel
theorem dl_736 : decode code 736 = .ok (.iload_n 3, 1) := by decide +kernel
theorem dl_737 : decode code 737 = .ok (.iconst 2, 1) := by decide +kernel
theorem dl_738 : decode code 738 = .ok (.iadd, 1) := by decide +kernel
theorem dl_739 : decode code 739 = .ok (.iaload, 1) := by decide +kernel
theorem dl_740 : decode code 740 = .ok (.aload_n 0, 1) := by decide +kernel
theorem dl_741 : decode code 741 = .ok (.iload_n 3, 1) := by decide +kernel
theorem dl_742 : decode code 742 = .ok (.iconst 3, 1) := by decide +kernel
theorem dl_743 : decode code 743 = .ok (.iadd, 1) := by decide +kernel
theorem dl_744 : decode code 744 = .ok (.iaload, 1) := by decide +kernel
theorem dl_745 : decode code 745 = .ok (.invokevirtual 62, 3) := by decide +kernel
theorem dl_748 : decode code 748 = .ok (.if_icmp .eq 695, 3) := by decide +kernel
theorem dl_753 : decode code 753 = .ok (.aload_n 1, 1) := by decide +kernel
theorem dl_754 : decode code 754 = .ok (.aload_n 0, 1) := by decide +kernel
theorem dl_755 : decode code 755 = .ok (.iload_n 3, 1) := by decide +kernel
theorem dl_756 : decode code 756 = .ok (.iconst 1, 1) := by decide +kernel
theorem dl_757 : decode code 757 = .ok (.iadd, 1) := by decide +kernel
theorem dl_758 : decode code 758 = .ok (.iaload, 1) := by decide +kernel
theorem dl_759 : decode code 759 = .ok (.aload_n 0, 1) := by decide +kernel
theorem dl_760 : decode code 760 = .ok (.iload_n 3, 1) := by decide +kernel
theorem dl_761 : decode code 761 = .ok (.iconst 2, 1) := by decide +kernel
theorem dl_762 : decode code 762 = .ok (.iadd, 1) := by decide +kernel
theorem dl_763 : decode code 763 = .ok (.iaload, 1) := by decide +kernel
theorem dl_764 : decode code 764 = .ok (.invokevirtual 63, 3) := by decide +kernel
theorem dl_767 : decode code 767 = .ok (.aload_n 2, 1) := by decide +kernel
theorem dl_768 : decode code 768 = .ok (.aload_n 0, 1) := by decide +kernel
theorem dl_769 : decode code 769 = .ok (.iload_n 3, 1) := by decide +kernel
theorem dl_770 : decode code 770 = .ok (.iconst 1, 1) := by decide +kernel
theorem dl_771 : decode code 771 = .ok (.iadd, 1) := by decide +kernel
theorem dl_772 : decode code 772 = .ok (.iaload, 1) := by decide +kernel
theorem dl_773 : decode code 773 = .ok (.aload_n 0, 1) := by decide +kernel
theorem dl_774 : decode code 774 = .ok (.iload_n 3, 1) := by decide +kernel
theorem dl_775 : decode code 775 = .ok (.iconst 2, 1) := by decide +kernel
theorem dl_776 : decode code 776 = .ok (.iadd, 1) := by decide +kernel
theorem dl_777 : decode code 777 = .ok (.iaload, 1) := by decide +kernel
theorem dl_778 : decode code 778 = .ok (.invokevirtual 66, 3) := by decide +kernel
theorem dl_781 : decode code 781 = .ok (.if_icmp .eq 662, 3) := by decide +kernel
theorem dl_786 : decode code 786 = .ok (.aload_n 1, 1) := by decide +kernel
theorem dl_787 : decode code 787 = .ok (.aload_n 0, 1) := by decide +kernel
theorem dl_788 : decode code 788 = .ok (.iload_n 3, 1) := by decide +kernel
theorem dl_789 : decode code 789 = .ok (.iconst 1, 1) := by decide +kernel
theorem dl_790 : decode code 790 = .ok (.iadd, 1) := by decide +kernel
theorem dl_791 : decode code 791 = .ok (.iaload, 1) := by decide +kernel
theorem dl_792 : decode code 792 = .ok (.aload_n 0, 1) := by decide +kernel
theorem dl_793 : decode code 793 = .ok (.iload_n 3, 1) := by decide +kernel
theorem dl_794 : decode code 794 = .ok (.iconst 2, 1) := by decide +kernel
theorem dl_795 : decode code 795 = .ok (.iadd, 1) := by decide +kernel
theorem dl_796 : decode code 796 = .ok (.iaload, 1) := by decide +kernel
theorem dl_797 : decode code 797 = .ok (.invokevirtual 67, 3) := by decide +kernel
theorem dl_800 : decode code 800 = .ok (.aload_n 2, 1) := by decide +kernel
theorem dl_801 : decode code 801 = .ok (.aload_n 0, 1) := by decide +kernel
theorem dl_802 : decode code 802 = .ok (.iload_n 3, 1) := by decide +kernel
theorem dl_803 : decode code 803 = .ok (.iconst 1, 1) := by decide +kernel
theorem dl_804 : decode code 804 = .ok (.iadd, 1) := by decide +kernel
theorem dl_805 : decode code 805 = .ok (.iaload, 1) := by decide +kernel
theorem dl_806 : decode code 806 = .ok (.aload_n 0, 1) := by decide +kernel
theorem dl_807 : decode code 807 = .ok (.iload_n 3, 1) := by decide +kernel
theorem dl_808 : decode code 808 = .ok (.iconst 2, 1) := by decide +kernel
theorem dl_809 : decode code 809 = .ok (.iadd, 1) := by decide +kernel
theorem dl_810 : decode code 810 = .ok (.iaload, 1) := by decide +kernel
theorem dl_811 : decode code 811 = .ok (.invokevirtual 71, 3) := by decide +kernel
theorem dl_814 : decode code 814 = .ok (.if_icmp .eq 629, 3) := by decide +kernel
theorem dl_819 : decode code 819 = .ok (.aload_n 1, 1) := by decide +kernel
theorem dl_820 : decode code 820 = .ok (.invokevirtual 72, 3) := by decide +kernel
theorem dl_823 : decode code 823 = .ok (.aload_n 2, 1) := by decide +kernel
theorem dl_824 : decode code 824 = .ok (.invokevirtual 76, 3) := by decide +kernel
theorem dl_827 : decode code 827 = .ok (.if_icmp .eq 616, 3) := by decide +kernel
theorem dl_832 : decode code 832 = .ok (.aload_n 1, 1) := by decide +kernel
theorem dl_833 : decode code 833 = .ok (.aload_n 0, 1) := by decide +kernel
theorem dl_834 : decode code 834 = .ok (.iload_n 3, 1) := by decide +kernel
theorem dl_835 : decode code 835 = .ok (.iconst 1, 1) := by decide +kernel
theorem dl_836 : decode code 836 = .ok (.iadd, 1) := by decide +kernel
theorem dl_837 : decode code 837 = .ok (.iaload, 1) := by decide +kernel
theorem dl_838 : decode code 838 = .ok (.invokevirtual 77, 3) := by decide +kernel
theorem dl_841 : decode code 841 = .ok (.aload_n 2, 1) := by decide +kernel
theorem dl_842 : decode code 842 = .ok (.aload_n 0, 1) := by decide +kernel
theorem dl_843 : decode code 843 = .ok (.iload_n 3, 1) := by decide +kernel
theorem dl_844 : decode code 844 = .ok (.iconst 1, 1) := by decide +kernel
theorem dl_845 : decode code 845 = .ok (.iadd, 1) := by decide +kernel
theorem dl_846 : decode code 846 = .ok (.iaload, 1) := by decide +kernel
theorem dl_847 : decode code 847 = .ok (.invokevirtual 81, 3) := by decide +kernel
theorem dl_850 : decode code 850 = .ok (.if_icmp .eq 593, 3) := by decide +kernel
theorem dl_855 : decode code 855 = .ok (.aload_n 1, 1) := by decide +kernel
theorem dl_856 : decode code 856 = .ok (.invokevirtual 82, 3) := by decide +kernel
theorem dl_859 : decode code 859 = .ok (.aload_n 2, 1) := by decide +kernel
theorem dl_860 : decode code 860 = .ok (.invokevirtual 85, 3) := by decide +kernel
theorem dl_863 : decode code 863 = .ok (.if_icmp .eq 580, 3) := by decide +kernel
theorem dl_868 : decode code 868 = .ok (.aload_n 1, 1) := by decide +kernel
theorem dl_869 : decode code 869 = .ok (.invokevirtual 86, 3) := by decide +kernel
theorem dl_872 : decode code 872 = .ok (.aload_n 2, 1) := by decide +kernel
theorem dl_873 : decode code 873 = .ok (.invokevirtual 89, 3) := by decide +kernel
theorem dl_876 : decode code 876 = .ok (.if_icmp .eq 567, 3) := by decide +kernel
theorem dl_881 : decode code 881 = .ok (.aload_n 1, 1) := by decide +kernel
theorem dl_882 : decode code 882 = .ok (.aload_n 0, 1) := by decide +kernel
theorem dl_883 : decode code 883 = .ok (.iload_n 3, 1) := by decide +kernel
theorem dl_884 : decode code 884 = .ok (.iconst 1, 1) := by decide +kernel
theorem dl_885 : decode code 885 = .ok (.iadd, 1) := by decide +kernel
theorem dl_886 : decode code 886 = .ok (.iaload, 1) := by decide +kernel
theorem dl_887 : decode code 887 = .ok (.invokevirtual 90, 3) := by decide +kernel
theorem dl_890 : decode code 890 = .ok (.aload_n 2, 1) := by decide +kernel
theorem dl_891 : decode code 891 = .ok (.aload_n 0, 1) := by decide +kernel
theorem dl_892 : decode code 892 = .ok (.iload_n 3, 1) := by decide +kernel
theorem dl_893 : decode code 893 = .ok (.iconst 1, 1) := by decide +kernel
theorem dl_894 : decode code 894 = .ok (.iadd, 1) := by decide +kernel
theorem dl_895 : decode code 895 = .ok (.iaload, 1) := by decide +kernel
theorem dl_896 : decode code 896 = .ok (.invokevirtual 94, 3) := by decide +kernel
theorem dl_899 : decode code 899 = .ok (.if_icmp .eq 544, 3) := by decide +kernel
theorem dl_904 : decode code 904 = .ok (.aload_n 1, 1) := by decide +kernel
theorem dl_905 : decode code 905 = .ok (.aload_n 0, 1) := by decide +kernel
theorem dl_906 : decode code 906 = .ok (.iload_n 3, 1) := by decide +kernel
theorem dl_907 : decode code 907 = .ok (.iconst 1, 1) := by decide +kernel
theorem dl_908 : decode code 908 = .ok (.iadd, 1) := by decide +kernel
theorem dl_909 : decode code 909 = .ok (.iaload, 1) := by decide +kernel
theorem dl_910 : decode code 910 = .ok (.aload_n 0, 1) := by decide +kernel
theorem dl_911 : decode code 911 = .ok (.iload_n 3, 1) := by decide +kernel
theorem dl_912 : decode code 912 = .ok (.iconst 2, 1) := by decide +kernel
theorem dl_913 : decode code 913 = .ok (.iadd, 1) := by decide +kernel
theorem dl_914 : decode code 914 = .ok (.iaload, 1) := by decide +kernel
theorem dl_915 : decode code 915 = .ok (.aload_n 0, 1) := by decide +kernel
theorem dl_916 : decode code 916 = .ok (.iload_n 3, 1) := by decide +kernel
theorem dl_917 : decode code 917 = .ok (.iconst 3, 1) := by decide +kernel
theorem dl_918 : decode code 918 = .ok (.iadd, 1) := by decide +kernel
theorem dl_919 : decode code 919 = .ok (.iaload, 1) := by decide +kernel
theorem dl_920 : decode code 920 = .ok (.aload_n 0, 1) := by decide +kernel
theorem dl_921 : decode code 921 = .ok (.iload_n 3, 1) := by decide +kernel
theorem dl_922 : decode code 922 = .ok (.iconst 4, 1) := by decide +kernel
theorem dl_923 : decode code 923 = .ok (.iadd, 1) := by decide +kernel
theorem dl_924 : decode code 924 = .ok (.iaload, 1) := by decide +kernel
theorem dl_925 : decode code 925 = .ok (.aload_n 0, 1) := by decide +kernel
theorem dl_926 : decode code 926 = .ok (.iload_n 3, 1) := by decide +kernel
theorem dl_927 : decode code 927 = .ok (.iconst 5, 1) := by decide +kernel
theorem dl_928 : decode code 928 = .ok (.iadd, 1) := by decide +kernel
theorem dl_929 : decode code 929 = .ok (.iaload, 1) := by decide +kernel
theorem dl_930 : decode code 930 = .ok (.invokevirtual 95, 3) := by decide +kernel
theorem dl_933 : decode code 933 = .ok (.aload_n 2, 1) := by decide +kernel
theorem dl_934 : decode code 934 = .ok (.aload_n 0, 1) := by decide +kernel
theorem dl_935 : decode code 935 = .ok (.iload_n 3, 1) := by decide +kernel
theorem dl_936 : decode code 936 = .ok (.iconst 1, 1) := by decide +kernel
theorem dl_937 : decode code 937 = .ok (.iadd, 1) := by decide +kernel
theorem dl_938 : decode code 938 = .ok (.iaload, 1) := by decide +kernel
theorem dl_939 : decode code 939 = .ok (.aload_n 0, 1) := by decide +kernel
theorem dl_940 : decode code 940 = .ok (.iload_n 3, 1) := by decide +kernel
theorem dl_941 : decode code 941 = .ok (.iconst 2, 1) := by decide +kernel
theorem dl_942 : decode code 942 = .ok (.iadd, 1) := by decide +kernel
theorem dl_943 : decode code 943 = .ok (.iaload, 1) := by decide +kernel
theorem dl_944 : decode code 944 = .ok (.aload_n 0, 1) := by decide +kernel
theorem dl_945 : decode code 945 = .ok (.iload_n 3, 1) := by decide +kernel
theorem dl_946 : decode code 946 = .ok (.iconst 3, 1) := by decide +kernel
theorem dl_947 : decode code 947 = .ok (.iadd, 1) := by decide +kernel
theorem dl_948 : decode code 948 = .ok (.iaload, 1) := by decide +kernel
theorem dl_949 : decode code 949 = .ok (.aload_n 0, 1) := by decide +kernel
theorem dl_950 : decode code 950 = .ok (.iload_n 3, 1) := by decide +kernel
theorem dl_951 : decode code 951 = .ok (.iconst 4, 1) := by decide +kernel
theorem dl_952 : decode code 952 = .ok (.iadd, 1) := by decide +kernel
theorem dl_953 : decode code 953 = .ok (.iaload, 1) := by decide +kernel
theorem dl_954 : decode code 954 = .ok (.aload_n 0, 1) := by decide +kernel
theorem dl_955 : decode code 955 = .ok (.iload_n 3, 1) := by decide +kernel
theorem dl_956 : decode code 956 = .ok (.iconst 5, 1) := by decide +kernel
theorem dl_957 : decode code 957 = .ok (.iadd, 1) := by decide +kernel
theorem dl_958 : decode code 958 = .ok (.iaload, 1) := by decide +kernel
theorem dl_959 : decode code 959 = .ok (.invokevirtual 98, 3) := by decide +kernel
theorem dl_962 : decode code 962 = .ok (.if_icmp .eq 481, 3) := by decide +kernel
theorem dl_967 : decode code 967 = .ok (.aload_n 1, 1) := by decide +kernel
theorem dl_968 : decode code 968 = .ok (.aload_n 0, 1) := by decide +kernel
theorem dl_969 : decode code 969 = .ok (.iload_n 3, 1) := by decide +kernel
theorem dl_970 : decode code 970 = .ok (.iconst 1, 1) := by decide +kernel
theorem dl_971 : decode code 971 = .ok (.iadd, 1) := by decide +kernel
theorem dl_972 : decode code 972 = .ok (.iaload, 1) := by decide +kernel
theorem dl_973 : decode code 973 = .ok (.aload_n 0, 1) := by decide +kernel
theorem dl_974 : decode code 974 = .ok (.iload_n 3, 1) := by decide +kernel
theorem dl_975 : decode code 975 = .ok (.iconst 2, 1) := by decide +kernel
theorem dl_976 : decode code 976 = .ok (.iadd, 1) := by decide +kernel
theorem dl_977 : decode code 977 = .ok (.iaload, 1) := by decide +kernel
theorem dl_978 : decode code 978 = .ok (.aload_n 0, 1) := by decide +kernel
theorem dl_979 : decode code 979 = .ok (.iload_n 3, 1) := by decide +kernel
theorem dl_980 : decode code 980 = .ok (.iconst 3, 1) := by decide +kernel
theorem dl_981 : decode code 981 = .ok (.iadd, 1) := by decide +kernel
theorem dl_982 : decode code 982 = .ok (.iaload, 1) := by decide +kernel
theorem dl_983 : decode code 983 = .ok (.ifCond .eq 7, 3) := by decide +kernel
theorem dl_986 : decode code 986 = .ok (.iconst 1, 1) := by decide +kernel
theorem dl_987 : decode code 987 = .ok (.goto 4, 3) := by decide +kernel
theorem dl_990 : decode code 990 = .ok (.iconst 0, 1) := by decide +kernel
theorem dl_991 : decode code 991 = .ok (.invokevirtual 99, 3) := by decide +kernel
theorem dl_994 : decode code 994 = .ok (.aload_n 2, 1) := by decide +kernel
theorem dl_995 : decode code 995 = .ok (.aload_n 0, 1) := by decide +kernel
theorem dl_996 : decode code 996 = .ok (.iload_n 3, 1) := by decide +kernel
theorem dl_997 : decode code 997 = .ok (.iconst 1, 1) := by decide +kernel
theorem dl_998 : decode code 998 = .ok (.iadd, 1) := by decide +kernel
theorem dl_999 : decode code 999 = .ok (.iaload, 1) := by decide +kernel
theorem dl_1000 : decode code 1000 = .ok (.aload_n 0, 1) := by decide +kernel
theorem dl_1001 : decode code 1001 = .ok (.iload_n 3, 1) := by decide +kernel
theorem dl_1002 : decode code 1002 = .ok (.iconst 2, 1) := by decide +kernel
theorem dl_1003 : decode code 1003 = .ok (.iadd, 1) := by decide +kernel
theorem dl_1004 : decode code 1004 = .ok (.iaload, 1) := by decide +kernel
theorem dl_1005 : decode code 1005 = .ok (.aload_n 0, 1) := by decide +kernel
theorem dl_1006 : decode code 1006 = .ok (.iload_n 3, 1) := by decide +kernel
theorem dl_1007 : decode code 1007 = .ok (.iconst 3, 1) := by decide +kernel
theorem dl_1008 : decode code 1008 = .ok (.iadd, 1) := by decide +kernel
theorem dl_1009 : decode code 1009 = .ok (.iaload, 1) := by decide +kernel
theorem dl_1010 : decode code 1010 = .ok (.ifCond .eq 7, 3) := by decide +kernel
theorem dl_1013 : decode code 1013 = .ok (.iconst 1, 1) := by decide +kernel
theorem dl_1014 : decode code 1014 = .ok (.goto 4, 3) := by decide +kernel
theorem dl_1017 : decode code 1017 = .ok (.iconst 0, 1) := by decide +kernel
theorem dl_1018 : decode code 1018 = .ok (.invokevirtual 103, 3) := by decide +kernel
theorem dl_1021 : decode code 1021 = .ok (.if_icmp .eq 422, 3) := by decide +kernel
theorem dl_1026 : decode code 1026 = .ok (.aload_n 1, 1) := by decide +kernel
theorem dl_1027 : decode code 1027 = .ok (.aload_n 0, 1) := by decide +kernel
theorem dl_1028 : decode code 1028 = .ok (.iload_n 3, 1) := by decide +kernel
theorem dl_1029 : decode code 1029 = .ok (.iconst 1, 1) := by decide +kernel
theorem dl_1030 : decode code 1030 = .ok (.iadd, 1) := by decide +kernel
theorem dl_1031 : decode code 1031 = .ok (.iaload, 1) := by decide +kernel
theorem dl_1032 : decode code 1032 = .ok (.aload_n 0, 1) := by decide +kernel
theorem dl_1033 : decode code 1033 = .ok (.iload_n 3, 1) := by decide +kernel
theorem dl_1034 : decode code 1034 = .ok (.iconst 2, 1) := by decide +kernel
theorem dl_1035 : decode code 1035 = .ok (.iadd, 1) := by decide +kernel
theorem dl_1036 : decode code 1036 = .ok (.iaload, 1) := by decide +kernel
theorem dl_1037 : decode code 1037 = .ok (.aload_n 0, 1) := by decide +kernel
theorem dl_1038 : decode code 1038 = .ok (.iload_n 3, 1) := by decide +kernel
theorem dl_1039 : decode code 1039 = .ok (.iconst 3, 1) := by decide +kernel
theorem dl_1040 : decode code 1040 = .ok (.iadd, 1) := by decide +kernel
theorem dl_1041 : decode code 1041 = .ok (.iaload, 1) := by decide +kernel
theorem dl_1042 : decode code 1042 = .ok (.invokevirtual 104, 3) := by decide +kernel
theorem dl_1045 : decode code 1045 = .ok (.aload_n 2, 1) := by decide +kernel
theorem dl_1046 : decode code 1046 = .ok (.aload_n 0, 1) := by decide +kernel
theorem dl_1047 : decode code 1047 = .ok (.iload_n 3, 1) := by decide +kernel
theorem dl_1048 : decode code 1048 = .ok (.iconst 1, 1) := by decide +kernel
theorem dl_1049 : decode code 1049 = .ok (.iadd, 1) := by decide +kernel
theorem dl_1050 : decode code 1050 = .ok (.iaload, 1) := by decide +kernel
theorem dl_1051 : decode code 1051 = .ok (.aload_n 0, 1) := by decide +kernel
theorem dl_1052 : decode code 1052 = .ok (.iload_n 3, 1) := by decide +kernel
theorem dl_1053 : decode code 1053 = .ok (.iconst 2, 1) := by decide +kernel
theorem dl_1054 : decode code 1054 = .ok (.iadd, 1) := by decide +kernel
theorem dl_1055 : decode code 1055 = .ok (.iaload, 1) := by decide +kernel
theorem dl_1056 : decode code 1056 = .ok (.aload_n 0, 1) := by decide +kernel
theorem dl_1057 : decode code 1057 = .ok (.iload_n 3, 1) := by decide +kernel
theorem dl_1058 : decode code 1058 = .ok (.iconst 3, 1) := by decide +kernel
theorem dl_1059 : decode code 1059 = .ok (.iadd, 1) := by decide +kernel
theorem dl_1060 : decode code 1060 = .ok (.iaload, 1) := by decide +kernel
theorem dl_1061 : decode code 1061 = .ok (.invokevirtual 107, 3) := by decide +kernel
theorem dl_1064 : decode code 1064 = .ok (.if_icmp .eq 379, 3) := by decide +kernel
theorem dl_1069 : decode code 1069 = .ok (.aload_n 1, 1) := by decide +kernel
theorem dl_1070 : decode code 1070 = .ok (.aload_n 0, 1) := by decide +kernel
theorem dl_1071 : decode code 1071 = .ok (.iload_n 3, 1) := by decide +kernel
theorem dl_1072 : decode code 1072 = .ok (.iconst 1, 1) := by decide +kernel
theorem dl_1073 : decode code 1073 = .ok (.iadd, 1) := by decide +kernel
theorem dl_1074 : decode code 1074 = .ok (.iaload, 1) := by decide +kernel
theorem dl_1075 : decode code 1075 = .ok (.aload_n 0, 1) := by decide +kernel
theorem dl_1076 : decode code 1076 = .ok (.iload_n 3, 1) := by decide +kernel
theorem dl_1077 : decode code 1077 = .ok (.iconst 2, 1) := by decide +kernel
theorem dl_1078 : decode code 1078 = .ok (.iadd, 1) := by decide +kernel
theorem dl_1079 : decode code 1079 = .ok (.iaload, 1) := by decide +kernel
theorem dl_1080 : decode code 1080 = .ok (.aload_n 0, 1) := by decide +kernel
theorem dl_1081 : decode code 1081 = .ok (.iload_n 3, 1) := by decide +kernel
theorem dl_1082 : decode code 1082 = .ok (.iconst 3, 1) := by decide +kernel
theorem dl_1083 : decode code 1083 = .ok (.iadd, 1) := by decide +kernel
theorem dl_1084 : decode code 1084 = .ok (.iaload, 1) := by decide +kernel
theorem dl_1085 : decode code 1085 = .ok (.aload_n 0, 1) := by decide +kernel
theorem dl_1086 : decode code 1086 = .ok (.iload_n 3, 1) := by decide +kernel
theorem dl_1087 : decode code 1087 = .ok (.iconst 4, 1) := by decide +kernel
theorem dl_1088 : decode code 1088 = .ok (.iadd, 1) := by decide +kernel
theorem dl_1089 : decode code 1089 = .ok (.iaload, 1) := by decide +kernel
theorem dl_1090 : decode code 1090 = .ok (.invokevirtual 108, 3) := by decide +kernel
theorem dl_1093 : decode code 1093 = .ok (.aload_n 2, 1) := by decide +kernel
theorem dl_1094 : decode code 1094 = .ok (.aload_n 0, 1) := by decide +kernel
theorem dl_1095 : decode code 1095 = .ok (.iload_n 3, 1) := by decide +kernel
theorem dl_1096 : decode code 1096 = .ok (.iconst 1, 1) := by decide +kernel
theorem dl_1097 : decode code 1097 = .ok (.iadd, 1) := by decide +kernel
theorem dl_1098 : decode code 1098 = .ok (.iaload, 1) := by decide +kernel
theorem dl_1099 : decode code 1099 = .ok (.aload_n 0, 1) := by decide +kernel
theorem dl_1100 : decode code 1100 = .ok (.iload_n 3, 1) := by decide +kernel
theorem dl_1101 : decode code 1101 = .ok (.iconst 2, 1) := by decide +kernel
theorem dl_1102 : decode code 1102 = .ok (.iadd, 1) := by decide +kernel
theorem dl_1103 : decode code 1103 = .ok (.iaload, 1) := by decide +kernel
theorem dl_1104 : decode code 1104 = .ok (.aload_n 0, 1) := by decide +kernel
theorem dl_1105 : decode code 1105 = .ok (.iload_n 3, 1) := by decide +kernel
theorem dl_1106 : decode code 1106 = .ok (.iconst 3, 1) := by decide +kernel
theorem dl_1107 : decode code 1107 = .ok (.iadd, 1) := by decide +kernel
theorem dl_1108 : decode code 1108 = .ok (.iaload, 1) := by decide +kernel
theorem dl_1109 : decode code 1109 = .ok (.aload_n 0, 1) := by decide +kernel
theorem dl_1110 : decode code 1110 = .ok (.iload_n 3, 1) := by decide +kernel
theorem dl_1111 : decode code 1111 = .ok (.iconst 4, 1) := by decide +kernel
theorem dl_1112 : decode code 1112 = .ok (.iadd, 1) := by decide +kernel
theorem dl_1113 : decode code 1113 = .ok (.iaload, 1) := by decide +kernel
theorem dl_1114 : decode code 1114 = .ok (.invokevirtual 112, 3) := by decide +kernel
theorem dl_1117 : decode code 1117 = .ok (.if_icmp .eq 326, 3) := by decide +kernel
theorem dl_1122 : decode code 1122 = .ok (.aload_n 1, 1) := by decide +kernel
theorem dl_1123 : decode code 1123 = .ok (.aload_n 0, 1) := by decide +kernel
theorem dl_1124 : decode code 1124 = .ok (.iload_n 3, 1) := by decide +kernel
theorem dl_1125 : decode code 1125 = .ok (.iconst 1, 1) := by decide +kernel
theorem dl_1126 : decode code 1126 = .ok (.iadd, 1) := by decide +kernel
theorem dl_1127 : decode code 1127 = .ok (.iaload, 1) := by decide +kernel
theorem dl_1128 : decode code 1128 = .ok (.aload_n 0, 1) := by decide +kernel
theorem dl_1129 : decode code 1129 = .ok (.iload_n 3, 1) := by decide +kernel
theorem dl_1130 : decode code 1130 = .ok (.iconst 2, 1) := by decide +kernel
theorem dl_1131 : decode code 1131 = .ok (.iadd, 1) := by decide +kernel
theorem dl_1132 : decode code 1132 = .ok (.iaload, 1) := by decide +kernel
theorem dl_1133 : decode code 1133 = .ok (.aload_n 0, 1) := by decide +kernel
theorem dl_1134 : decode code 1134 = .ok (.iload_n 3, 1) := by decide +kernel
theorem dl_1135 : decode code 1135 = .ok (.iconst 3, 1) := by decide +kernel
theorem dl_1136 : decode code 1136 = .ok (.iadd, 1) := by decide +kernel
theorem dl_1137 : decode code 1137 = .ok (.iaload, 1) := by decide +kernel
theorem dl_1138 : decode code 1138 = .ok (.invokevirtual 113, 3) := by decide +kernel
theorem dl_1141 : decode code 1141 = .ok (.aload_n 2, 1) := by decide +kernel
theorem dl_1142 : decode code 1142 = .ok (.aload_n 0, 1) := by decide +kernel
theorem dl_1143 : decode code 1143 = .ok (.iload_n 3, 1) := by decide +kernel
theorem dl_1144 : decode code 1144 = .ok (.iconst 1, 1) := by decide +kernel
theorem dl_1145 : decode code 1145 = .ok (.iadd, 1) := by decide +kernel
theorem dl_1146 : decode code 1146 = .ok (.iaload, 1) := by decide +kernel
theorem dl_1147 : decode code 1147 = .ok (.aload_n 0, 1) := by decide +kernel
theorem dl_1148 : decode code 1148 = .ok (.iload_n 3, 1) := by decide +kernel
theorem dl_1149 : decode code 1149 = .ok (.iconst 2, 1) := by decide +kernel
theorem dl_1150 : decode code 1150 = .ok (.iadd, 1) := by decide +kernel
theorem dl_1151 : decode code 1151 = .ok (.iaload, 1) := by decide +kernel
theorem dl_1152 : decode code 1152 = .ok (.aload_n 0, 1) := by decide +kernel
theorem dl_1153 : decode code 1153 = .ok (.iload_n 3, 1) := by decide +kernel
theorem dl_1154 : decode code 1154 = .ok (.iconst 3, 1) := by decide +kernel
theorem dl_1155 : decode code 1155 = .ok (.iadd, 1) := by decide +kernel
theorem dl_1156 : decode code 1156 = .ok (.iaload, 1) := by decide +kernel
theorem dl_1157 : decode code 1157 = .ok (.invokevirtual 116, 3) := by decide +kernel
theorem dl_1160 : decode code 1160 = .ok (.if_icmp .eq 283, 3) := by decide +kernel
theorem dl_1165 : decode code 1165 = .ok (.aload_n 1, 1) := by decide +kernel
theorem dl_1166 : decode code 1166 = .ok (.aload_n 0, 1) := by decide +kernel
theorem dl_1167 : decode code 1167 = .ok (.iload_n 3, 1) := by decide +kernel
theorem dl_1168 : decode code 1168 = .ok (.iconst 1, 1) := by decide +kernel
theorem dl_1169 : decode code 1169 = .ok (.iadd, 1) := by decide +kernel
theorem dl_1170 : decode code 1170 = .ok (.iaload, 1) := by decide +kernel
theorem dl_1171 : decode code 1171 = .ok (.aload_n 0, 1) := by decide +kernel
theorem dl_1172 : decode code 1172 = .ok (.iload_n 3, 1) := by decide +kernel
theorem dl_1173 : decode code 1173 = .ok (.iconst 2, 1) := by decide +kernel
theorem dl_1174 : decode code 1174 = .ok (.iadd, 1) := by decide +kernel
theorem dl_1175 : decode code 1175 = .ok (.iaload, 1) := by decide +kernel
theorem dl_1176 : decode code 1176 = .ok (.invokevirtual 117, 3) := by decide +kernel
theorem dl_1179 : decode code 1179 = .ok (.aload_n 2, 1) := by decide +kernel
theorem dl_1180 : decode code 1180 = .ok (.aload_n 0, 1) := by decide +kernel
theorem dl_1181 : decode code 1181 = .ok (.iload_n 3, 1) := by decide +kernel
theorem dl_1182 : decode code 1182 = .ok (.iconst 1, 1) := by decide +kernel
theorem dl_1183 : decode code 1183 = .ok (.iadd, 1) := by decide +kernel
theorem dl_1184 : decode code 1184 = .ok (.iaload, 1) := by decide +kernel
theorem dl_1185 : decode code 1185 = .ok (.aload_n 0, 1) := by decide +kernel
theorem dl_1186 : decode code 1186 = .ok (.iload_n 3, 1) := by decide +kernel
theorem dl_1187 : decode code 1187 = .ok (.iconst 2, 1) := by decide +kernel
theorem dl_1188 : decode code 1188 = .ok (.iadd, 1) := by decide +kernel
theorem dl_1189 : decode code 1189 = .ok (.iaload, 1) := by decide +kernel
theorem dl_1190 : decode code 1190 = .ok (.invokevirtual 120, 3) := by decide +kernel
theorem dl_1193 : decode code 1193 = .ok (.if_icmp .eq 250, 3) := by decide +kernel
theorem dl_1198 : decode code 1198 = .ok (.aload_n 1, 1) := by decide +kernel
theorem dl_1199 : decode code 1199 = .ok (.aload_n 0, 1) := by decide +kernel
theorem dl_1200 : decode code 1200 = .ok (.iload_n 3, 1) := by decide +kernel
theorem dl_1201 : decode code 1201 = .ok (.iconst 1, 1) := by decide +kernel
theorem dl_1202 : decode code 1202 = .ok (.iadd, 1) := by decide +kernel
theorem dl_1203 : decode code 1203 = .ok (.iaload, 1) := by decide +kernel
theorem dl_1204 : decode code 1204 = .ok (.aload_n 0, 1) := by decide +kernel
theorem dl_1205 : decode code 1205 = .ok (.iload_n 3, 1) := by decide +kernel
theorem dl_1206 : decode code 1206 = .ok (.iconst 2, 1) := by decide +kernel
theorem dl_1207 : decode code 1207 = .ok (.iadd, 1) := by decide +kernel
theorem dl_1208 : decode code 1208 = .ok (.iaload, 1) := by decide +kernel
theorem dl_1209 : decode code 1209 = .ok (.aload_n 0, 1) := by decide +kernel
theorem dl_1210 : decode code 1210 = .ok (.iload_n 3, 1) := by decide +kernel
theorem dl_1211 : decode code 1211 = .ok (.iconst 3, 1) := by decide +kernel
theorem dl_1212 : decode code 1212 = .ok (.iadd, 1) := by decide +kernel
theorem dl_1213 : decode code 1213 = .ok (.iaload, 1) := by decide +kernel
theorem dl_1214 : decode code 1214 = .ok (.invokevirtual 121, 3) := by decide +kernel
theorem dl_1217 : decode code 1217 = .ok (.aload_n 2, 1) := by decide +kernel
theorem dl_1218 : decode code 1218 = .ok (.aload_n 0, 1) := by decide +kernel
theorem dl_1219 : decode code 1219 = .ok (.iload_n 3, 1) := by decide +kernel
theorem dl_1220 : decode code 1220 = .ok (.iconst 1, 1) := by decide +kernel
theorem dl_1221 : decode code 1221 = .ok (.iadd, 1) := by decide +kernel
theorem dl_1222 : decode code 1222 = .ok (.iaload, 1) := by decide +kernel
theorem dl_1223 : decode code 1223 = .ok (.aload_n 0, 1) := by decide +kernel
theorem dl_1224 : decode code 1224 = .ok (.iload_n 3, 1) := by decide +kernel
theorem dl_1225 : decode code 1225 = .ok (.iconst 2, 1) := by decide +kernel
theorem dl_1226 : decode code 1226 = .ok (.iadd, 1) := by decide +kernel
theorem dl_1227 : decode code 1227 = .ok (.iaload, 1) := by decide +kernel
theorem dl_1228 : decode code 1228 = .ok (.aload_n 0, 1) := by decide +kernel
theorem dl_1229 : decode code 1229 = .ok (.iload_n 3, 1) := by decide +kernel
theorem dl_1230 : decode code 1230 = .ok (.iconst 3, 1) := by decide +kernel
theorem dl_1231 : decode code 1231 = .ok (.iadd, 1) := by decide +kernel
theorem dl_1232 : decode code 1232 = .ok (.iaload, 1) := by decide +kernel
theorem dl_1233 : decode code 1233 = .ok (.invokevirtual 124, 3) := by decide +kernel
theorem dl_1236 : decode code 1236 = .ok (.if_icmp .eq 207, 3) := by decide +kernel
theorem dl_1241 : decode code 1241 = .ok (.aload_n 1, 1) := by decide +kernel
theorem dl_1242 : decode code 1242 = .ok (.aload_n 0, 1) := by decide +kernel
theorem dl_1243 : decode code 1243 = .ok (.iload_n 3, 1) := by decide +kernel
theorem dl_1244 : decode code 1244 = .ok (.iconst 1, 1) := by decide +kernel
theorem dl_1245 : decode code 1245 = .ok (.iadd, 1) := by decide +kernel
theorem dl_1246 : decode code 1246 = .ok (.iaload, 1) := by decide +kernel
theorem dl_1247 : decode code 1247 = .ok (.aload_n 0, 1) := by decide +kernel
theorem dl_1248 : decode code 1248 = .ok (.iload_n 3, 1) := by decide +kernel
theorem dl_1249 : decode code 1249 = .ok (.iconst 2, 1) := by decide +kernel
theorem dl_1250 : decode code 1250 = .ok (.iadd, 1) := by decide +kernel
theorem dl_1251 : decode code 1251 = .ok (.iaload, 1) := by decide +kernel
theorem dl_1252 : decode code 1252 = .ok (.aload_n 0, 1) := by decide +kernel
theorem dl_1253 : decode code 1253 = .ok (.iload_n 3, 1) := by decide +kernel
theorem dl_1254 : decode code 1254 = .ok (.iconst 3, 1) := by decide +kernel
theorem dl_1255 : decode code 1255 = .ok (.iadd, 1) := by decide +kernel
theorem dl_1256 : decode code 1256 = .ok (.iaload, 1) := by decide +kernel
theorem dl_1257 : decode code 1257 = .ok (.invokevirtual 125, 3) := by decide +kernel
theorem dl_1260 : decode code 1260 = .ok (.aload_n 2, 1) := by decide +kernel
theorem dl_1261 : decode code 1261 = .ok (.aload_n 0, 1) := by decide +kernel
theorem dl_1262 : decode code 1262 = .ok (.iload_n 3, 1) := by decide +kernel
theorem dl_1263 : decode code 1263 = .ok (.iconst 1, 1) := by decide +kernel
theorem dl_1264 : decode code 1264 = .ok (.iadd, 1) := by decide +kernel
theorem dl_1265 : decode code 1265 = .ok (.iaload, 1) := by decide +kernel
theorem dl_1266 : decode code 1266 = .ok (.aload_n 0, 1) := by decide +kernel
theorem dl_1267 : decode code 1267 = .ok (.iload_n 3, 1) := by decide +kernel
theorem dl_1268 : decode code 1268 = .ok (.iconst 2, 1) := by decide +kernel
theorem dl_1269 : decode code 1269 = .ok (.iadd, 1) := by decide +kernel
theorem dl_1270 : decode code 1270 = .ok (.iaload, 1) := by decide +kernel
theorem dl_1271 : decode code 1271 = .ok (.aload_n 0, 1) := by decide +kernel
theorem dl_1272 : decode code 1272 = .ok (.iload_n 3, 1) := by decide +kernel
theorem dl_1273 : decode code 1273 = .ok (.iconst 3, 1) := by decide +kernel
theorem dl_1274 : decode code 1274 = .ok (.iadd, 1) := by decide +kernel
theorem dl_1275 : decode code 1275 = .ok (.iaload, 1) := by decide +kernel
theorem dl_1276 : decode code 1276 = .ok (.invokevirtual 128, 3) := by decide +kernel
theorem dl_1279 : decode code 1279 = .ok (.if_icmp .eq 164, 3) := by decide +kernel
theorem dl_1284 : decode code 1284 = .ok (.aload_n 1, 1) := by decide +kernel
theorem dl_1285 : decode code 1285 = .ok (.aload_n 0, 1) := by decide +kernel
theorem dl_1286 : decode code 1286 = .ok (.iload_n 3, 1) := by decide +kernel
theorem dl_1287 : decode code 1287 = .ok (.iconst 1, 1) := by decide +kernel
theorem dl_1288 : decode code 1288 = .ok (.iadd, 1) := by decide +kernel
theorem dl_1289 : decode code 1289 = .ok (.iaload, 1) := by decide +kernel
theorem dl_1290 : decode code 1290 = .ok (.aload_n 0, 1) := by decide +kernel
theorem dl_1291 : decode code 1291 = .ok (.iload_n 3, 1) := by decide +kernel
theorem dl_1292 : decode code 1292 = .ok (.iconst 2, 1) := by decide +kernel
theorem dl_1293 : decode code 1293 = .ok (.iadd, 1) := by decide +kernel
theorem dl_1294 : decode code 1294 = .ok (.iaload, 1) := by decide +kernel
theorem dl_1295 : decode code 1295 = .ok (.invokevirtual 129, 3) := by decide +kernel
theorem dl_1298 : decode code 1298 = .ok (.aload_n 2, 1) := by decide +kernel
theorem dl_1299 : decode code 1299 = .ok (.aload_n 0, 1) := by decide +kernel
theorem dl_1300 : decode code 1300 = .ok (.iload_n 3, 1) := by decide +kernel
theorem dl_1301 : decode code 1301 = .ok (.iconst 1, 1) := by decide +kernel
theorem dl_1302 : decode code 1302 = .ok (.iadd, 1) := by decide +kernel
theorem dl_1303 : decode code 1303 = .ok (.iaload, 1) := by decide +kernel
theorem dl_1304 : decode code 1304 = .ok (.aload_n 0, 1) := by decide +kernel
theorem dl_1305 : decode code 1305 = .ok (.iload_n 3, 1) := by decide +kernel
theorem dl_1306 : decode code 1306 = .ok (.iconst 2, 1) := by decide +kernel
theorem dl_1307 : decode code 1307 = .ok (.iadd, 1) := by decide +kernel
theorem dl_1308 : decode code 1308 = .ok (.iaload, 1) := by decide +kernel
theorem dl_1309 : decode code 1309 = .ok (.invokevirtual 132, 3) := by decide +kernel
theorem dl_1312 : decode code 1312 = .ok (.if_icmp .eq 131, 3) := by decide +kernel
theorem dl_1317 : decode code 1317 = .ok (.aload_n 1, 1) := by decide +kernel
theorem dl_1318 : decode code 1318 = .ok (.invokevirtual 133, 3) := by decide +kernel
theorem dl_1321 : decode code 1321 = .ok (.aload_n 2, 1) := by decide +kernel
theorem dl_1322 : decode code 1322 = .ok (.invokevirtual 136, 3) := by decide +kernel
theorem dl_1325 : decode code 1325 = .ok (.if_icmp .eq 118, 3) := by decide +kernel
theorem dl_1330 : decode code 1330 = .ok (.aload_n 1, 1) := by decide +kernel
theorem dl_1331 : decode code 1331 = .ok (.aload_n 0, 1) := by decide +kernel
theorem dl_1332 : decode code 1332 = .ok (.iload_n 3, 1) := by decide +kernel
theorem dl_1333 : decode code 1333 = .ok (.iconst 1, 1) := by decide +kernel
theorem dl_1334 : decode code 1334 = .ok (.iadd, 1) := by decide +kernel
theorem dl_1335 : decode code 1335 = .ok (.iaload, 1) := by decide +kernel
theorem dl_1336 : decode code 1336 = .ok (.invokevirtual 137, 3) := by decide +kernel
theorem dl_1339 : decode code 1339 = .ok (.aload_n 2, 1) := by decide +kernel
theorem dl_1340 : decode code 1340 = .ok (.aload_n 0, 1) := by decide +kernel
theorem dl_1341 : decode code 1341 = .ok (.iload_n 3, 1) := by decide +kernel
theorem dl_1342 : decode code 1342 = .ok (.iconst 1, 1) := by decide +kernel
theorem dl_1343 : decode code 1343 = .ok (.iadd, 1) := by decide +kernel
theorem dl_1344 : decode code 1344 = .ok (.iaload, 1) := by decide +kernel
theorem dl_1345 : decode code 1345 = .ok (.invokevirtual 141, 3) := by decide +kernel
theorem dl_1348 : decode code 1348 = .ok (.lcmp, 1) := by decide +kernel
theorem dl_1349 : decode code 1349 = .ok (.ifCond .eq 94, 3) := by decide +kernel
theorem dl_1354 : decode code 1354 = .ok (.aload_n 1, 1) := by decide +kernel
theorem dl_1355 : decode code 1355 = .ok (.aload_n 0, 1) := by decide +kernel
theorem dl_1356 : decode code 1356 = .ok (.iload_n 3, 1) := by decide +kernel
theorem dl_1357 : decode code 1357 = .ok (.iconst 1, 1) := by decide +kernel
theorem dl_1358 : decode code 1358 = .ok (.iadd, 1) := by decide +kernel
theorem dl_1359 : decode code 1359 = .ok (.iaload, 1) := by decide +kernel
theorem dl_1360 : decode code 1360 = .ok (.aload_n 0, 1) := by decide +kernel
theorem dl_1361 : decode code 1361 = .ok (.iload_n 3, 1) := by decide +kernel
theorem dl_1362 : decode code 1362 = .ok (.iconst 2, 1) := by decide +kernel
theorem dl_1363 : decode code 1363 = .ok (.iadd, 1) := by decide +kernel
theorem dl_1364 : decode code 1364 = .ok (.iaload, 1) := by decide +kernel
theorem dl_1365 : decode code 1365 = .ok (.invokevirtual 142, 3) := by decide +kernel
theorem dl_1368 : decode code 1368 = .ok (.aload_n 2, 1) := by decide +kernel
theorem dl_1369 : decode code 1369 = .ok (.aload_n 0, 1) := by decide +kernel
theorem dl_1370 : decode code 1370 = .ok (.iload_n 3, 1) := by decide +kernel
theorem dl_1371 : decode code 1371 = .ok (.iconst 1, 1) := by decide +kernel
theorem dl_1372 : decode code 1372 = .ok (.iadd, 1) := by decide +kernel
theorem dl_1373 : decode code 1373 = .ok (.iaload, 1) := by decide +kernel
theorem dl_1374 : decode code 1374 = .ok (.aload_n 0, 1) := by decide +kernel
theorem dl_1375 : decode code 1375 = .ok (.iload_n 3, 1) := by decide +kernel
theorem dl_1376 : decode code 1376 = .ok (.iconst 2, 1) := by decide +kernel
theorem dl_1377 : decode code 1377 = .ok (.iadd, 1) := by decide +kernel
theorem dl_1378 : decode code 1378 = .ok (.iaload, 1) := by decide +kernel
theorem dl_1379 : decode code 1379 = .ok (.invokevirtual 145, 3) := by decide +kernel
theorem dl_1382 : decode code 1382 = .ok (.if_icmp .eq 61, 3) := by decide +kernel
theorem dl_1387 : decode code 1387 = .ok (.aload_n 1, 1) := by decide +kernel
theorem dl_1388 : decode code 1388 = .ok (.aload_n 0, 1) := by decide +kernel
theorem dl_1389 : decode code 1389 = .ok (.iload_n 3, 1) := by decide +kernel
theorem dl_1390 : decode code 1390 = .ok (.iconst 1, 1) := by decide +kernel
theorem dl_1391 : decode code 1391 = .ok (.iadd, 1) := by decide +kernel
theorem dl_1392 : decode code 1392 = .ok (.iaload, 1) := by decide +kernel
theorem dl_1393 : decode code 1393 = .ok (.aload_n 0, 1) := by decide +kernel
theorem dl_1394 : decode code 1394 = .ok (.iload_n 3, 1) := by decide +kernel
theorem dl_1395 : decode code 1395 = .ok (.iconst 2, 1) := by decide +kernel
theorem dl_1396 : decode code 1396 = .ok (.iadd, 1) := by decide +kernel
theorem dl_1397 : decode code 1397 = .ok (.iaload, 1) := by decide +kernel
theorem dl_1398 : decode code 1398 = .ok (.invokevirtual 146, 3) := by decide +kernel
theorem dl_1401 : decode code 1401 = .ok (.aload_n 2, 1) := by decide +kernel
theorem dl_1402 : decode code 1402 = .ok (.aload_n 0, 1) := by decide +kernel
theorem dl_1403 : decode code 1403 = .ok (.iload_n 3, 1) := by decide +kernel
theorem dl_1404 : decode code 1404 = .ok (.iconst 1, 1) := by decide +kernel
theorem dl_1405 : decode code 1405 = .ok (.iadd, 1) := by decide +kernel
theorem dl_1406 : decode code 1406 = .ok (.iaload, 1) := by decide +kernel
theorem dl_1407 : decode code 1407 = .ok (.aload_n 0, 1) := by decide +kernel
theorem dl_1408 : decode code 1408 = .ok (.iload_n 3, 1) := by decide +kernel
theorem dl_1409 : decode code 1409 = .ok (.iconst 2, 1) := by decide +kernel
theorem dl_1410 : decode code 1410 = .ok (.iadd, 1) := by decide +kernel
theorem dl_1411 : decode code 1411 = .ok (.iaload, 1) := by decide +kernel
theorem dl_1412 : decode code 1412 = .ok (.invokevirtual 149, 3) := by decide +kernel
theorem dl_1415 : decode code 1415 = .ok (.if_icmp .eq 28, 3) := by decide +kernel
theorem dl_1420 : decode code 1420 = .ok (.aload_n 1, 1) := by decide +kernel
theorem dl_1421 : decode code 1421 = .ok (.aload_n 0, 1) := by decide +kernel
theorem dl_1422 : decode code 1422 = .ok (.iload_n 3, 1) := by decide +kernel
theorem dl_1423 : decode code 1423 = .ok (.iconst 1, 1) := by decide +kernel
theorem dl_1424 : decode code 1424 = .ok (.iadd, 1) := by decide +kernel
theorem dl_1425 : decode code 1425 = .ok (.iaload, 1) := by decide +kernel
theorem dl_1426 : decode code 1426 = .ok (.invokevirtual 150, 3) := by decide +kernel
theorem dl_1429 : decode code 1429 = .ok (.aload_n 2, 1) := by decide +kernel
theorem dl_1430 : decode code 1430 = .ok (.aload_n 0, 1) := by decide +kernel
theorem dl_1431 : decode code 1431 = .ok (.iload_n 3, 1) := by decide +kernel
theorem dl_1432 : decode code 1432 = .ok (.iconst 1, 1) := by decide +kernel
theorem dl_1433 : decode code 1433 = .ok (.iadd, 1) := by decide +kernel
theorem dl_1434 : decode code 1434 = .ok (.iaload, 1) := by decide +kernel
theorem dl_1435 : decode code 1435 = .ok (.invokevirtual 153, 3) := by decide +kernel
theorem dl_1438 : decode code 1438 = .ok (.if_icmp .eq 5, 3) := by decide +kernel
theorem dl_1443 : decode code 1443 = .ok (.iinc 3 8, 3) := by decide +kernel
theorem dl_1446 : decode code 1446 = .ok (.goto (-1428), 3) := by decide +kernel
theorem dl_1449 : decode code 1449 = .ok (.iconst 1, 1) := by decide +kernel
theorem dl_1450 : decode code 1450 = .ok (.ireturn, 1) := by decide +kernel
theorem lv_103 : mm_iv 27 (.invokevirtual 103) = some (1, 249) := by decide +kernel
theorem lv_104 : mm_iv 27 (.invokevirtual 104) = some (1, 148) := by decide +kernel
theorem lv_107 : mm_iv 27 (.invokevirtual 107) = some (1, 251) := by decide +kernel
theorem lv_108 : mm_iv 27 (.invokevirtual 108) = some (1, 156) := by decide +kernel
theorem lv_112 : mm_iv 27 (.invokevirtual 112) = some (1, 255) := by decide +kernel
theorem lv_113 : mm_iv 27 (.invokevirtual 113) = some (1, 158) := by decide +kernel
theorem lv_116 : mm_iv 27 (.invokevirtual 116) = some (1, 257) := by decide +kernel
theorem lv_117 : mm_iv 27 (.invokevirtual 117) = some (1, 160) := by decide +kernel
theorem lv_12 : mm_iv 27 (.invokespecial 12) = some (2, 185) := by decide +kernel
theorem lv_120 : mm_iv 27 (.invokevirtual 120) = some (1, 259) := by decide +kernel
theorem lv_121 : mm_iv 27 (.invokevirtual 121) = some (1, 162) := by decide +kernel
theorem lv_124 : mm_iv 27 (.invokevirtual 124) = some (1, 260) := by decide +kernel
theorem lv_125 : mm_iv 27 (.invokevirtual 125) = some (1, 166) := by decide +kernel
theorem lv_128 : mm_iv 27 (.invokevirtual 128) = some (1, 263) := by decide +kernel
theorem lv_129 : mm_iv 27 (.invokevirtual 129) = some (1, 170) := by decide +kernel
theorem lv_13 : mm_iv 27 (.invokevirtual 13) = some (1, 12) := by decide +kernel
theorem lv_132 : mm_iv 27 (.invokevirtual 132) = some (1, 264) := by decide +kernel
theorem lv_133 : mm_iv 27 (.invokevirtual 133) = some (1, 171) := by decide +kernel
theorem lv_136 : mm_iv 27 (.invokevirtual 136) = some (1, 265) := by decide +kernel
theorem lv_137 : mm_iv 27 (.invokevirtual 137) = some (1, 174) := by decide +kernel
theorem lv_141 : mm_iv 27 (.invokevirtual 141) = some (1, 266) := by decide +kernel
theorem lv_142 : mm_iv 27 (.invokevirtual 142) = some (1, 175) := by decide +kernel
theorem lv_145 : mm_iv 27 (.invokevirtual 145) = some (1, 267) := by decide +kernel
theorem lv_146 : mm_iv 27 (.invokevirtual 146) = some (1, 178) := by decide +kernel
theorem lv_149 : mm_iv 27 (.invokevirtual 149) = some (1, 269) := by decide +kernel
theorem lv_150 : mm_iv 27 (.invokevirtual 150) = some (1, 181) := by decide +kernel
theorem lv_153 : mm_iv 27 (.invokevirtual 153) = some (1, 271) := by decide +kernel
theorem lv_17 : mm_iv 27 (.invokevirtual 17) = some (1, 186) := by decide +kernel
theorem lv_18 : mm_iv 27 (.invokevirtual 18) = some (1, 14) := by decide +kernel
theorem lv_21 : mm_iv 27 (.invokevirtual 21) = some (1, 188) := by decide +kernel
theorem lv_22 : mm_iv 27 (.invokevirtual 22) = some (1, 17) := by decide +kernel
theorem lv_26 : mm_iv 27 (.invokevirtual 26) = some (1, 189) := by decide +kernel
theorem lv_27 : mm_iv 27 (.invokevirtual 27) = some (1, 24) := by decide +kernel
theorem lv_31 : mm_iv 27 (.invokevirtual 31) = some (1, 194) := by decide +kernel
theorem lv_32 : mm_iv 27 (.invokevirtual 32) = some (1, 38) := by decide +kernel
theorem lv_36 : mm_iv 27 (.invokevirtual 36) = some (1, 195) := by decide +kernel
theorem lv_37 : mm_iv 27 (.invokevirtual 37) = some (1, 44) := by decide +kernel
theorem lv_41 : mm_iv 27 (.invokevirtual 41) = some (1, 197) := by decide +kernel
theorem lv_42 : mm_iv 27 (.invokevirtual 42) = some (1, 47) := by decide +kernel
theorem lv_46 : mm_iv 27 (.invokevirtual 46) = some (1, 199) := by decide +kernel
theorem lv_47 : mm_iv 27 (.invokevirtual 47) = some (1, 84) := by decide +kernel
theorem lv_50 : mm_iv 27 (.invokevirtual 50) = some (1, 211) := by decide +kernel
theorem lv_51 : mm_iv 27 (.invokevirtual 51) = some (1, 90) := by decide +kernel
theorem lv_54 : mm_iv 27 (.invokevirtual 54) = some (1, 214) := by decide +kernel
theorem lv_55 : mm_iv 27 (.invokevirtual 55) = some (1, 99) := by decide +kernel
theorem lv_58 : mm_iv 27 (.invokevirtual 58) = some (1, 220) := by decide +kernel
theorem lv_59 : mm_iv 27 (.invokevirtual 59) = some (1, 101) := by decide +kernel
theorem lv_62 : mm_iv 27 (.invokevirtual 62) = some (1, 221) := by decide +kernel
theorem lv_63 : mm_iv 27 (.invokevirtual 63) = some (1, 103) := by decide +kernel
theorem lv_66 : mm_iv 27 (.invokevirtual 66) = some (1, 223) := by decide +kernel
theorem lv_67 : mm_iv 27 (.invokevirtual 67) = some (1, 106) := by decide +kernel
theorem lv_71 : mm_iv 27 (.invokevirtual 71) = some (1, 225) := by decide +kernel
theorem lv_72 : mm_iv 27 (.invokevirtual 72) = some (1, 110) := by decide +kernel
theorem lv_76 : mm_iv 27 (.invokevirtual 76) = some (1, 235) := by decide +kernel
theorem lv_77 : mm_iv 27 (.invokevirtual 77) = some (1, 140) := by decide +kernel
theorem lv_81 : mm_iv 27 (.invokevirtual 81) = some (1, 247) := by decide +kernel
theorem lv_82 : mm_iv 27 (.invokevirtual 82) = some (1, 141) := by decide +kernel
theorem lv_85 : mm_iv 27 (.invokevirtual 85) = some (1, 246) := by decide +kernel
theorem lv_86 : mm_iv 27 (.invokevirtual 86) = some (1, 142) := by decide +kernel
theorem lv_89 : mm_iv 27 (.invokevirtual 89) = some (1, 229) := by decide +kernel
theorem lv_9 : mm_iv 27 (.invokespecial 9) = some (2, 0) := by decide +kernel
theorem lv_90 : mm_iv 27 (.invokevirtual 90) = some (1, 143) := by decide +kernel
theorem lv_94 : mm_iv 27 (.invokevirtual 94) = some (1, 234) := by decide +kernel
theorem lv_95 : mm_iv 27 (.invokevirtual 95) = some (1, 145) := by decide +kernel
theorem lv_98 : mm_iv 27 (.invokevirtual 98) = some (1, 248) := by decide +kernel
theorem lv_99 : mm_iv 27 (.invokevirtual 99) = some (1, 147) := by decide +kernel
theorem ln_0 : mm_nas 2 0 = 1 := by decide +kernel
theorem ln_101 : mm_nas 1 101 = 4 := by decide +kernel
theorem ln_103 : mm_nas 1 103 = 3 := by decide +kernel
theorem ln_106 : mm_nas 1 106 = 3 := by decide +kernel
theorem ln_110 : mm_nas 1 110 = 1 := by decide +kernel
theorem ln_12 : mm_nas 1 12 = 4 := by decide +kernel
theorem ln_14 : mm_nas 1 14 = 4 := by decide +kernel
theorem ln_140 : mm_nas 1 140 = 2 := by decide +kernel
theorem ln_141 : mm_nas 1 141 = 1 := by decide +kernel
theorem ln_142 : mm_nas 1 142 = 1 := by decide +kernel
theorem ln_143 : mm_nas 1 143 = 2 := by decide +kernel
theorem ln_145 : mm_nas 1 145 = 6 := by decide +kernel
theorem ln_147 : mm_nas 1 147 = 4 := by decide +kernel
theorem ln_148 : mm_nas 1 148 = 4 := by decide +kernel
theorem ln_156 : mm_nas 1 156 = 5 := by decide +kernel
theorem ln_158 : mm_nas 1 158 = 4 := by decide +kernel
theorem ln_160 : mm_nas 1 160 = 3 := by decide +kernel
theorem ln_162 : mm_nas 1 162 = 4 := by decide +kernel
theorem ln_166 : mm_nas 1 166 = 4 := by decide +kernel
theorem ln_17 : mm_nas 1 17 = 5 := by decide +kernel
theorem ln_170 : mm_nas 1 170 = 3 := by decide +kernel
theorem ln_171 : mm_nas 1 171 = 1 := by decide +kernel
theorem ln_174 : mm_nas 1 174 = 2 := by decide +kernel
theorem ln_175 : mm_nas 1 175 = 3 := by decide +kernel
theorem ln_178 : mm_nas 1 178 = 3 := by decide +kernel
theorem ln_181 : mm_nas 1 181 = 2 := by decide +kernel
theorem ln_185 : mm_nas 2 185 = 1 := by decide +kernel
theorem ln_186 : mm_nas 1 186 = 4 := by decide +kernel
theorem ln_188 : mm_nas 1 188 = 4 := by decide +kernel
theorem ln_189 : mm_nas 1 189 = 5 := by decide +kernel
theorem ln_194 : mm_nas 1 194 = 8 := by decide +kernel
theorem ln_195 : mm_nas 1 195 = 3 := by decide +kernel
theorem ln_197 : mm_nas 1 197 = 6 := by decide +kernel
theorem ln_199 : mm_nas 1 199 = 4 := by decide +kernel
theorem ln_211 : mm_nas 1 211 = 6 := by decide +kernel
theorem ln_214 : mm_nas 1 214 = 4 := by decide +kernel
theorem ln_220 : mm_nas 1 220 = 6 := by decide +kernel
theorem ln_221 : mm_nas 1 221 = 4 := by decide +kernel
theorem ln_223 : mm_nas 1 223 = 3 := by decide +kernel
theorem ln_225 : mm_nas 1 225 = 3 := by decide +kernel
theorem ln_229 : mm_nas 1 229 = 1 := by decide +kernel
theorem ln_234 : mm_nas 1 234 = 2 := by decide +kernel
theorem ln_235 : mm_nas 1 235 = 1 := by decide +kernel
theorem ln_24 : mm_nas 1 24 = 8 := by decide +kernel
theorem ln_246 : mm_nas 1 246 = 1 := by decide +kernel
theorem ln_247 : mm_nas 1 247 = 2 := by decide +kernel
theorem ln_248 : mm_nas 1 248 = 6 := by decide +kernel
theorem ln_249 : mm_nas 1 249 = 4 := by decide +kernel
theorem ln_251 : mm_nas 1 251 = 4 := by decide +kernel
theorem ln_255 : mm_nas 1 255 = 5 := by decide +kernel
theorem ln_257 : mm_nas 1 257 = 4 := by decide +kernel
theorem ln_259 : mm_nas 1 259 = 3 := by decide +kernel
theorem ln_260 : mm_nas 1 260 = 4 := by decide +kernel
theorem ln_263 : mm_nas 1 263 = 4 := by decide +kernel
theorem ln_264 : mm_nas 1 264 = 3 := by decide +kernel
theorem ln_265 : mm_nas 1 265 = 1 := by decide +kernel
theorem ln_266 : mm_nas 1 266 = 2 := by decide +kernel
theorem ln_267 : mm_nas 1 267 = 3 := by decide +kernel
theorem ln_269 : mm_nas 1 269 = 3 := by decide +kernel
theorem ln_271 : mm_nas 1 271 = 2 := by decide +kernel
theorem ln_38 : mm_nas 1 38 = 3 := by decide +kernel
theorem ln_44 : mm_nas 1 44 = 6 := by decide +kernel
theorem ln_47 : mm_nas 1 47 = 4 := by decide +kernel
theorem ln_84 : mm_nas 1 84 = 6 := by decide +kernel
theorem ln_90 : mm_nas 1 90 = 4 := by decide +kernel
theorem ln_99 : mm_nas 1 99 = 6 := by decide +kernel
theorem oo_101 : mm_o 101 = 0 := by decide +kernel
theorem oo_103 : mm_o 103 = 0 := by decide +kernel
theorem oo_106 : mm_o 106 = 0 := by decide +kernel
theorem oo_110 : mm_o 110 = 0 := by decide +kernel
theorem oo_12 : mm_o 12 = 0 := by decide +kernel
theorem oo_14 : mm_o 14 = 0 := by decide +kernel
theorem oo_140 : mm_o 140 = 0 := by decide +kernel
theorem oo_141 : mm_o 141 = 0 := by decide +kernel
theorem oo_142 : mm_o 142 = 0 := by decide +kernel
theorem oo_143 : mm_o 143 = 0 := by decide +kernel
theorem oo_145 : mm_o 145 = 0 := by decide +kernel
theorem oo_147 : mm_o 147 = 0 := by decide +kernel
theorem oo_148 : mm_o 148 = 0 := by decide +kernel
theorem oo_156 : mm_o 156 = 0 := by decide +kernel
theorem oo_158 : mm_o 158 = 0 := by decide +kernel
theorem oo_160 : mm_o 160 = 0 := by decide +kernel
theorem oo_162 : mm_o 162 = 0 := by decide +kernel
theorem oo_166 : mm_o 166 = 0 := by decide +kernel
theorem oo_17 : mm_o 17 = 0 := by decide +kernel
theorem oo_170 : mm_o 170 = 0 := by decide +kernel
theorem oo_171 : mm_o 171 = 0 := by decide +kernel
theorem oo_174 : mm_o 174 = 0 := by decide +kernel
theorem oo_175 : mm_o 175 = 0 := by decide +kernel
theorem oo_178 : mm_o 178 = 0 := by decide +kernel
theorem oo_181 : mm_o 181 = 0 := by decide +kernel
theorem oo_186 : mm_o 186 = 13 := by decide +kernel
theorem oo_188 : mm_o 188 = 13 := by decide +kernel
theorem oo_189 : mm_o 189 = 13 := by decide +kernel
theorem oo_194 : mm_o 194 = 13 := by decide +kernel
theorem oo_195 : mm_o 195 = 13 := by decide +kernel
theorem oo_197 : mm_o 197 = 13 := by decide +kernel
theorem oo_199 : mm_o 199 = 13 := by decide +kernel
theorem oo_211 : mm_o 211 = 13 := by decide +kernel
theorem oo_214 : mm_o 214 = 13 := by decide +kernel
theorem oo_220 : mm_o 220 = 13 := by decide +kernel
theorem oo_221 : mm_o 221 = 13 := by decide +kernel
theorem oo_223 : mm_o 223 = 13 := by decide +kernel
theorem oo_225 : mm_o 225 = 13 := by decide +kernel
theorem oo_229 : mm_o 229 = 13 := by decide +kernel
theorem oo_234 : mm_o 234 = 13 := by decide +kernel
theorem oo_235 : mm_o 235 = 13 := by decide +kernel
theorem oo_24 : mm_o 24 = 0 := by decide +kernel
theorem oo_246 : mm_o 246 = 13 := by decide +kernel
theorem oo_247 : mm_o 247 = 13 := by decide +kernel
theorem oo_248 : mm_o 248 = 13 := by decide +kernel
theorem oo_249 : mm_o 249 = 13 := by decide +kernel
theorem oo_251 : mm_o 251 = 13 := by decide +kernel
theorem oo_255 : mm_o 255 = 13 := by decide +kernel
theorem oo_257 : mm_o 257 = 13 := by decide +kernel
theorem oo_259 : mm_o 259 = 13 := by decide +kernel
theorem oo_260 : mm_o 260 = 13 := by decide +kernel
theorem oo_263 : mm_o 263 = 13 := by decide +kernel
theorem oo_264 : mm_o 264 = 13 := by decide +kernel
theorem oo_265 : mm_o 265 = 13 := by decide +kernel
theorem oo_266 : mm_o 266 = 13 := by decide +kernel
theorem oo_267 : mm_o 267 = 13 := by decide +kernel
theorem oo_269 : mm_o 269 = 13 := by decide +kernel
theorem oo_271 : mm_o 271 = 13 := by decide +kernel
theorem oo_38 : mm_o 38 = 0 := by decide +kernel
theorem oo_44 : mm_o 44 = 0 := by decide +kernel
theorem oo_47 : mm_o 47 = 0 := by decide +kernel
theorem oo_84 : mm_o 84 = 0 := by decide +kernel
theorem oo_90 : mm_o 90 = 0 := by decide +kernel
theorem oo_99 : mm_o 99 = 0 := by decide +kernel
theorem b_st1 {a b m : Nat} (h2 : a ≤ 200 + 20 * m) (h : b ≤ a + 20) : b ≤ 200 + 20 * (m + 1) := by omega
theorem b_st2 {a b m : Nat} (h2 : a ≤ 10000 + 1000 * m) (h : b ≤ a + 1000) : b ≤ 10000 + 1000 * (m + 1) := by
  rw [Nat.mul_succ, ← Nat.add_assoc]
  exact Nat.le_trans h (Nat.add_le_add_right h2 1000)
set_option maxHeartbeats 4000000 in
theorem lw_loop (hAg : ∀ a b n : Int32, StpG 47 199 [.int a, .int b, .int n]) (L : Nat) (xs : Nat → Int32) (hL : L ≤ 4096) (M : mH) (T : Nat → mT) (cs : Nat → Nat → Int32) (io : Nat → Int32) (sg : Nat → Nat → Int32) (hI : IV L xs M T cs io sg) (h1 : M.1 ≤ 200) (h2 : M.2.1 ≤ 10000) : mm_Ru 40 (27, 4, false, code, ret) 18 [(3, .int (nI 0)), (2, .ref 100), (1, .ref 0), (0, .ref 1000009)] [] (hk (rf_mk M io sg) T cs) (fun z => ∃ M9 : mH, z = (some (.int 1), M9) ∧ M9.1 ≤ 600000 ∧ M9.2.1 ≤ 7302250) := by
  refine mm_cnt (P := fun m => ∀ (M : mH) (T : Nat → mT) (cs : Nat → Nat → Int32) (io : Nat → Int32) (sg : Nat → Nat → Int32), IV L xs M T cs io sg → M.1 ≤ 200 + 20 * m → M.2.1 ≤ 10000 + 1000 * m → mm_Ru 40 (27, 4, false, code, ret) 18 [(3, .int (nI (8 * m))), (2, .ref 100), (1, .ref 0), (0, .ref 1000009)] [] (hk (rf_mk M io sg) T cs) (fun z => ∃ M9 : mH, z = (some (.int 1), M9) ∧ M9.1 ≤ 600000 ∧ M9.2.1 ≤ 7302250)) (L / 8) ?_ ?_ 0 (Nat.zero_le _) M T cs io sg hI (by omega) (by omega)
  · intro M T cs io sg hI h1 h2
    show mm_Ru 40 (27, 4, false, code, ret) 18 [(3, .int (nI (8 * (L / 8)))), (2, .ref 100), (1, .ref 0), (0, .ref 1000009)] [] (hk (rf_mk M io sg) T cs) (fun z => ∃ M9 : mH, z = (some (.int 1), M9) ∧ M9.1 ≤ 600000 ∧ M9.2.1 ≤ 7302250)
    have hN := IV_9 (io2 := io) (sg2 := sg) hI
    refine r_iload_n rfl dl_18 ?_
    refine r_aload_n rfl dl_19 ?_
    refine l_len hN dl_20 ?_
    refine r_bipush (v := nI 8) (by decide) dl_21 ?_
    refine r_isub (v := nI L - nI 8) rfl dl_23 ?_
    refine r_icgt (t := 1449) (by decide) dl_24 (fun _ => ?_) (fun c => absurd (lw_gt hL (by omega) (by omega)) c)
    refine r_iconst (v := nI 1) (by decide) dl_1449 ?_
    exact r_zret rfl (by decide) dl_1450 ⟨_, rfl, by show M.1 ≤ 600000; omega, by show M.2.1 ≤ 7302250; omega⟩
  · intro m h_m ih_m M T cs io sg hI h1 h2
    show mm_Ru 40 (27, 4, false, code, ret) 18 [(3, .int (nI (8 * m))), (2, .ref 100), (1, .ref 0), (0, .ref 1000009)] [] (hk (rf_mk M io sg) T cs) (fun z => ∃ M9 : mH, z = (some (.int 1), M9) ∧ M9.1 ≤ 600000 ∧ M9.2.1 ≤ 7302250)
    have hm8 : 8 * m + 8 ≤ L := by omega
    obtain ⟨⟨e0, hT0⟩, hM7⟩ := IV_0 hI
    have hN := IV_9 (io2 := io) (sg2 := sg) hI
    refine r_iload_n rfl dl_18 ?_
    refine r_aload_n rfl dl_19 ?_
    refine l_len hN dl_20 ?_
    refine r_bipush (v := nI 8) (by decide) dl_21 ?_
    refine r_isub (v := nI L - nI 8) rfl dl_23 ?_
    refine r_icgt (t := 1449) (by decide) dl_24 (fun c => ?_) (fun _ => ?_)
    · rw [nI_sb (by omega), nI_ltI (by omega) (by omega)] at c
      omega
    refine r_aload_n rfl dl_27 ?_
    refine r_iload_n rfl dl_28 ?_
    refine l_ld (e := 8 * m) hN (by omega) (by omega) dl_29 ?_
    refine r_bipush (v := nI 31) (by decide) dl_30 ?_
    obtain ⟨k, hk32, ek⟩ := li31 (xs (8 * m))
    refine r_iand (v := nI k) ek dl_32 ?_
    rcases (by omega : k = 0 ∨ k = 1 ∨ k = 2 ∨ k = 3 ∨ k = 4 ∨ k = 5 ∨ k = 6 ∨ k = 7 ∨ k = 8 ∨ k = 9 ∨ k = 10 ∨ k = 11 ∨ k = 12 ∨ k = 13 ∨ k = 14 ∨ k = 15 ∨ k = 16 ∨ k = 17 ∨ k = 18 ∨ k = 19 ∨ k = 20 ∨ k = 21 ∨ k = 22 ∨ k = 23 ∨ k = 24 ∨ k = 25 ∨ k = 26 ∨ k = 27 ∨ k = 28 ∨ k = 29 ∨ k = 30 ∨ k = 31) with rfl | rfl | rfl | rfl | rfl | rfl | rfl | rfl | rfl | rfl | rfl | rfl | rfl | rfl | rfl | rfl | rfl | rfl | rfl | rfl | rfl | rfl | rfl | rfl | rfl | rfl | rfl | rfl | rfl | rfl | rfl | rfl
    · refine r_swIn (off := 143) (t := 176) (by decide +kernel) (by decide +kernel) (by decide +kernel) (by decide) dl_33 ?_
      refine r_aload_n rfl dl_176 ?_
      refine r_aload_n rfl dl_177 ?_
      refine r_iload_n rfl dl_178 ?_
      refine r_iconst (v := nI 1) (by decide) dl_179 ?_
      refine r_iadd (v := nI (8 * m + 1)) (nI_add _ _) dl_180 ?_
      refine l_ld (e := 8 * m + 1) hN (by omega) (by omega) dl_181 ?_
      refine r_aload_n rfl dl_182 ?_
      refine r_iload_n rfl dl_183 ?_
      refine r_iconst (v := nI 2) (by decide) dl_184 ?_
      refine r_iadd (v := nI (8 * m + 2)) (nI_add _ _) dl_185 ?_
      refine l_ld (e := 8 * m + 2) hN (by omega) (by omega) dl_186 ?_
      refine r_aload_n rfl dl_187 ?_
      refine r_iload_n rfl dl_188 ?_
      refine r_iconst (v := nI 3) (by decide) dl_189 ?_
      refine r_iadd (v := nI (8 * m + 3)) (nI_add _ _) dl_190 ?_
      refine l_ld (e := 8 * m + 3) hN (by omega) (by omega) dl_191 ?_
      obtain ⟨v, M2, T2, cs2, io2, sg2, hc, hr, hI2, hb1, hb2⟩ := (Stp_N (st_land (xs (8 * m + 1)) (xs (8 * m + 2)) (xs (8 * m + 3)))) L xs M T cs io sg hI (by omega)
      have hI2m := (IV_0 hI2).2
      obtain ⟨x, rfl⟩ := ev_int hc (by decide +kernel)
      have hN2 := IV_9 (io2 := io) (sg2 := sg) hI2
      refine h_callv (t := cT e0 0) (as := [.int (xs (8 * m + 1)), .int (xs (8 * m + 2)), .int (xs (8 * m + 3))]) (rest := []) (v := .int x) (M1 := hk (rf_mk M2 io sg) T2 cs2) rfl rfl lv_13 (Or.inl rfl) ln_12 hT0 ⟨by show 0 < M.1; omega, by decide⟩ (show (0 : Nat) < 14 by decide) oo_12 rfl (show (0 : Nat) ≤ 8 by decide) dl_192 hc ?_
      refine r_aload_n rfl dl_195 ?_
      refine r_aload_n rfl dl_196 ?_
      refine r_iload_n rfl dl_197 ?_
      refine r_iconst (v := nI 1) (by decide) dl_198 ?_
      refine r_iadd (v := nI (8 * m + 1)) (nI_add _ _) dl_199 ?_
      refine l_ld (e := 8 * m + 1) hN2 (by omega) (by omega) dl_200 ?_
      refine r_aload_n rfl dl_201 ?_
      refine r_iload_n rfl dl_202 ?_
      refine r_iconst (v := nI 2) (by decide) dl_203 ?_
      refine r_iadd (v := nI (8 * m + 2)) (nI_add _ _) dl_204 ?_
      refine l_ld (e := 8 * m + 2) hN2 (by omega) (by omega) dl_205 ?_
      refine r_aload_n rfl dl_206 ?_
      refine r_iload_n rfl dl_207 ?_
      refine r_iconst (v := nI 3) (by decide) dl_208 ?_
      refine r_iadd (v := nI (8 * m + 3)) (nI_add _ _) dl_209 ?_
      refine l_ld (e := 8 * m + 3) hN2 (by omega) (by omega) dl_210 ?_
      refine l_callr (as := [.int (xs (8 * m + 1)), .int (xs (8 * m + 2)), .int (xs (8 * m + 3))]) (rest := [.int x]) (v := .int x) (M1 := hk (rf_mk M2 io2 sg2) T2 cs2) lv_17 ln_186 (l_rc 186 oo_186 hI2m _) rfl (show (1 : Nat) ≤ 8 by decide) dl_211 hr ?_
      refine r_iceq (t := 1443) (by decide) dl_214 (fun _ => ?_) (fun c => absurd rfl c)
      refine r_iinc (n := 3) (k := 8) (x := nI (8 * m)) (v := nI (8 * m + 8)) (ls' := [(3, .int (nI (8 * m + 8))), (2, .ref 100), (1, .ref 0), (0, .ref 1000009)]) rfl (nI_add _ 8) (by decide) rfl dl_1443 ?_
      refine r_goto (t := 18) (by decide) dl_1446 ?_
      exact ih_m M2 T2 cs2 io2 sg2 hI2 (b_st1 h1 hb1) (b_st2 h2 hb2)
    · refine r_swIn (off := 186) (t := 219) (by decide +kernel) (by decide +kernel) (by decide +kernel) (by decide) dl_33 ?_
      refine r_aload_n rfl dl_219 ?_
      refine r_aload_n rfl dl_220 ?_
      refine r_iload_n rfl dl_221 ?_
      refine r_iconst (v := nI 1) (by decide) dl_222 ?_
      refine r_iadd (v := nI (8 * m + 1)) (nI_add _ _) dl_223 ?_
      refine l_ld (e := 8 * m + 1) hN (by omega) (by omega) dl_224 ?_
      refine r_aload_n rfl dl_225 ?_
      refine r_iload_n rfl dl_226 ?_
      refine r_iconst (v := nI 2) (by decide) dl_227 ?_
      refine r_iadd (v := nI (8 * m + 2)) (nI_add _ _) dl_228 ?_
      refine l_ld (e := 8 * m + 2) hN (by omega) (by omega) dl_229 ?_
      refine r_aload_n rfl dl_230 ?_
      refine r_iload_n rfl dl_231 ?_
      refine r_iconst (v := nI 3) (by decide) dl_232 ?_
      refine r_iadd (v := nI (8 * m + 3)) (nI_add _ _) dl_233 ?_
      refine l_ld (e := 8 * m + 3) hN (by omega) (by omega) dl_234 ?_
      obtain ⟨v, M2, T2, cs2, io2, sg2, hc, hr, hI2, hb1, hb2⟩ := (Stp_N (st_had (xs (8 * m + 1)) (xs (8 * m + 2)) (xs (8 * m + 3)))) L xs M T cs io sg hI (by omega)
      have hI2m := (IV_0 hI2).2
      obtain ⟨x, rfl⟩ := ev_int hc (by decide +kernel)
      have hN2 := IV_9 (io2 := io) (sg2 := sg) hI2
      refine h_callv (t := cT e0 0) (as := [.int (xs (8 * m + 1)), .int (xs (8 * m + 2)), .int (xs (8 * m + 3))]) (rest := []) (v := .int x) (M1 := hk (rf_mk M2 io sg) T2 cs2) rfl rfl lv_18 (Or.inl rfl) ln_14 hT0 ⟨by show 0 < M.1; omega, by decide⟩ (show (0 : Nat) < 14 by decide) oo_14 rfl (show (0 : Nat) ≤ 8 by decide) dl_235 hc ?_
      refine r_aload_n rfl dl_238 ?_
      refine r_aload_n rfl dl_239 ?_
      refine r_iload_n rfl dl_240 ?_
      refine r_iconst (v := nI 1) (by decide) dl_241 ?_
      refine r_iadd (v := nI (8 * m + 1)) (nI_add _ _) dl_242 ?_
      refine l_ld (e := 8 * m + 1) hN2 (by omega) (by omega) dl_243 ?_
      refine r_aload_n rfl dl_244 ?_
      refine r_iload_n rfl dl_245 ?_
      refine r_iconst (v := nI 2) (by decide) dl_246 ?_
      refine r_iadd (v := nI (8 * m + 2)) (nI_add _ _) dl_247 ?_
      refine l_ld (e := 8 * m + 2) hN2 (by omega) (by omega) dl_248 ?_
      refine r_aload_n rfl dl_249 ?_
      refine r_iload_n rfl dl_250 ?_
      refine r_iconst (v := nI 3) (by decide) dl_251 ?_
      refine r_iadd (v := nI (8 * m + 3)) (nI_add _ _) dl_252 ?_
      refine l_ld (e := 8 * m + 3) hN2 (by omega) (by omega) dl_253 ?_
      refine l_callr (as := [.int (xs (8 * m + 1)), .int (xs (8 * m + 2)), .int (xs (8 * m + 3))]) (rest := [.int x]) (v := .int x) (M1 := hk (rf_mk M2 io2 sg2) T2 cs2) lv_21 ln_188 (l_rc 188 oo_188 hI2m _) rfl (show (1 : Nat) ≤ 8 by decide) dl_254 hr ?_
      refine r_iceq (t := 1443) (by decide) dl_257 (fun _ => ?_) (fun c => absurd rfl c)
      refine r_iinc (n := 3) (k := 8) (x := nI (8 * m)) (v := nI (8 * m + 8)) (ls' := [(3, .int (nI (8 * m + 8))), (2, .ref 100), (1, .ref 0), (0, .ref 1000009)]) rfl (nI_add _ 8) (by decide) rfl dl_1443 ?_
      refine r_goto (t := 18) (by decide) dl_1446 ?_
      exact ih_m M2 T2 cs2 io2 sg2 hI2 (b_st1 h1 hb1) (b_st2 h2 hb2)
    · refine r_swIn (off := 229) (t := 262) (by decide +kernel) (by decide +kernel) (by decide +kernel) (by decide) dl_33 ?_
      refine r_aload_n rfl dl_262 ?_
      refine r_aload_n rfl dl_263 ?_
      refine r_iload_n rfl dl_264 ?_
      refine r_iconst (v := nI 1) (by decide) dl_265 ?_
      refine r_iadd (v := nI (8 * m + 1)) (nI_add _ _) dl_266 ?_
      refine l_ld (e := 8 * m + 1) hN (by omega) (by omega) dl_267 ?_
      refine r_aload_n rfl dl_268 ?_
      refine r_iload_n rfl dl_269 ?_
      refine r_iconst (v := nI 2) (by decide) dl_270 ?_
      refine r_iadd (v := nI (8 * m + 2)) (nI_add _ _) dl_271 ?_
      refine l_ld (e := 8 * m + 2) hN (by omega) (by omega) dl_272 ?_
      refine r_aload_n rfl dl_273 ?_
      refine r_iload_n rfl dl_274 ?_
      refine r_iconst (v := nI 3) (by decide) dl_275 ?_
      refine r_iadd (v := nI (8 * m + 3)) (nI_add _ _) dl_276 ?_
      refine l_ld (e := 8 * m + 3) hN (by omega) (by omega) dl_277 ?_
      refine r_aload_n rfl dl_278 ?_
      refine r_iload_n rfl dl_279 ?_
      refine r_iconst (v := nI 4) (by decide) dl_280 ?_
      refine r_iadd (v := nI (8 * m + 4)) (nI_add _ _) dl_281 ?_
      refine l_ld (e := 8 * m + 4) hN (by omega) (by omega) dl_282 ?_
      obtain ⟨v, M2, T2, cs2, io2, sg2, hc, hr, hI2, hb1, hb2⟩ := (Stp_N (st_turn (xs (8 * m + 1)) (xs (8 * m + 2)) (xs (8 * m + 3)) (xs (8 * m + 4)))) L xs M T cs io sg hI (by omega)
      have hI2m := (IV_0 hI2).2
      obtain ⟨x, rfl⟩ := ev_int hc (by decide +kernel)
      have hN2 := IV_9 (io2 := io) (sg2 := sg) hI2
      refine h_callv (t := cT e0 0) (as := [.int (xs (8 * m + 1)), .int (xs (8 * m + 2)), .int (xs (8 * m + 3)), .int (xs (8 * m + 4))]) (rest := []) (v := .int x) (M1 := hk (rf_mk M2 io sg) T2 cs2) rfl rfl lv_22 (Or.inl rfl) ln_17 hT0 ⟨by show 0 < M.1; omega, by decide⟩ (show (0 : Nat) < 14 by decide) oo_17 rfl (show (0 : Nat) ≤ 8 by decide) dl_283 hc ?_
      refine r_aload_n rfl dl_286 ?_
      refine r_aload_n rfl dl_287 ?_
      refine r_iload_n rfl dl_288 ?_
      refine r_iconst (v := nI 1) (by decide) dl_289 ?_
      refine r_iadd (v := nI (8 * m + 1)) (nI_add _ _) dl_290 ?_
      refine l_ld (e := 8 * m + 1) hN2 (by omega) (by omega) dl_291 ?_
      refine r_aload_n rfl dl_292 ?_
      refine r_iload_n rfl dl_293 ?_
      refine r_iconst (v := nI 2) (by decide) dl_294 ?_
      refine r_iadd (v := nI (8 * m + 2)) (nI_add _ _) dl_295 ?_
      refine l_ld (e := 8 * m + 2) hN2 (by omega) (by omega) dl_296 ?_
      refine r_aload_n rfl dl_297 ?_
      refine r_iload_n rfl dl_298 ?_
      refine r_iconst (v := nI 3) (by decide) dl_299 ?_
      refine r_iadd (v := nI (8 * m + 3)) (nI_add _ _) dl_300 ?_
      refine l_ld (e := 8 * m + 3) hN2 (by omega) (by omega) dl_301 ?_
      refine r_aload_n rfl dl_302 ?_
      refine r_iload_n rfl dl_303 ?_
      refine r_iconst (v := nI 4) (by decide) dl_304 ?_
      refine r_iadd (v := nI (8 * m + 4)) (nI_add _ _) dl_305 ?_
      refine l_ld (e := 8 * m + 4) hN2 (by omega) (by omega) dl_306 ?_
      refine l_callr (as := [.int (xs (8 * m + 1)), .int (xs (8 * m + 2)), .int (xs (8 * m + 3)), .int (xs (8 * m + 4))]) (rest := [.int x]) (v := .int x) (M1 := hk (rf_mk M2 io2 sg2) T2 cs2) lv_26 ln_189 (l_rc 189 oo_189 hI2m _) rfl (show (1 : Nat) ≤ 8 by decide) dl_307 hr ?_
      refine r_iceq (t := 1443) (by decide) dl_310 (fun _ => ?_) (fun c => absurd rfl c)
      refine r_iinc (n := 3) (k := 8) (x := nI (8 * m)) (v := nI (8 * m + 8)) (ls' := [(3, .int (nI (8 * m + 8))), (2, .ref 100), (1, .ref 0), (0, .ref 1000009)]) rfl (nI_add _ 8) (by decide) rfl dl_1443 ?_
      refine r_goto (t := 18) (by decide) dl_1446 ?_
      exact ih_m M2 T2 cs2 io2 sg2 hI2 (b_st1 h1 hb1) (b_st2 h2 hb2)
    · refine r_swIn (off := 282) (t := 315) (by decide +kernel) (by decide +kernel) (by decide +kernel) (by decide) dl_33 ?_
      refine r_aload_n rfl dl_315 ?_
      refine r_aload_n rfl dl_316 ?_
      refine r_iload_n rfl dl_317 ?_
      refine r_iconst (v := nI 1) (by decide) dl_318 ?_
      refine r_iadd (v := nI (8 * m + 1)) (nI_add _ _) dl_319 ?_
      refine l_ld (e := 8 * m + 1) hN (by omega) (by omega) dl_320 ?_
      refine r_aload_n rfl dl_321 ?_
      refine r_iload_n rfl dl_322 ?_
      refine r_iconst (v := nI 2) (by decide) dl_323 ?_
      refine r_iadd (v := nI (8 * m + 2)) (nI_add _ _) dl_324 ?_
      refine l_ld (e := 8 * m + 2) hN (by omega) (by omega) dl_325 ?_
      refine r_aload_n rfl dl_326 ?_
      refine r_iload_n rfl dl_327 ?_
      refine r_iconst (v := nI 3) (by decide) dl_328 ?_
      refine r_iadd (v := nI (8 * m + 3)) (nI_add _ _) dl_329 ?_
      refine l_ld (e := 8 * m + 3) hN (by omega) (by omega) dl_330 ?_
      refine r_aload_n rfl dl_331 ?_
      refine r_iload_n rfl dl_332 ?_
      refine r_iconst (v := nI 4) (by decide) dl_333 ?_
      refine r_iadd (v := nI (8 * m + 4)) (nI_add _ _) dl_334 ?_
      refine l_ld (e := 8 * m + 4) hN (by omega) (by omega) dl_335 ?_
      refine r_aload_n rfl dl_336 ?_
      refine r_iload_n rfl dl_337 ?_
      refine r_iconst (v := nI 5) (by decide) dl_338 ?_
      refine r_iadd (v := nI (8 * m + 5)) (nI_add _ _) dl_339 ?_
      refine l_ld (e := 8 * m + 5) hN (by omega) (by omega) dl_340 ?_
      refine r_aload_n rfl dl_341 ?_
      refine r_iload_n rfl dl_342 ?_
      refine r_bipush (v := nI 6) (by decide) dl_343 ?_
      refine r_iadd (v := nI (8 * m + 6)) (nI_add _ _) dl_345 ?_
      refine l_ld (e := 8 * m + 6) hN (by omega) (by omega) dl_346 ?_
      refine r_aload_n rfl dl_347 ?_
      refine r_iload_n rfl dl_348 ?_
      refine r_bipush (v := nI 7) (by decide) dl_349 ?_
      refine r_iadd (v := nI (8 * m + 7)) (nI_add _ _) dl_351 ?_
      refine l_ld (e := 8 * m + 7) hN (by omega) (by omega) dl_352 ?_
      obtain ⟨v, M2, T2, cs2, io2, sg2, hc, hr, hI2, hb1, hb2⟩ := (StpA_G (st_school (xs (8 * m + 1)) (xs (8 * m + 2)) (xs (8 * m + 3)) (xs (8 * m + 4)) (xs (8 * m + 5)) (xs (8 * m + 6)) (xs (8 * m + 7)))) L xs M T cs io sg hI (by omega)
      have hI2m := (IV_0 hI2).2
      obtain ⟨x, rfl⟩ := ev_int hc (by decide +kernel)
      have hN2 := IV_9 (io2 := io) (sg2 := sg) hI2
      refine h_callv (t := cT e0 0) (as := [.int (xs (8 * m + 1)), .int (xs (8 * m + 2)), .int (xs (8 * m + 3)), .int (xs (8 * m + 4)), .int (xs (8 * m + 5)), .int (xs (8 * m + 6)), .int (xs (8 * m + 7))]) (rest := []) (v := .int x) (M1 := hk (rf_mk M2 io sg) T2 cs2) rfl rfl lv_27 (Or.inl rfl) ln_24 hT0 ⟨by show 0 < M.1; omega, by decide⟩ (show (0 : Nat) < 14 by decide) oo_24 rfl (show (0 : Nat) ≤ 8 by decide) dl_353 hc ?_
      refine r_aload_n rfl dl_356 ?_
      refine r_aload_n rfl dl_357 ?_
      refine r_iload_n rfl dl_358 ?_
      refine r_iconst (v := nI 1) (by decide) dl_359 ?_
      refine r_iadd (v := nI (8 * m + 1)) (nI_add _ _) dl_360 ?_
      refine l_ld (e := 8 * m + 1) hN2 (by omega) (by omega) dl_361 ?_
      refine r_aload_n rfl dl_362 ?_
      refine r_iload_n rfl dl_363 ?_
      refine r_iconst (v := nI 2) (by decide) dl_364 ?_
      refine r_iadd (v := nI (8 * m + 2)) (nI_add _ _) dl_365 ?_
      refine l_ld (e := 8 * m + 2) hN2 (by omega) (by omega) dl_366 ?_
      refine r_aload_n rfl dl_367 ?_
      refine r_iload_n rfl dl_368 ?_
      refine r_iconst (v := nI 3) (by decide) dl_369 ?_
      refine r_iadd (v := nI (8 * m + 3)) (nI_add _ _) dl_370 ?_
      refine l_ld (e := 8 * m + 3) hN2 (by omega) (by omega) dl_371 ?_
      refine r_aload_n rfl dl_372 ?_
      refine r_iload_n rfl dl_373 ?_
      refine r_iconst (v := nI 4) (by decide) dl_374 ?_
      refine r_iadd (v := nI (8 * m + 4)) (nI_add _ _) dl_375 ?_
      refine l_ld (e := 8 * m + 4) hN2 (by omega) (by omega) dl_376 ?_
      refine r_aload_n rfl dl_377 ?_
      refine r_iload_n rfl dl_378 ?_
      refine r_iconst (v := nI 5) (by decide) dl_379 ?_
      refine r_iadd (v := nI (8 * m + 5)) (nI_add _ _) dl_380 ?_
      refine l_ld (e := 8 * m + 5) hN2 (by omega) (by omega) dl_381 ?_
      refine r_aload_n rfl dl_382 ?_
      refine r_iload_n rfl dl_383 ?_
      refine r_bipush (v := nI 6) (by decide) dl_384 ?_
      refine r_iadd (v := nI (8 * m + 6)) (nI_add _ _) dl_386 ?_
      refine l_ld (e := 8 * m + 6) hN2 (by omega) (by omega) dl_387 ?_
      refine r_aload_n rfl dl_388 ?_
      refine r_iload_n rfl dl_389 ?_
      refine r_bipush (v := nI 7) (by decide) dl_390 ?_
      refine r_iadd (v := nI (8 * m + 7)) (nI_add _ _) dl_392 ?_
      refine l_ld (e := 8 * m + 7) hN2 (by omega) (by omega) dl_393 ?_
      refine l_callr (as := [.int (xs (8 * m + 1)), .int (xs (8 * m + 2)), .int (xs (8 * m + 3)), .int (xs (8 * m + 4)), .int (xs (8 * m + 5)), .int (xs (8 * m + 6)), .int (xs (8 * m + 7))]) (rest := [.int x]) (v := .int x) (M1 := hk (rf_mk M2 io2 sg2) T2 cs2) lv_31 ln_194 (l_rc 194 oo_194 hI2m _) rfl (show (1 : Nat) ≤ 8 by decide) dl_394 hr ?_
      refine r_iceq (t := 1443) (by decide) dl_397 (fun _ => ?_) (fun c => absurd rfl c)
      refine r_iinc (n := 3) (k := 8) (x := nI (8 * m)) (v := nI (8 * m + 8)) (ls' := [(3, .int (nI (8 * m + 8))), (2, .ref 100), (1, .ref 0), (0, .ref 1000009)]) rfl (nI_add _ 8) (by decide) rfl dl_1443 ?_
      refine r_goto (t := 18) (by decide) dl_1446 ?_
      exact ih_m M2 T2 cs2 io2 sg2 hI2 (b_st1 h1 hb1) (b_st2 h2 hb2)
    · refine r_swIn (off := 369) (t := 402) (by decide +kernel) (by decide +kernel) (by decide +kernel) (by decide) dl_33 ?_
      refine r_aload_n rfl dl_402 ?_
      refine r_aload_n rfl dl_403 ?_
      refine r_iload_n rfl dl_404 ?_
      refine r_iconst (v := nI 1) (by decide) dl_405 ?_
      refine r_iadd (v := nI (8 * m + 1)) (nI_add _ _) dl_406 ?_
      refine l_ld (e := 8 * m + 1) hN (by omega) (by omega) dl_407 ?_
      refine r_aload_n rfl dl_408 ?_
      refine r_iload_n rfl dl_409 ?_
      refine r_iconst (v := nI 2) (by decide) dl_410 ?_
      refine r_iadd (v := nI (8 * m + 2)) (nI_add _ _) dl_411 ?_
      refine l_ld (e := 8 * m + 2) hN (by omega) (by omega) dl_412 ?_
      obtain ⟨v, M2, T2, cs2, io2, sg2, hc, hr, hI2, hb1, hb2⟩ := (Stp_N (st_beds (xs (8 * m + 1)) (xs (8 * m + 2)))) L xs M T cs io sg hI (by omega)
      have hI2m := (IV_0 hI2).2
      obtain ⟨x, rfl⟩ := ev_int hc (by decide +kernel)
      have hN2 := IV_9 (io2 := io) (sg2 := sg) hI2
      refine h_callv (t := cT e0 0) (as := [.int (xs (8 * m + 1)), .int (xs (8 * m + 2))]) (rest := []) (v := .int x) (M1 := hk (rf_mk M2 io sg) T2 cs2) rfl rfl lv_32 (Or.inl rfl) ln_38 hT0 ⟨by show 0 < M.1; omega, by decide⟩ (show (0 : Nat) < 14 by decide) oo_38 rfl (show (0 : Nat) ≤ 8 by decide) dl_413 hc ?_
      refine r_aload_n rfl dl_416 ?_
      refine r_aload_n rfl dl_417 ?_
      refine r_iload_n rfl dl_418 ?_
      refine r_iconst (v := nI 1) (by decide) dl_419 ?_
      refine r_iadd (v := nI (8 * m + 1)) (nI_add _ _) dl_420 ?_
      refine l_ld (e := 8 * m + 1) hN2 (by omega) (by omega) dl_421 ?_
      refine r_aload_n rfl dl_422 ?_
      refine r_iload_n rfl dl_423 ?_
      refine r_iconst (v := nI 2) (by decide) dl_424 ?_
      refine r_iadd (v := nI (8 * m + 2)) (nI_add _ _) dl_425 ?_
      refine l_ld (e := 8 * m + 2) hN2 (by omega) (by omega) dl_426 ?_
      refine l_callr (as := [.int (xs (8 * m + 1)), .int (xs (8 * m + 2))]) (rest := [.int x]) (v := .int x) (M1 := hk (rf_mk M2 io2 sg2) T2 cs2) lv_36 ln_195 (l_rc 195 oo_195 hI2m _) rfl (show (1 : Nat) ≤ 8 by decide) dl_427 hr ?_
      refine r_iceq (t := 1443) (by decide) dl_430 (fun _ => ?_) (fun c => absurd rfl c)
      refine r_iinc (n := 3) (k := 8) (x := nI (8 * m)) (v := nI (8 * m + 8)) (ls' := [(3, .int (nI (8 * m + 8))), (2, .ref 100), (1, .ref 0), (0, .ref 1000009)]) rfl (nI_add _ 8) (by decide) rfl dl_1443 ?_
      refine r_goto (t := 18) (by decide) dl_1446 ?_
      exact ih_m M2 T2 cs2 io2 sg2 hI2 (b_st1 h1 hb1) (b_st2 h2 hb2)
    · refine r_swIn (off := 402) (t := 435) (by decide +kernel) (by decide +kernel) (by decide +kernel) (by decide) dl_33 ?_
      refine r_aload_n rfl dl_435 ?_
      refine r_aload_n rfl dl_436 ?_
      refine r_iload_n rfl dl_437 ?_
      refine r_iconst (v := nI 1) (by decide) dl_438 ?_
      refine r_iadd (v := nI (8 * m + 1)) (nI_add _ _) dl_439 ?_
      refine l_ld (e := 8 * m + 1) hN (by omega) (by omega) dl_440 ?_
      refine r_aload_n rfl dl_441 ?_
      refine r_iload_n rfl dl_442 ?_
      refine r_iconst (v := nI 2) (by decide) dl_443 ?_
      refine r_iadd (v := nI (8 * m + 2)) (nI_add _ _) dl_444 ?_
      refine l_ld (e := 8 * m + 2) hN (by omega) (by omega) dl_445 ?_
      refine r_aload_n rfl dl_446 ?_
      refine r_iload_n rfl dl_447 ?_
      refine r_iconst (v := nI 3) (by decide) dl_448 ?_
      refine r_iadd (v := nI (8 * m + 3)) (nI_add _ _) dl_449 ?_
      refine l_ld (e := 8 * m + 3) hN (by omega) (by omega) dl_450 ?_
      refine r_aload_n rfl dl_451 ?_
      refine r_iload_n rfl dl_452 ?_
      refine r_iconst (v := nI 4) (by decide) dl_453 ?_
      refine r_iadd (v := nI (8 * m + 4)) (nI_add _ _) dl_454 ?_
      refine l_ld (e := 8 * m + 4) hN (by omega) (by omega) dl_455 ?_
      refine r_aload_n rfl dl_456 ?_
      refine r_iload_n rfl dl_457 ?_
      refine r_iconst (v := nI 5) (by decide) dl_458 ?_
      refine r_iadd (v := nI (8 * m + 5)) (nI_add _ _) dl_459 ?_
      refine l_ld (e := 8 * m + 5) hN (by omega) (by omega) dl_460 ?_
      obtain ⟨v, M2, T2, cs2, io2, sg2, hc, hr, hI2, hb1, hb2⟩ := (Stp_N (st_feed (xs (8 * m + 1)) (xs (8 * m + 2)) (xs (8 * m + 3)) (xs (8 * m + 4)) (xs (8 * m + 5)))) L xs M T cs io sg hI (by omega)
      have hI2m := (IV_0 hI2).2
      obtain ⟨x, rfl⟩ := ev_int hc (by decide +kernel)
      have hN2 := IV_9 (io2 := io) (sg2 := sg) hI2
      refine h_callv (t := cT e0 0) (as := [.int (xs (8 * m + 1)), .int (xs (8 * m + 2)), .int (xs (8 * m + 3)), .int (xs (8 * m + 4)), .int (xs (8 * m + 5))]) (rest := []) (v := .int x) (M1 := hk (rf_mk M2 io sg) T2 cs2) rfl rfl lv_37 (Or.inl rfl) ln_44 hT0 ⟨by show 0 < M.1; omega, by decide⟩ (show (0 : Nat) < 14 by decide) oo_44 rfl (show (0 : Nat) ≤ 8 by decide) dl_461 hc ?_
      refine r_aload_n rfl dl_464 ?_
      refine r_aload_n rfl dl_465 ?_
      refine r_iload_n rfl dl_466 ?_
      refine r_iconst (v := nI 1) (by decide) dl_467 ?_
      refine r_iadd (v := nI (8 * m + 1)) (nI_add _ _) dl_468 ?_
      refine l_ld (e := 8 * m + 1) hN2 (by omega) (by omega) dl_469 ?_
      refine r_aload_n rfl dl_470 ?_
      refine r_iload_n rfl dl_471 ?_
      refine r_iconst (v := nI 2) (by decide) dl_472 ?_
      refine r_iadd (v := nI (8 * m + 2)) (nI_add _ _) dl_473 ?_
      refine l_ld (e := 8 * m + 2) hN2 (by omega) (by omega) dl_474 ?_
      refine r_aload_n rfl dl_475 ?_
      refine r_iload_n rfl dl_476 ?_
      refine r_iconst (v := nI 3) (by decide) dl_477 ?_
      refine r_iadd (v := nI (8 * m + 3)) (nI_add _ _) dl_478 ?_
      refine l_ld (e := 8 * m + 3) hN2 (by omega) (by omega) dl_479 ?_
      refine r_aload_n rfl dl_480 ?_
      refine r_iload_n rfl dl_481 ?_
      refine r_iconst (v := nI 4) (by decide) dl_482 ?_
      refine r_iadd (v := nI (8 * m + 4)) (nI_add _ _) dl_483 ?_
      refine l_ld (e := 8 * m + 4) hN2 (by omega) (by omega) dl_484 ?_
      refine r_aload_n rfl dl_485 ?_
      refine r_iload_n rfl dl_486 ?_
      refine r_iconst (v := nI 5) (by decide) dl_487 ?_
      refine r_iadd (v := nI (8 * m + 5)) (nI_add _ _) dl_488 ?_
      refine l_ld (e := 8 * m + 5) hN2 (by omega) (by omega) dl_489 ?_
      refine l_callr (as := [.int (xs (8 * m + 1)), .int (xs (8 * m + 2)), .int (xs (8 * m + 3)), .int (xs (8 * m + 4)), .int (xs (8 * m + 5))]) (rest := [.int x]) (v := .int x) (M1 := hk (rf_mk M2 io2 sg2) T2 cs2) lv_41 ln_197 (l_rc 197 oo_197 hI2m _) rfl (show (1 : Nat) ≤ 8 by decide) dl_490 hr ?_
      refine r_iceq (t := 1443) (by decide) dl_493 (fun _ => ?_) (fun c => absurd rfl c)
      refine r_iinc (n := 3) (k := 8) (x := nI (8 * m)) (v := nI (8 * m + 8)) (ls' := [(3, .int (nI (8 * m + 8))), (2, .ref 100), (1, .ref 0), (0, .ref 1000009)]) rfl (nI_add _ 8) (by decide) rfl dl_1443 ?_
      refine r_goto (t := 18) (by decide) dl_1446 ?_
      exact ih_m M2 T2 cs2 io2 sg2 hI2 (b_st1 h1 hb1) (b_st2 h2 hb2)
    · refine r_swIn (off := 465) (t := 498) (by decide +kernel) (by decide +kernel) (by decide +kernel) (by decide) dl_33 ?_
      refine r_aload_n rfl dl_498 ?_
      refine r_aload_n rfl dl_499 ?_
      refine r_iload_n rfl dl_500 ?_
      refine r_iconst (v := nI 1) (by decide) dl_501 ?_
      refine r_iadd (v := nI (8 * m + 1)) (nI_add _ _) dl_502 ?_
      refine l_ld (e := 8 * m + 1) hN (by omega) (by omega) dl_503 ?_
      refine r_aload_n rfl dl_504 ?_
      refine r_iload_n rfl dl_505 ?_
      refine r_iconst (v := nI 2) (by decide) dl_506 ?_
      refine r_iadd (v := nI (8 * m + 2)) (nI_add _ _) dl_507 ?_
      refine l_ld (e := 8 * m + 2) hN (by omega) (by omega) dl_508 ?_
      refine r_aload_n rfl dl_509 ?_
      refine r_iload_n rfl dl_510 ?_
      refine r_iconst (v := nI 3) (by decide) dl_511 ?_
      refine r_iadd (v := nI (8 * m + 3)) (nI_add _ _) dl_512 ?_
      refine l_ld (e := 8 * m + 3) hN (by omega) (by omega) dl_513 ?_
      obtain ⟨v, M2, T2, cs2, io2, sg2, hc, hr, hI2, hb1, hb2⟩ := (StpA_G (hAg (xs (8 * m + 1)) (xs (8 * m + 2)) (xs (8 * m + 3)))) L xs M T cs io sg hI (by omega)
      have hI2m := (IV_0 hI2).2
      obtain ⟨x, rfl⟩ := ev_int hc (by decide +kernel)
      have hN2 := IV_9 (io2 := io) (sg2 := sg) hI2
      refine h_callv (t := cT e0 0) (as := [.int (xs (8 * m + 1)), .int (xs (8 * m + 2)), .int (xs (8 * m + 3))]) (rest := []) (v := .int x) (M1 := hk (rf_mk M2 io sg) T2 cs2) rfl rfl lv_42 (Or.inl rfl) ln_47 hT0 ⟨by show 0 < M.1; omega, by decide⟩ (show (0 : Nat) < 14 by decide) oo_47 rfl (show (0 : Nat) ≤ 8 by decide) dl_514 hc ?_
      refine r_aload_n rfl dl_517 ?_
      refine r_aload_n rfl dl_518 ?_
      refine r_iload_n rfl dl_519 ?_
      refine r_iconst (v := nI 1) (by decide) dl_520 ?_
      refine r_iadd (v := nI (8 * m + 1)) (nI_add _ _) dl_521 ?_
      refine l_ld (e := 8 * m + 1) hN2 (by omega) (by omega) dl_522 ?_
      refine r_aload_n rfl dl_523 ?_
      refine r_iload_n rfl dl_524 ?_
      refine r_iconst (v := nI 2) (by decide) dl_525 ?_
      refine r_iadd (v := nI (8 * m + 2)) (nI_add _ _) dl_526 ?_
      refine l_ld (e := 8 * m + 2) hN2 (by omega) (by omega) dl_527 ?_
      refine r_aload_n rfl dl_528 ?_
      refine r_iload_n rfl dl_529 ?_
      refine r_iconst (v := nI 3) (by decide) dl_530 ?_
      refine r_iadd (v := nI (8 * m + 3)) (nI_add _ _) dl_531 ?_
      refine l_ld (e := 8 * m + 3) hN2 (by omega) (by omega) dl_532 ?_
      refine l_callr (as := [.int (xs (8 * m + 1)), .int (xs (8 * m + 2)), .int (xs (8 * m + 3))]) (rest := [.int x]) (v := .int x) (M1 := hk (rf_mk M2 io2 sg2) T2 cs2) lv_46 ln_199 (l_rc 199 oo_199 hI2m _) rfl (show (1 : Nat) ≤ 8 by decide) dl_533 hr ?_
      refine r_iceq (t := 1443) (by decide) dl_536 (fun _ => ?_) (fun c => absurd rfl c)
      refine r_iinc (n := 3) (k := 8) (x := nI (8 * m)) (v := nI (8 * m + 8)) (ls' := [(3, .int (nI (8 * m + 8))), (2, .ref 100), (1, .ref 0), (0, .ref 1000009)]) rfl (nI_add _ 8) (by decide) rfl dl_1443 ?_
      refine r_goto (t := 18) (by decide) dl_1446 ?_
      exact ih_m M2 T2 cs2 io2 sg2 hI2 (b_st1 h1 hb1) (b_st2 h2 hb2)
    · refine r_swIn (off := 508) (t := 541) (by decide +kernel) (by decide +kernel) (by decide +kernel) (by decide) dl_33 ?_
      refine r_aload_n rfl dl_541 ?_
      refine r_aload_n rfl dl_542 ?_
      refine r_iload_n rfl dl_543 ?_
      refine r_iconst (v := nI 1) (by decide) dl_544 ?_
      refine r_iadd (v := nI (8 * m + 1)) (nI_add _ _) dl_545 ?_
      refine l_ld (e := 8 * m + 1) hN (by omega) (by omega) dl_546 ?_
      refine r_aload_n rfl dl_547 ?_
      refine r_iload_n rfl dl_548 ?_
      refine r_iconst (v := nI 2) (by decide) dl_549 ?_
      refine r_iadd (v := nI (8 * m + 2)) (nI_add _ _) dl_550 ?_
      refine l_ld (e := 8 * m + 2) hN (by omega) (by omega) dl_551 ?_
      refine r_aload_n rfl dl_552 ?_
      refine r_iload_n rfl dl_553 ?_
      refine r_iconst (v := nI 3) (by decide) dl_554 ?_
      refine r_iadd (v := nI (8 * m + 3)) (nI_add _ _) dl_555 ?_
      refine l_ld (e := 8 * m + 3) hN (by omega) (by omega) dl_556 ?_
      refine r_aload_n rfl dl_557 ?_
      refine r_iload_n rfl dl_558 ?_
      refine r_iconst (v := nI 4) (by decide) dl_559 ?_
      refine r_iadd (v := nI (8 * m + 4)) (nI_add _ _) dl_560 ?_
      refine l_ld (e := 8 * m + 4) hN (by omega) (by omega) dl_561 ?_
      refine r_aload_n rfl dl_562 ?_
      refine r_iload_n rfl dl_563 ?_
      refine r_iconst (v := nI 5) (by decide) dl_564 ?_
      refine r_iadd (v := nI (8 * m + 5)) (nI_add _ _) dl_565 ?_
      refine l_ld (e := 8 * m + 5) hN (by omega) (by omega) dl_566 ?_
      obtain ⟨v, M2, T2, cs2, io2, sg2, hc, hr, hI2, hb1, hb2⟩ := (Stp_N (st_meets (xs (8 * m + 1)) (xs (8 * m + 2)) (xs (8 * m + 3)) (xs (8 * m + 4)) (xs (8 * m + 5)))) L xs M T cs io sg hI (by omega)
      have hI2m := (IV_0 hI2).2
      obtain ⟨x, rfl⟩ := ev_int hc (by decide +kernel)
      have hN2 := IV_9 (io2 := io) (sg2 := sg) hI2
      refine h_callv (t := cT e0 0) (as := [.int (xs (8 * m + 1)), .int (xs (8 * m + 2)), .int (xs (8 * m + 3)), .int (xs (8 * m + 4)), .int (xs (8 * m + 5))]) (rest := []) (v := .int x) (M1 := hk (rf_mk M2 io sg) T2 cs2) rfl rfl lv_47 (Or.inl rfl) ln_84 hT0 ⟨by show 0 < M.1; omega, by decide⟩ (show (0 : Nat) < 14 by decide) oo_84 rfl (show (0 : Nat) ≤ 8 by decide) dl_567 hc ?_
      refine r_aload_n rfl dl_570 ?_
      refine r_aload_n rfl dl_571 ?_
      refine r_iload_n rfl dl_572 ?_
      refine r_iconst (v := nI 1) (by decide) dl_573 ?_
      refine r_iadd (v := nI (8 * m + 1)) (nI_add _ _) dl_574 ?_
      refine l_ld (e := 8 * m + 1) hN2 (by omega) (by omega) dl_575 ?_
      refine r_aload_n rfl dl_576 ?_
      refine r_iload_n rfl dl_577 ?_
      refine r_iconst (v := nI 2) (by decide) dl_578 ?_
      refine r_iadd (v := nI (8 * m + 2)) (nI_add _ _) dl_579 ?_
      refine l_ld (e := 8 * m + 2) hN2 (by omega) (by omega) dl_580 ?_
      refine r_aload_n rfl dl_581 ?_
      refine r_iload_n rfl dl_582 ?_
      refine r_iconst (v := nI 3) (by decide) dl_583 ?_
      refine r_iadd (v := nI (8 * m + 3)) (nI_add _ _) dl_584 ?_
      refine l_ld (e := 8 * m + 3) hN2 (by omega) (by omega) dl_585 ?_
      refine r_aload_n rfl dl_586 ?_
      refine r_iload_n rfl dl_587 ?_
      refine r_iconst (v := nI 4) (by decide) dl_588 ?_
      refine r_iadd (v := nI (8 * m + 4)) (nI_add _ _) dl_589 ?_
      refine l_ld (e := 8 * m + 4) hN2 (by omega) (by omega) dl_590 ?_
      refine r_aload_n rfl dl_591 ?_
      refine r_iload_n rfl dl_592 ?_
      refine r_iconst (v := nI 5) (by decide) dl_593 ?_
      refine r_iadd (v := nI (8 * m + 5)) (nI_add _ _) dl_594 ?_
      refine l_ld (e := 8 * m + 5) hN2 (by omega) (by omega) dl_595 ?_
      refine l_callr (as := [.int (xs (8 * m + 1)), .int (xs (8 * m + 2)), .int (xs (8 * m + 3)), .int (xs (8 * m + 4)), .int (xs (8 * m + 5))]) (rest := [.int x]) (v := .int x) (M1 := hk (rf_mk M2 io2 sg2) T2 cs2) lv_50 ln_211 (l_rc 211 oo_211 hI2m _) rfl (show (1 : Nat) ≤ 8 by decide) dl_596 hr ?_
      refine r_iceq (t := 1443) (by decide) dl_599 (fun _ => ?_) (fun c => absurd rfl c)
      refine r_iinc (n := 3) (k := 8) (x := nI (8 * m)) (v := nI (8 * m + 8)) (ls' := [(3, .int (nI (8 * m + 8))), (2, .ref 100), (1, .ref 0), (0, .ref 1000009)]) rfl (nI_add _ 8) (by decide) rfl dl_1443 ?_
      refine r_goto (t := 18) (by decide) dl_1446 ?_
      exact ih_m M2 T2 cs2 io2 sg2 hI2 (b_st1 h1 hb1) (b_st2 h2 hb2)
    · refine r_swIn (off := 571) (t := 604) (by decide +kernel) (by decide +kernel) (by decide +kernel) (by decide) dl_33 ?_
      refine r_aload_n rfl dl_604 ?_
      refine r_aload_n rfl dl_605 ?_
      refine r_iload_n rfl dl_606 ?_
      refine r_iconst (v := nI 1) (by decide) dl_607 ?_
      refine r_iadd (v := nI (8 * m + 1)) (nI_add _ _) dl_608 ?_
      refine l_ld (e := 8 * m + 1) hN (by omega) (by omega) dl_609 ?_
      refine r_aload_n rfl dl_610 ?_
      refine r_iload_n rfl dl_611 ?_
      refine r_iconst (v := nI 2) (by decide) dl_612 ?_
      refine r_iadd (v := nI (8 * m + 2)) (nI_add _ _) dl_613 ?_
      refine l_ld (e := 8 * m + 2) hN (by omega) (by omega) dl_614 ?_
      refine r_aload_n rfl dl_615 ?_
      refine r_iload_n rfl dl_616 ?_
      refine r_iconst (v := nI 3) (by decide) dl_617 ?_
      refine r_iadd (v := nI (8 * m + 3)) (nI_add _ _) dl_618 ?_
      refine l_ld (e := 8 * m + 3) hN (by omega) (by omega) dl_619 ?_
      obtain ⟨v, M2, T2, cs2, io2, sg2, hc, hr, hI2, hb1, hb2⟩ := (Stp_N (st_terms (xs (8 * m + 1)) (xs (8 * m + 2)) (xs (8 * m + 3)))) L xs M T cs io sg hI (by omega)
      have hI2m := (IV_0 hI2).2
      obtain ⟨x, rfl⟩ := ev_int hc (by decide +kernel)
      have hN2 := IV_9 (io2 := io) (sg2 := sg) hI2
      refine h_callv (t := cT e0 0) (as := [.int (xs (8 * m + 1)), .int (xs (8 * m + 2)), .int (xs (8 * m + 3))]) (rest := []) (v := .int x) (M1 := hk (rf_mk M2 io sg) T2 cs2) rfl rfl lv_51 (Or.inl rfl) ln_90 hT0 ⟨by show 0 < M.1; omega, by decide⟩ (show (0 : Nat) < 14 by decide) oo_90 rfl (show (0 : Nat) ≤ 8 by decide) dl_620 hc ?_
      refine r_aload_n rfl dl_623 ?_
      refine r_aload_n rfl dl_624 ?_
      refine r_iload_n rfl dl_625 ?_
      refine r_iconst (v := nI 1) (by decide) dl_626 ?_
      refine r_iadd (v := nI (8 * m + 1)) (nI_add _ _) dl_627 ?_
      refine l_ld (e := 8 * m + 1) hN2 (by omega) (by omega) dl_628 ?_
      refine r_aload_n rfl dl_629 ?_
      refine r_iload_n rfl dl_630 ?_
      refine r_iconst (v := nI 2) (by decide) dl_631 ?_
      refine r_iadd (v := nI (8 * m + 2)) (nI_add _ _) dl_632 ?_
      refine l_ld (e := 8 * m + 2) hN2 (by omega) (by omega) dl_633 ?_
      refine r_aload_n rfl dl_634 ?_
      refine r_iload_n rfl dl_635 ?_
      refine r_iconst (v := nI 3) (by decide) dl_636 ?_
      refine r_iadd (v := nI (8 * m + 3)) (nI_add _ _) dl_637 ?_
      refine l_ld (e := 8 * m + 3) hN2 (by omega) (by omega) dl_638 ?_
      refine l_callr (as := [.int (xs (8 * m + 1)), .int (xs (8 * m + 2)), .int (xs (8 * m + 3))]) (rest := [.int x]) (v := .int x) (M1 := hk (rf_mk M2 io2 sg2) T2 cs2) lv_54 ln_214 (l_rc 214 oo_214 hI2m _) rfl (show (1 : Nat) ≤ 8 by decide) dl_639 hr ?_
      refine r_iceq (t := 1443) (by decide) dl_642 (fun _ => ?_) (fun c => absurd rfl c)
      refine r_iinc (n := 3) (k := 8) (x := nI (8 * m)) (v := nI (8 * m + 8)) (ls' := [(3, .int (nI (8 * m + 8))), (2, .ref 100), (1, .ref 0), (0, .ref 1000009)]) rfl (nI_add _ 8) (by decide) rfl dl_1443 ?_
      refine r_goto (t := 18) (by decide) dl_1446 ?_
      exact ih_m M2 T2 cs2 io2 sg2 hI2 (b_st1 h1 hb1) (b_st2 h2 hb2)
    · refine r_swIn (off := 614) (t := 647) (by decide +kernel) (by decide +kernel) (by decide +kernel) (by decide) dl_33 ?_
      refine r_aload_n rfl dl_647 ?_
      refine r_aload_n rfl dl_648 ?_
      refine r_iload_n rfl dl_649 ?_
      refine r_iconst (v := nI 1) (by decide) dl_650 ?_
      refine r_iadd (v := nI (8 * m + 1)) (nI_add _ _) dl_651 ?_
      refine l_ld (e := 8 * m + 1) hN (by omega) (by omega) dl_652 ?_
      refine r_aload_n rfl dl_653 ?_
      refine r_iload_n rfl dl_654 ?_
      refine r_iconst (v := nI 2) (by decide) dl_655 ?_
      refine r_iadd (v := nI (8 * m + 2)) (nI_add _ _) dl_656 ?_
      refine l_ld (e := 8 * m + 2) hN (by omega) (by omega) dl_657 ?_
      refine r_aload_n rfl dl_658 ?_
      refine r_iload_n rfl dl_659 ?_
      refine r_iconst (v := nI 3) (by decide) dl_660 ?_
      refine r_iadd (v := nI (8 * m + 3)) (nI_add _ _) dl_661 ?_
      refine l_ld (e := 8 * m + 3) hN (by omega) (by omega) dl_662 ?_
      refine r_aload_n rfl dl_663 ?_
      refine r_iload_n rfl dl_664 ?_
      refine r_iconst (v := nI 4) (by decide) dl_665 ?_
      refine r_iadd (v := nI (8 * m + 4)) (nI_add _ _) dl_666 ?_
      refine l_ld (e := 8 * m + 4) hN (by omega) (by omega) dl_667 ?_
      refine r_aload_n rfl dl_668 ?_
      refine r_iload_n rfl dl_669 ?_
      refine r_iconst (v := nI 5) (by decide) dl_670 ?_
      refine r_iadd (v := nI (8 * m + 5)) (nI_add _ _) dl_671 ?_
      refine l_ld (e := 8 * m + 5) hN (by omega) (by omega) dl_672 ?_
      obtain ⟨v, M2, T2, cs2, io2, sg2, hc, hr, hI2, hb1, hb2⟩ := (StpA_G (st_student (xs (8 * m + 1)) (xs (8 * m + 2)) (xs (8 * m + 3)) (xs (8 * m + 4)) (xs (8 * m + 5)))) L xs M T cs io sg hI (by omega)
      have hI2m := (IV_0 hI2).2
      obtain ⟨x, rfl⟩ := ev_int hc (by decide +kernel)
      have hN2 := IV_9 (io2 := io) (sg2 := sg) hI2
      refine h_callv (t := cT e0 0) (as := [.int (xs (8 * m + 1)), .int (xs (8 * m + 2)), .int (xs (8 * m + 3)), .int (xs (8 * m + 4)), .int (xs (8 * m + 5))]) (rest := []) (v := .int x) (M1 := hk (rf_mk M2 io sg) T2 cs2) rfl rfl lv_55 (Or.inl rfl) ln_99 hT0 ⟨by show 0 < M.1; omega, by decide⟩ (show (0 : Nat) < 14 by decide) oo_99 rfl (show (0 : Nat) ≤ 8 by decide) dl_673 hc ?_
      refine r_aload_n rfl dl_676 ?_
      refine r_aload_n rfl dl_677 ?_
      refine r_iload_n rfl dl_678 ?_
      refine r_iconst (v := nI 1) (by decide) dl_679 ?_
      refine r_iadd (v := nI (8 * m + 1)) (nI_add _ _) dl_680 ?_
      refine l_ld (e := 8 * m + 1) hN2 (by omega) (by omega) dl_681 ?_
      refine r_aload_n rfl dl_682 ?_
      refine r_iload_n rfl dl_683 ?_
      refine r_iconst (v := nI 2) (by decide) dl_684 ?_
      refine r_iadd (v := nI (8 * m + 2)) (nI_add _ _) dl_685 ?_
      refine l_ld (e := 8 * m + 2) hN2 (by omega) (by omega) dl_686 ?_
      refine r_aload_n rfl dl_687 ?_
      refine r_iload_n rfl dl_688 ?_
      refine r_iconst (v := nI 3) (by decide) dl_689 ?_
      refine r_iadd (v := nI (8 * m + 3)) (nI_add _ _) dl_690 ?_
      refine l_ld (e := 8 * m + 3) hN2 (by omega) (by omega) dl_691 ?_
      refine r_aload_n rfl dl_692 ?_
      refine r_iload_n rfl dl_693 ?_
      refine r_iconst (v := nI 4) (by decide) dl_694 ?_
      refine r_iadd (v := nI (8 * m + 4)) (nI_add _ _) dl_695 ?_
      refine l_ld (e := 8 * m + 4) hN2 (by omega) (by omega) dl_696 ?_
      refine r_aload_n rfl dl_697 ?_
      refine r_iload_n rfl dl_698 ?_
      refine r_iconst (v := nI 5) (by decide) dl_699 ?_
      refine r_iadd (v := nI (8 * m + 5)) (nI_add _ _) dl_700 ?_
      refine l_ld (e := 8 * m + 5) hN2 (by omega) (by omega) dl_701 ?_
      refine l_callr (as := [.int (xs (8 * m + 1)), .int (xs (8 * m + 2)), .int (xs (8 * m + 3)), .int (xs (8 * m + 4)), .int (xs (8 * m + 5))]) (rest := [.int x]) (v := .int x) (M1 := hk (rf_mk M2 io2 sg2) T2 cs2) lv_58 ln_220 (l_rc 220 oo_220 hI2m _) rfl (show (1 : Nat) ≤ 8 by decide) dl_702 hr ?_
      refine r_iceq (t := 1443) (by decide) dl_705 (fun _ => ?_) (fun c => absurd rfl c)
      refine r_iinc (n := 3) (k := 8) (x := nI (8 * m)) (v := nI (8 * m + 8)) (ls' := [(3, .int (nI (8 * m + 8))), (2, .ref 100), (1, .ref 0), (0, .ref 1000009)]) rfl (nI_add _ 8) (by decide) rfl dl_1443 ?_
      refine r_goto (t := 18) (by decide) dl_1446 ?_
      exact ih_m M2 T2 cs2 io2 sg2 hI2 (b_st1 h1 hb1) (b_st2 h2 hb2)
    · refine r_swIn (off := 677) (t := 710) (by decide +kernel) (by decide +kernel) (by decide +kernel) (by decide) dl_33 ?_
      refine r_aload_n rfl dl_710 ?_
      refine r_aload_n rfl dl_711 ?_
      refine r_iload_n rfl dl_712 ?_
      refine r_iconst (v := nI 1) (by decide) dl_713 ?_
      refine r_iadd (v := nI (8 * m + 1)) (nI_add _ _) dl_714 ?_
      refine l_ld (e := 8 * m + 1) hN (by omega) (by omega) dl_715 ?_
      refine r_aload_n rfl dl_716 ?_
      refine r_iload_n rfl dl_717 ?_
      refine r_iconst (v := nI 2) (by decide) dl_718 ?_
      refine r_iadd (v := nI (8 * m + 2)) (nI_add _ _) dl_719 ?_
      refine l_ld (e := 8 * m + 2) hN (by omega) (by omega) dl_720 ?_
      refine r_aload_n rfl dl_721 ?_
      refine r_iload_n rfl dl_722 ?_
      refine r_iconst (v := nI 3) (by decide) dl_723 ?_
      refine r_iadd (v := nI (8 * m + 3)) (nI_add _ _) dl_724 ?_
      refine l_ld (e := 8 * m + 3) hN (by omega) (by omega) dl_725 ?_
      obtain ⟨v, M2, T2, cs2, io2, sg2, hc, hr, hI2, hb1, hb2⟩ := (Stp_N (st_level (xs (8 * m + 1)) (xs (8 * m + 2)) (xs (8 * m + 3)))) L xs M T cs io sg hI (by omega)
      have hI2m := (IV_0 hI2).2
      obtain ⟨x, rfl⟩ := ev_int hc (by decide +kernel)
      have hN2 := IV_9 (io2 := io) (sg2 := sg) hI2
      refine h_callv (t := cT e0 0) (as := [.int (xs (8 * m + 1)), .int (xs (8 * m + 2)), .int (xs (8 * m + 3))]) (rest := []) (v := .int x) (M1 := hk (rf_mk M2 io sg) T2 cs2) rfl rfl lv_59 (Or.inl rfl) ln_101 hT0 ⟨by show 0 < M.1; omega, by decide⟩ (show (0 : Nat) < 14 by decide) oo_101 rfl (show (0 : Nat) ≤ 8 by decide) dl_726 hc ?_
      refine r_aload_n rfl dl_729 ?_
      refine r_aload_n rfl dl_730 ?_
      refine r_iload_n rfl dl_731 ?_
      refine r_iconst (v := nI 1) (by decide) dl_732 ?_
      refine r_iadd (v := nI (8 * m + 1)) (nI_add _ _) dl_733 ?_
      refine l_ld (e := 8 * m + 1) hN2 (by omega) (by omega) dl_734 ?_
      refine r_aload_n rfl dl_735 ?_
      refine r_iload_n rfl dl_736 ?_
      refine r_iconst (v := nI 2) (by decide) dl_737 ?_
      refine r_iadd (v := nI (8 * m + 2)) (nI_add _ _) dl_738 ?_
      refine l_ld (e := 8 * m + 2) hN2 (by omega) (by omega) dl_739 ?_
      refine r_aload_n rfl dl_740 ?_
      refine r_iload_n rfl dl_741 ?_
      refine r_iconst (v := nI 3) (by decide) dl_742 ?_
      refine r_iadd (v := nI (8 * m + 3)) (nI_add _ _) dl_743 ?_
      refine l_ld (e := 8 * m + 3) hN2 (by omega) (by omega) dl_744 ?_
      refine l_callr (as := [.int (xs (8 * m + 1)), .int (xs (8 * m + 2)), .int (xs (8 * m + 3))]) (rest := [.int x]) (v := .int x) (M1 := hk (rf_mk M2 io2 sg2) T2 cs2) lv_62 ln_221 (l_rc 221 oo_221 hI2m _) rfl (show (1 : Nat) ≤ 8 by decide) dl_745 hr ?_
      refine r_iceq (t := 1443) (by decide) dl_748 (fun _ => ?_) (fun c => absurd rfl c)
      refine r_iinc (n := 3) (k := 8) (x := nI (8 * m)) (v := nI (8 * m + 8)) (ls' := [(3, .int (nI (8 * m + 8))), (2, .ref 100), (1, .ref 0), (0, .ref 1000009)]) rfl (nI_add _ 8) (by decide) rfl dl_1443 ?_
      refine r_goto (t := 18) (by decide) dl_1446 ?_
      exact ih_m M2 T2 cs2 io2 sg2 hI2 (b_st1 h1 hb1) (b_st2 h2 hb2)
    · refine r_swIn (off := 720) (t := 753) (by decide +kernel) (by decide +kernel) (by decide +kernel) (by decide) dl_33 ?_
      refine r_aload_n rfl dl_753 ?_
      refine r_aload_n rfl dl_754 ?_
      refine r_iload_n rfl dl_755 ?_
      refine r_iconst (v := nI 1) (by decide) dl_756 ?_
      refine r_iadd (v := nI (8 * m + 1)) (nI_add _ _) dl_757 ?_
      refine l_ld (e := 8 * m + 1) hN (by omega) (by omega) dl_758 ?_
      refine r_aload_n rfl dl_759 ?_
      refine r_iload_n rfl dl_760 ?_
      refine r_iconst (v := nI 2) (by decide) dl_761 ?_
      refine r_iadd (v := nI (8 * m + 2)) (nI_add _ _) dl_762 ?_
      refine l_ld (e := 8 * m + 2) hN (by omega) (by omega) dl_763 ?_
      obtain ⟨v, M2, T2, cs2, io2, sg2, hc, hr, hI2, hb1, hb2⟩ := (Stp_N (st_wish (xs (8 * m + 1)) (xs (8 * m + 2)))) L xs M T cs io sg hI (by omega)
      have hI2m := (IV_0 hI2).2
      obtain ⟨x, rfl⟩ := ev_int hc (by decide +kernel)
      have hN2 := IV_9 (io2 := io) (sg2 := sg) hI2
      refine h_callv (t := cT e0 0) (as := [.int (xs (8 * m + 1)), .int (xs (8 * m + 2))]) (rest := []) (v := .int x) (M1 := hk (rf_mk M2 io sg) T2 cs2) rfl rfl lv_63 (Or.inl rfl) ln_103 hT0 ⟨by show 0 < M.1; omega, by decide⟩ (show (0 : Nat) < 14 by decide) oo_103 rfl (show (0 : Nat) ≤ 8 by decide) dl_764 hc ?_
      refine r_aload_n rfl dl_767 ?_
      refine r_aload_n rfl dl_768 ?_
      refine r_iload_n rfl dl_769 ?_
      refine r_iconst (v := nI 1) (by decide) dl_770 ?_
      refine r_iadd (v := nI (8 * m + 1)) (nI_add _ _) dl_771 ?_
      refine l_ld (e := 8 * m + 1) hN2 (by omega) (by omega) dl_772 ?_
      refine r_aload_n rfl dl_773 ?_
      refine r_iload_n rfl dl_774 ?_
      refine r_iconst (v := nI 2) (by decide) dl_775 ?_
      refine r_iadd (v := nI (8 * m + 2)) (nI_add _ _) dl_776 ?_
      refine l_ld (e := 8 * m + 2) hN2 (by omega) (by omega) dl_777 ?_
      refine l_callr (as := [.int (xs (8 * m + 1)), .int (xs (8 * m + 2))]) (rest := [.int x]) (v := .int x) (M1 := hk (rf_mk M2 io2 sg2) T2 cs2) lv_66 ln_223 (l_rc 223 oo_223 hI2m _) rfl (show (1 : Nat) ≤ 8 by decide) dl_778 hr ?_
      refine r_iceq (t := 1443) (by decide) dl_781 (fun _ => ?_) (fun c => absurd rfl c)
      refine r_iinc (n := 3) (k := 8) (x := nI (8 * m)) (v := nI (8 * m + 8)) (ls' := [(3, .int (nI (8 * m + 8))), (2, .ref 100), (1, .ref 0), (0, .ref 1000009)]) rfl (nI_add _ 8) (by decide) rfl dl_1443 ?_
      refine r_goto (t := 18) (by decide) dl_1446 ?_
      exact ih_m M2 T2 cs2 io2 sg2 hI2 (b_st1 h1 hb1) (b_st2 h2 hb2)
    · refine r_swIn (off := 753) (t := 786) (by decide +kernel) (by decide +kernel) (by decide +kernel) (by decide) dl_33 ?_
      refine r_aload_n rfl dl_786 ?_
      refine r_aload_n rfl dl_787 ?_
      refine r_iload_n rfl dl_788 ?_
      refine r_iconst (v := nI 1) (by decide) dl_789 ?_
      refine r_iadd (v := nI (8 * m + 1)) (nI_add _ _) dl_790 ?_
      refine l_ld (e := 8 * m + 1) hN (by omega) (by omega) dl_791 ?_
      refine r_aload_n rfl dl_792 ?_
      refine r_iload_n rfl dl_793 ?_
      refine r_iconst (v := nI 2) (by decide) dl_794 ?_
      refine r_iadd (v := nI (8 * m + 2)) (nI_add _ _) dl_795 ?_
      refine l_ld (e := 8 * m + 2) hN (by omega) (by omega) dl_796 ?_
      obtain ⟨v, M2, T2, cs2, io2, sg2, hc, hr, hI2, hb1, hb2⟩ := (Stp_N (st_may (xs (8 * m + 1)) (xs (8 * m + 2)))) L xs M T cs io sg hI (by omega)
      have hI2m := (IV_0 hI2).2
      obtain ⟨x, rfl⟩ := ev_int hc (by decide +kernel)
      have hN2 := IV_9 (io2 := io) (sg2 := sg) hI2
      refine h_callv (t := cT e0 0) (as := [.int (xs (8 * m + 1)), .int (xs (8 * m + 2))]) (rest := []) (v := .int x) (M1 := hk (rf_mk M2 io sg) T2 cs2) rfl rfl lv_67 (Or.inl rfl) ln_106 hT0 ⟨by show 0 < M.1; omega, by decide⟩ (show (0 : Nat) < 14 by decide) oo_106 rfl (show (0 : Nat) ≤ 8 by decide) dl_797 hc ?_
      refine r_aload_n rfl dl_800 ?_
      refine r_aload_n rfl dl_801 ?_
      refine r_iload_n rfl dl_802 ?_
      refine r_iconst (v := nI 1) (by decide) dl_803 ?_
      refine r_iadd (v := nI (8 * m + 1)) (nI_add _ _) dl_804 ?_
      refine l_ld (e := 8 * m + 1) hN2 (by omega) (by omega) dl_805 ?_
      refine r_aload_n rfl dl_806 ?_
      refine r_iload_n rfl dl_807 ?_
      refine r_iconst (v := nI 2) (by decide) dl_808 ?_
      refine r_iadd (v := nI (8 * m + 2)) (nI_add _ _) dl_809 ?_
      refine l_ld (e := 8 * m + 2) hN2 (by omega) (by omega) dl_810 ?_
      refine l_callr (as := [.int (xs (8 * m + 1)), .int (xs (8 * m + 2))]) (rest := [.int x]) (v := .int x) (M1 := hk (rf_mk M2 io2 sg2) T2 cs2) lv_71 ln_225 (l_rc 225 oo_225 hI2m _) rfl (show (1 : Nat) ≤ 8 by decide) dl_811 hr ?_
      refine r_iceq (t := 1443) (by decide) dl_814 (fun _ => ?_) (fun c => absurd rfl c)
      refine r_iinc (n := 3) (k := 8) (x := nI (8 * m)) (v := nI (8 * m + 8)) (ls' := [(3, .int (nI (8 * m + 8))), (2, .ref 100), (1, .ref 0), (0, .ref 1000009)]) rfl (nI_add _ 8) (by decide) rfl dl_1443 ?_
      refine r_goto (t := 18) (by decide) dl_1446 ?_
      exact ih_m M2 T2 cs2 io2 sg2 hI2 (b_st1 h1 hb1) (b_st2 h2 hb2)
    · refine r_swIn (off := 786) (t := 819) (by decide +kernel) (by decide +kernel) (by decide +kernel) (by decide) dl_33 ?_
      refine r_aload_n rfl dl_819 ?_
      obtain ⟨v, M2, T2, cs2, io2, sg2, hc, hr, hI2, hb1, hb2⟩ := (Stp_N st_round) L xs M T cs io sg hI (by omega)
      have hI2m := (IV_0 hI2).2
      obtain ⟨x, rfl⟩ := ev_int hc (by decide +kernel)
      have hN2 := IV_9 (io2 := io) (sg2 := sg) hI2
      refine h_callv (t := cT e0 0) (as := []) (rest := []) (v := .int x) (M1 := hk (rf_mk M2 io sg) T2 cs2) rfl rfl lv_72 (Or.inl rfl) ln_110 hT0 ⟨by show 0 < M.1; omega, by decide⟩ (show (0 : Nat) < 14 by decide) oo_110 rfl (show (0 : Nat) ≤ 8 by decide) dl_820 hc ?_
      refine r_aload_n rfl dl_823 ?_
      refine l_callr (as := []) (rest := [.int x]) (v := .int x) (M1 := hk (rf_mk M2 io2 sg2) T2 cs2) lv_76 ln_235 (l_rc 235 oo_235 hI2m _) rfl (show (1 : Nat) ≤ 8 by decide) dl_824 hr ?_
      refine r_iceq (t := 1443) (by decide) dl_827 (fun _ => ?_) (fun c => absurd rfl c)
      refine r_iinc (n := 3) (k := 8) (x := nI (8 * m)) (v := nI (8 * m + 8)) (ls' := [(3, .int (nI (8 * m + 8))), (2, .ref 100), (1, .ref 0), (0, .ref 1000009)]) rfl (nI_add _ 8) (by decide) rfl dl_1443 ?_
      refine r_goto (t := 18) (by decide) dl_1446 ?_
      exact ih_m M2 T2 cs2 io2 sg2 hI2 (b_st1 h1 hb1) (b_st2 h2 hb2)
    · refine r_swIn (off := 799) (t := 832) (by decide +kernel) (by decide +kernel) (by decide +kernel) (by decide) dl_33 ?_
      refine r_aload_n rfl dl_832 ?_
      refine r_aload_n rfl dl_833 ?_
      refine r_iload_n rfl dl_834 ?_
      refine r_iconst (v := nI 1) (by decide) dl_835 ?_
      refine r_iadd (v := nI (8 * m + 1)) (nI_add _ _) dl_836 ?_
      refine l_ld (e := 8 * m + 1) hN (by omega) (by omega) dl_837 ?_
      obtain ⟨v, M2, T2, cs2, io2, sg2, hc, hr, hI2, hb1, hb2⟩ := (Stp_N (st_out (xs (8 * m + 1)))) L xs M T cs io sg hI (by omega)
      have hI2m := (IV_0 hI2).2
      obtain ⟨x, rfl⟩ := ev_int hc (by decide +kernel)
      have hN2 := IV_9 (io2 := io) (sg2 := sg) hI2
      refine h_callv (t := cT e0 0) (as := [.int (xs (8 * m + 1))]) (rest := []) (v := .int x) (M1 := hk (rf_mk M2 io sg) T2 cs2) rfl rfl lv_77 (Or.inl rfl) ln_140 hT0 ⟨by show 0 < M.1; omega, by decide⟩ (show (0 : Nat) < 14 by decide) oo_140 rfl (show (0 : Nat) ≤ 8 by decide) dl_838 hc ?_
      refine r_aload_n rfl dl_841 ?_
      refine r_aload_n rfl dl_842 ?_
      refine r_iload_n rfl dl_843 ?_
      refine r_iconst (v := nI 1) (by decide) dl_844 ?_
      refine r_iadd (v := nI (8 * m + 1)) (nI_add _ _) dl_845 ?_
      refine l_ld (e := 8 * m + 1) hN2 (by omega) (by omega) dl_846 ?_
      refine l_callr (as := [.int (xs (8 * m + 1))]) (rest := [.int x]) (v := .int x) (M1 := hk (rf_mk M2 io2 sg2) T2 cs2) lv_81 ln_247 (l_rc 247 oo_247 hI2m _) rfl (show (1 : Nat) ≤ 8 by decide) dl_847 hr ?_
      refine r_iceq (t := 1443) (by decide) dl_850 (fun _ => ?_) (fun c => absurd rfl c)
      refine r_iinc (n := 3) (k := 8) (x := nI (8 * m)) (v := nI (8 * m + 8)) (ls' := [(3, .int (nI (8 * m + 8))), (2, .ref 100), (1, .ref 0), (0, .ref 1000009)]) rfl (nI_add _ 8) (by decide) rfl dl_1443 ?_
      refine r_goto (t := 18) (by decide) dl_1446 ?_
      exact ih_m M2 T2 cs2 io2 sg2 hI2 (b_st1 h1 hb1) (b_st2 h2 hb2)
    · refine r_swIn (off := 822) (t := 855) (by decide +kernel) (by decide +kernel) (by decide +kernel) (by decide) dl_33 ?_
      refine r_aload_n rfl dl_855 ?_
      obtain ⟨v, M2, T2, cs2, io2, sg2, hc, hr, hI2, hb1, hb2⟩ := (Stp_N st_mend) L xs M T cs io sg hI (by omega)
      have hI2m := (IV_0 hI2).2
      obtain ⟨x, rfl⟩ := ev_int hc (by decide +kernel)
      have hN2 := IV_9 (io2 := io) (sg2 := sg) hI2
      refine h_callv (t := cT e0 0) (as := []) (rest := []) (v := .int x) (M1 := hk (rf_mk M2 io sg) T2 cs2) rfl rfl lv_82 (Or.inl rfl) ln_141 hT0 ⟨by show 0 < M.1; omega, by decide⟩ (show (0 : Nat) < 14 by decide) oo_141 rfl (show (0 : Nat) ≤ 8 by decide) dl_856 hc ?_
      refine r_aload_n rfl dl_859 ?_
      refine l_callr (as := []) (rest := [.int x]) (v := .int x) (M1 := hk (rf_mk M2 io2 sg2) T2 cs2) lv_85 ln_246 (l_rc 246 oo_246 hI2m _) rfl (show (1 : Nat) ≤ 8 by decide) dl_860 hr ?_
      refine r_iceq (t := 1443) (by decide) dl_863 (fun _ => ?_) (fun c => absurd rfl c)
      refine r_iinc (n := 3) (k := 8) (x := nI (8 * m)) (v := nI (8 * m + 8)) (ls' := [(3, .int (nI (8 * m + 8))), (2, .ref 100), (1, .ref 0), (0, .ref 1000009)]) rfl (nI_add _ 8) (by decide) rfl dl_1443 ?_
      refine r_goto (t := 18) (by decide) dl_1446 ?_
      exact ih_m M2 T2 cs2 io2 sg2 hI2 (b_st1 h1 hb1) (b_st2 h2 hb2)
    · refine r_swIn (off := 835) (t := 868) (by decide +kernel) (by decide +kernel) (by decide +kernel) (by decide) dl_33 ?_
      refine r_aload_n rfl dl_868 ?_
      obtain ⟨v, M2, T2, cs2, io2, sg2, hc, hr, hI2, hb1, hb2⟩ := (Stp_N st_kept) L xs M T cs io sg hI (by omega)
      have hI2m := (IV_0 hI2).2
      obtain ⟨x, rfl⟩ := ev_int hc (by decide +kernel)
      have hN2 := IV_9 (io2 := io) (sg2 := sg) hI2
      refine h_callv (t := cT e0 0) (as := []) (rest := []) (v := .int x) (M1 := hk (rf_mk M2 io sg) T2 cs2) rfl rfl lv_86 (Or.inl rfl) ln_142 hT0 ⟨by show 0 < M.1; omega, by decide⟩ (show (0 : Nat) < 14 by decide) oo_142 rfl (show (0 : Nat) ≤ 8 by decide) dl_869 hc ?_
      refine r_aload_n rfl dl_872 ?_
      refine l_callr (as := []) (rest := [.int x]) (v := .int x) (M1 := hk (rf_mk M2 io2 sg2) T2 cs2) lv_89 ln_229 (l_rc 229 oo_229 hI2m _) rfl (show (1 : Nat) ≤ 8 by decide) dl_873 hr ?_
      refine r_iceq (t := 1443) (by decide) dl_876 (fun _ => ?_) (fun c => absurd rfl c)
      refine r_iinc (n := 3) (k := 8) (x := nI (8 * m)) (v := nI (8 * m + 8)) (ls' := [(3, .int (nI (8 * m + 8))), (2, .ref 100), (1, .ref 0), (0, .ref 1000009)]) rfl (nI_add _ 8) (by decide) rfl dl_1443 ?_
      refine r_goto (t := 18) (by decide) dl_1446 ?_
      exact ih_m M2 T2 cs2 io2 sg2 hI2 (b_st1 h1 hb1) (b_st2 h2 hb2)
    · refine r_swIn (off := 848) (t := 881) (by decide +kernel) (by decide +kernel) (by decide +kernel) (by decide) dl_33 ?_
      refine r_aload_n rfl dl_881 ?_
      refine r_aload_n rfl dl_882 ?_
      refine r_iload_n rfl dl_883 ?_
      refine r_iconst (v := nI 1) (by decide) dl_884 ?_
      refine r_iadd (v := nI (8 * m + 1)) (nI_add _ _) dl_885 ?_
      refine l_ld (e := 8 * m + 1) hN (by omega) (by omega) dl_886 ?_
      obtain ⟨v, M2, T2, cs2, io2, sg2, hc, hr, hI2, hb1, hb2⟩ := (Stp_N (st_balance (xs (8 * m + 1)))) L xs M T cs io sg hI (by omega)
      have hI2m := (IV_0 hI2).2
      obtain ⟨x, rfl⟩ := ev_int hc (by decide +kernel)
      have hN2 := IV_9 (io2 := io) (sg2 := sg) hI2
      refine h_callv (t := cT e0 0) (as := [.int (xs (8 * m + 1))]) (rest := []) (v := .int x) (M1 := hk (rf_mk M2 io sg) T2 cs2) rfl rfl lv_90 (Or.inl rfl) ln_143 hT0 ⟨by show 0 < M.1; omega, by decide⟩ (show (0 : Nat) < 14 by decide) oo_143 rfl (show (0 : Nat) ≤ 8 by decide) dl_887 hc ?_
      refine r_aload_n rfl dl_890 ?_
      refine r_aload_n rfl dl_891 ?_
      refine r_iload_n rfl dl_892 ?_
      refine r_iconst (v := nI 1) (by decide) dl_893 ?_
      refine r_iadd (v := nI (8 * m + 1)) (nI_add _ _) dl_894 ?_
      refine l_ld (e := 8 * m + 1) hN2 (by omega) (by omega) dl_895 ?_
      refine l_callr (as := [.int (xs (8 * m + 1))]) (rest := [.int x]) (v := .int x) (M1 := hk (rf_mk M2 io2 sg2) T2 cs2) lv_94 ln_234 (l_rc 234 oo_234 hI2m _) rfl (show (1 : Nat) ≤ 8 by decide) dl_896 hr ?_
      refine r_iceq (t := 1443) (by decide) dl_899 (fun _ => ?_) (fun c => absurd rfl c)
      refine r_iinc (n := 3) (k := 8) (x := nI (8 * m)) (v := nI (8 * m + 8)) (ls' := [(3, .int (nI (8 * m + 8))), (2, .ref 100), (1, .ref 0), (0, .ref 1000009)]) rfl (nI_add _ 8) (by decide) rfl dl_1443 ?_
      refine r_goto (t := 18) (by decide) dl_1446 ?_
      exact ih_m M2 T2 cs2 io2 sg2 hI2 (b_st1 h1 hb1) (b_st2 h2 hb2)
    · refine r_swIn (off := 871) (t := 904) (by decide +kernel) (by decide +kernel) (by decide +kernel) (by decide) dl_33 ?_
      refine r_aload_n rfl dl_904 ?_
      refine r_aload_n rfl dl_905 ?_
      refine r_iload_n rfl dl_906 ?_
      refine r_iconst (v := nI 1) (by decide) dl_907 ?_
      refine r_iadd (v := nI (8 * m + 1)) (nI_add _ _) dl_908 ?_
      refine l_ld (e := 8 * m + 1) hN (by omega) (by omega) dl_909 ?_
      refine r_aload_n rfl dl_910 ?_
      refine r_iload_n rfl dl_911 ?_
      refine r_iconst (v := nI 2) (by decide) dl_912 ?_
      refine r_iadd (v := nI (8 * m + 2)) (nI_add _ _) dl_913 ?_
      refine l_ld (e := 8 * m + 2) hN (by omega) (by omega) dl_914 ?_
      refine r_aload_n rfl dl_915 ?_
      refine r_iload_n rfl dl_916 ?_
      refine r_iconst (v := nI 3) (by decide) dl_917 ?_
      refine r_iadd (v := nI (8 * m + 3)) (nI_add _ _) dl_918 ?_
      refine l_ld (e := 8 * m + 3) hN (by omega) (by omega) dl_919 ?_
      refine r_aload_n rfl dl_920 ?_
      refine r_iload_n rfl dl_921 ?_
      refine r_iconst (v := nI 4) (by decide) dl_922 ?_
      refine r_iadd (v := nI (8 * m + 4)) (nI_add _ _) dl_923 ?_
      refine l_ld (e := 8 * m + 4) hN (by omega) (by omega) dl_924 ?_
      refine r_aload_n rfl dl_925 ?_
      refine r_iload_n rfl dl_926 ?_
      refine r_iconst (v := nI 5) (by decide) dl_927 ?_
      refine r_iadd (v := nI (8 * m + 5)) (nI_add _ _) dl_928 ?_
      refine l_ld (e := 8 * m + 5) hN (by omega) (by omega) dl_929 ?_
      obtain ⟨v, M2, T2, cs2, io2, sg2, hc, hr, hI2, hb1, hb2⟩ := (StpA_G (st_course (xs (8 * m + 1)) (xs (8 * m + 2)) (xs (8 * m + 3)) (xs (8 * m + 4)) (xs (8 * m + 5)))) L xs M T cs io sg hI (by omega)
      have hI2m := (IV_0 hI2).2
      obtain ⟨x, rfl⟩ := ev_int hc (by decide +kernel)
      have hN2 := IV_9 (io2 := io) (sg2 := sg) hI2
      refine h_callv (t := cT e0 0) (as := [.int (xs (8 * m + 1)), .int (xs (8 * m + 2)), .int (xs (8 * m + 3)), .int (xs (8 * m + 4)), .int (xs (8 * m + 5))]) (rest := []) (v := .int x) (M1 := hk (rf_mk M2 io sg) T2 cs2) rfl rfl lv_95 (Or.inl rfl) ln_145 hT0 ⟨by show 0 < M.1; omega, by decide⟩ (show (0 : Nat) < 14 by decide) oo_145 rfl (show (0 : Nat) ≤ 8 by decide) dl_930 hc ?_
      refine r_aload_n rfl dl_933 ?_
      refine r_aload_n rfl dl_934 ?_
      refine r_iload_n rfl dl_935 ?_
      refine r_iconst (v := nI 1) (by decide) dl_936 ?_
      refine r_iadd (v := nI (8 * m + 1)) (nI_add _ _) dl_937 ?_
      refine l_ld (e := 8 * m + 1) hN2 (by omega) (by omega) dl_938 ?_
      refine r_aload_n rfl dl_939 ?_
      refine r_iload_n rfl dl_940 ?_
      refine r_iconst (v := nI 2) (by decide) dl_941 ?_
      refine r_iadd (v := nI (8 * m + 2)) (nI_add _ _) dl_942 ?_
      refine l_ld (e := 8 * m + 2) hN2 (by omega) (by omega) dl_943 ?_
      refine r_aload_n rfl dl_944 ?_
      refine r_iload_n rfl dl_945 ?_
      refine r_iconst (v := nI 3) (by decide) dl_946 ?_
      refine r_iadd (v := nI (8 * m + 3)) (nI_add _ _) dl_947 ?_
      refine l_ld (e := 8 * m + 3) hN2 (by omega) (by omega) dl_948 ?_
      refine r_aload_n rfl dl_949 ?_
      refine r_iload_n rfl dl_950 ?_
      refine r_iconst (v := nI 4) (by decide) dl_951 ?_
      refine r_iadd (v := nI (8 * m + 4)) (nI_add _ _) dl_952 ?_
      refine l_ld (e := 8 * m + 4) hN2 (by omega) (by omega) dl_953 ?_
      refine r_aload_n rfl dl_954 ?_
      refine r_iload_n rfl dl_955 ?_
      refine r_iconst (v := nI 5) (by decide) dl_956 ?_
      refine r_iadd (v := nI (8 * m + 5)) (nI_add _ _) dl_957 ?_
      refine l_ld (e := 8 * m + 5) hN2 (by omega) (by omega) dl_958 ?_
      refine l_callr (as := [.int (xs (8 * m + 1)), .int (xs (8 * m + 2)), .int (xs (8 * m + 3)), .int (xs (8 * m + 4)), .int (xs (8 * m + 5))]) (rest := [.int x]) (v := .int x) (M1 := hk (rf_mk M2 io2 sg2) T2 cs2) lv_98 ln_248 (l_rc 248 oo_248 hI2m _) rfl (show (1 : Nat) ≤ 8 by decide) dl_959 hr ?_
      refine r_iceq (t := 1443) (by decide) dl_962 (fun _ => ?_) (fun c => absurd rfl c)
      refine r_iinc (n := 3) (k := 8) (x := nI (8 * m)) (v := nI (8 * m + 8)) (ls' := [(3, .int (nI (8 * m + 8))), (2, .ref 100), (1, .ref 0), (0, .ref 1000009)]) rfl (nI_add _ 8) (by decide) rfl dl_1443 ?_
      refine r_goto (t := 18) (by decide) dl_1446 ?_
      exact ih_m M2 T2 cs2 io2 sg2 hI2 (b_st1 h1 hb1) (b_st2 h2 hb2)
    · refine r_swIn (off := 934) (t := 967) (by decide +kernel) (by decide +kernel) (by decide +kernel) (by decide) dl_33 ?_
      refine r_aload_n rfl dl_967 ?_
      refine r_aload_n rfl dl_968 ?_
      refine r_iload_n rfl dl_969 ?_
      refine r_iconst (v := nI 1) (by decide) dl_970 ?_
      refine r_iadd (v := nI (8 * m + 1)) (nI_add _ _) dl_971 ?_
      refine l_ld (e := 8 * m + 1) hN (by omega) (by omega) dl_972 ?_
      refine r_aload_n rfl dl_973 ?_
      refine r_iload_n rfl dl_974 ?_
      refine r_iconst (v := nI 2) (by decide) dl_975 ?_
      refine r_iadd (v := nI (8 * m + 2)) (nI_add _ _) dl_976 ?_
      refine l_ld (e := 8 * m + 2) hN (by omega) (by omega) dl_977 ?_
      refine r_aload_n rfl dl_978 ?_
      refine r_iload_n rfl dl_979 ?_
      refine r_iconst (v := nI 3) (by decide) dl_980 ?_
      refine r_iadd (v := nI (8 * m + 3)) (nI_add _ _) dl_981 ?_
      refine l_ld (e := 8 * m + 3) hN (by omega) (by omega) dl_982 ?_
      refine r_ifeq (t := 990) (by decide) dl_983 (fun c_z => ?_) (fun c_z => ?_)
      · have hz : (nI 0 : Int32) = 0 ∨ (nI 0 : Int32) = nI 1 := Or.inl rfl
        refine r_iconst (v := nI 0) (by decide) dl_990 ?_
        obtain ⟨v, M2, T2, cs2, io2, sg2, hc, hr, hI2, hb1, hb2⟩ := (Stp_N (st_cancel (xs (8 * m + 1)) (xs (8 * m + 2)) (nI 0) hz)) L xs M T cs io sg hI (by omega)
        have hI2m := (IV_0 hI2).2
        obtain ⟨x, rfl⟩ := ev_int hc (by decide +kernel)
        have hN2 := IV_9 (io2 := io) (sg2 := sg) hI2
        refine h_callv (t := cT e0 0) (as := [.int (xs (8 * m + 1)), .int (xs (8 * m + 2)), .int (nI 0)]) (rest := []) (v := .int x) (M1 := hk (rf_mk M2 io sg) T2 cs2) rfl rfl lv_99 (Or.inl rfl) ln_147 hT0 ⟨by show 0 < M.1; omega, by decide⟩ (show (0 : Nat) < 14 by decide) oo_147 rfl (show (0 : Nat) ≤ 8 by decide) dl_991 hc ?_
        refine r_aload_n rfl dl_994 ?_
        refine r_aload_n rfl dl_995 ?_
        refine r_iload_n rfl dl_996 ?_
        refine r_iconst (v := nI 1) (by decide) dl_997 ?_
        refine r_iadd (v := nI (8 * m + 1)) (nI_add _ _) dl_998 ?_
        refine l_ld (e := 8 * m + 1) hN2 (by omega) (by omega) dl_999 ?_
        refine r_aload_n rfl dl_1000 ?_
        refine r_iload_n rfl dl_1001 ?_
        refine r_iconst (v := nI 2) (by decide) dl_1002 ?_
        refine r_iadd (v := nI (8 * m + 2)) (nI_add _ _) dl_1003 ?_
        refine l_ld (e := 8 * m + 2) hN2 (by omega) (by omega) dl_1004 ?_
        refine r_aload_n rfl dl_1005 ?_
        refine r_iload_n rfl dl_1006 ?_
        refine r_iconst (v := nI 3) (by decide) dl_1007 ?_
        refine r_iadd (v := nI (8 * m + 3)) (nI_add _ _) dl_1008 ?_
        refine l_ld (e := 8 * m + 3) hN2 (by omega) (by omega) dl_1009 ?_
        refine r_ifeq (t := 1017) (by decide) dl_1010 (fun _ => ?_) (fun c => absurd c_z c)
        refine r_iconst (v := nI 0) (by decide) dl_1017 ?_
        refine l_callr (as := [.int (xs (8 * m + 1)), .int (xs (8 * m + 2)), .int (nI 0)]) (rest := [.int x]) (v := .int x) (M1 := hk (rf_mk M2 io2 sg2) T2 cs2) lv_103 ln_249 (l_rc 249 oo_249 hI2m _) rfl (show (1 : Nat) ≤ 8 by decide) dl_1018 hr ?_
        refine r_iceq (t := 1443) (by decide) dl_1021 (fun _ => ?_) (fun c => absurd rfl c)
        refine r_iinc (n := 3) (k := 8) (x := nI (8 * m)) (v := nI (8 * m + 8)) (ls' := [(3, .int (nI (8 * m + 8))), (2, .ref 100), (1, .ref 0), (0, .ref 1000009)]) rfl (nI_add _ 8) (by decide) rfl dl_1443 ?_
        refine r_goto (t := 18) (by decide) dl_1446 ?_
        exact ih_m M2 T2 cs2 io2 sg2 hI2 (b_st1 h1 hb1) (b_st2 h2 hb2)
      · have hz : (nI 1 : Int32) = 0 ∨ (nI 1 : Int32) = nI 1 := Or.inr rfl
        refine r_iconst (v := nI 1) (by decide) dl_986 ?_
        refine r_goto (t := 991) (by decide) dl_987 ?_
        obtain ⟨v, M2, T2, cs2, io2, sg2, hc, hr, hI2, hb1, hb2⟩ := (Stp_N (st_cancel (xs (8 * m + 1)) (xs (8 * m + 2)) (nI 1) hz)) L xs M T cs io sg hI (by omega)
        have hI2m := (IV_0 hI2).2
        obtain ⟨x, rfl⟩ := ev_int hc (by decide +kernel)
        have hN2 := IV_9 (io2 := io) (sg2 := sg) hI2
        refine h_callv (t := cT e0 0) (as := [.int (xs (8 * m + 1)), .int (xs (8 * m + 2)), .int (nI 1)]) (rest := []) (v := .int x) (M1 := hk (rf_mk M2 io sg) T2 cs2) rfl rfl lv_99 (Or.inl rfl) ln_147 hT0 ⟨by show 0 < M.1; omega, by decide⟩ (show (0 : Nat) < 14 by decide) oo_147 rfl (show (0 : Nat) ≤ 8 by decide) dl_991 hc ?_
        refine r_aload_n rfl dl_994 ?_
        refine r_aload_n rfl dl_995 ?_
        refine r_iload_n rfl dl_996 ?_
        refine r_iconst (v := nI 1) (by decide) dl_997 ?_
        refine r_iadd (v := nI (8 * m + 1)) (nI_add _ _) dl_998 ?_
        refine l_ld (e := 8 * m + 1) hN2 (by omega) (by omega) dl_999 ?_
        refine r_aload_n rfl dl_1000 ?_
        refine r_iload_n rfl dl_1001 ?_
        refine r_iconst (v := nI 2) (by decide) dl_1002 ?_
        refine r_iadd (v := nI (8 * m + 2)) (nI_add _ _) dl_1003 ?_
        refine l_ld (e := 8 * m + 2) hN2 (by omega) (by omega) dl_1004 ?_
        refine r_aload_n rfl dl_1005 ?_
        refine r_iload_n rfl dl_1006 ?_
        refine r_iconst (v := nI 3) (by decide) dl_1007 ?_
        refine r_iadd (v := nI (8 * m + 3)) (nI_add _ _) dl_1008 ?_
        refine l_ld (e := 8 * m + 3) hN2 (by omega) (by omega) dl_1009 ?_
        refine r_ifeq (t := 1017) (by decide) dl_1010 (fun c => absurd c c_z) (fun _ => ?_)
        refine r_iconst (v := nI 1) (by decide) dl_1013 ?_
        refine r_goto (t := 1018) (by decide) dl_1014 ?_
        refine l_callr (as := [.int (xs (8 * m + 1)), .int (xs (8 * m + 2)), .int (nI 1)]) (rest := [.int x]) (v := .int x) (M1 := hk (rf_mk M2 io2 sg2) T2 cs2) lv_103 ln_249 (l_rc 249 oo_249 hI2m _) rfl (show (1 : Nat) ≤ 8 by decide) dl_1018 hr ?_
        refine r_iceq (t := 1443) (by decide) dl_1021 (fun _ => ?_) (fun c => absurd rfl c)
        refine r_iinc (n := 3) (k := 8) (x := nI (8 * m)) (v := nI (8 * m + 8)) (ls' := [(3, .int (nI (8 * m + 8))), (2, .ref 100), (1, .ref 0), (0, .ref 1000009)]) rfl (nI_add _ 8) (by decide) rfl dl_1443 ?_
        refine r_goto (t := 18) (by decide) dl_1446 ?_
        exact ih_m M2 T2 cs2 io2 sg2 hI2 (b_st1 h1 hb1) (b_st2 h2 hb2)
    · refine r_swIn (off := 993) (t := 1026) (by decide +kernel) (by decide +kernel) (by decide +kernel) (by decide) dl_33 ?_
      refine r_aload_n rfl dl_1026 ?_
      refine r_aload_n rfl dl_1027 ?_
      refine r_iload_n rfl dl_1028 ?_
      refine r_iconst (v := nI 1) (by decide) dl_1029 ?_
      refine r_iadd (v := nI (8 * m + 1)) (nI_add _ _) dl_1030 ?_
      refine l_ld (e := 8 * m + 1) hN (by omega) (by omega) dl_1031 ?_
      refine r_aload_n rfl dl_1032 ?_
      refine r_iload_n rfl dl_1033 ?_
      refine r_iconst (v := nI 2) (by decide) dl_1034 ?_
      refine r_iadd (v := nI (8 * m + 2)) (nI_add _ _) dl_1035 ?_
      refine l_ld (e := 8 * m + 2) hN (by omega) (by omega) dl_1036 ?_
      refine r_aload_n rfl dl_1037 ?_
      refine r_iload_n rfl dl_1038 ?_
      refine r_iconst (v := nI 3) (by decide) dl_1039 ?_
      refine r_iadd (v := nI (8 * m + 3)) (nI_add _ _) dl_1040 ?_
      refine l_ld (e := 8 * m + 3) hN (by omega) (by omega) dl_1041 ?_
      obtain ⟨v, M2, T2, cs2, io2, sg2, hc, hr, hI2, hb1, hb2⟩ := (Stp_N (st_study (xs (8 * m + 1)) (xs (8 * m + 2)) (xs (8 * m + 3)))) L xs M T cs io sg hI (by omega)
      have hI2m := (IV_0 hI2).2
      obtain ⟨x, rfl⟩ := ev_int hc (by decide +kernel)
      have hN2 := IV_9 (io2 := io) (sg2 := sg) hI2
      refine h_callv (t := cT e0 0) (as := [.int (xs (8 * m + 1)), .int (xs (8 * m + 2)), .int (xs (8 * m + 3))]) (rest := []) (v := .int x) (M1 := hk (rf_mk M2 io sg) T2 cs2) rfl rfl lv_104 (Or.inl rfl) ln_148 hT0 ⟨by show 0 < M.1; omega, by decide⟩ (show (0 : Nat) < 14 by decide) oo_148 rfl (show (0 : Nat) ≤ 8 by decide) dl_1042 hc ?_
      refine r_aload_n rfl dl_1045 ?_
      refine r_aload_n rfl dl_1046 ?_
      refine r_iload_n rfl dl_1047 ?_
      refine r_iconst (v := nI 1) (by decide) dl_1048 ?_
      refine r_iadd (v := nI (8 * m + 1)) (nI_add _ _) dl_1049 ?_
      refine l_ld (e := 8 * m + 1) hN2 (by omega) (by omega) dl_1050 ?_
      refine r_aload_n rfl dl_1051 ?_
      refine r_iload_n rfl dl_1052 ?_
      refine r_iconst (v := nI 2) (by decide) dl_1053 ?_
      refine r_iadd (v := nI (8 * m + 2)) (nI_add _ _) dl_1054 ?_
      refine l_ld (e := 8 * m + 2) hN2 (by omega) (by omega) dl_1055 ?_
      refine r_aload_n rfl dl_1056 ?_
      refine r_iload_n rfl dl_1057 ?_
      refine r_iconst (v := nI 3) (by decide) dl_1058 ?_
      refine r_iadd (v := nI (8 * m + 3)) (nI_add _ _) dl_1059 ?_
      refine l_ld (e := 8 * m + 3) hN2 (by omega) (by omega) dl_1060 ?_
      refine l_callr (as := [.int (xs (8 * m + 1)), .int (xs (8 * m + 2)), .int (xs (8 * m + 3))]) (rest := [.int x]) (v := .int x) (M1 := hk (rf_mk M2 io2 sg2) T2 cs2) lv_107 ln_251 (l_rc 251 oo_251 hI2m _) rfl (show (1 : Nat) ≤ 8 by decide) dl_1061 hr ?_
      refine r_iceq (t := 1443) (by decide) dl_1064 (fun _ => ?_) (fun c => absurd rfl c)
      refine r_iinc (n := 3) (k := 8) (x := nI (8 * m)) (v := nI (8 * m + 8)) (ls' := [(3, .int (nI (8 * m + 8))), (2, .ref 100), (1, .ref 0), (0, .ref 1000009)]) rfl (nI_add _ 8) (by decide) rfl dl_1443 ?_
      refine r_goto (t := 18) (by decide) dl_1446 ?_
      exact ih_m M2 T2 cs2 io2 sg2 hI2 (b_st1 h1 hb1) (b_st2 h2 hb2)
    · refine r_swIn (off := 1036) (t := 1069) (by decide +kernel) (by decide +kernel) (by decide +kernel) (by decide) dl_33 ?_
      refine r_aload_n rfl dl_1069 ?_
      refine r_aload_n rfl dl_1070 ?_
      refine r_iload_n rfl dl_1071 ?_
      refine r_iconst (v := nI 1) (by decide) dl_1072 ?_
      refine r_iadd (v := nI (8 * m + 1)) (nI_add _ _) dl_1073 ?_
      refine l_ld (e := 8 * m + 1) hN (by omega) (by omega) dl_1074 ?_
      refine r_aload_n rfl dl_1075 ?_
      refine r_iload_n rfl dl_1076 ?_
      refine r_iconst (v := nI 2) (by decide) dl_1077 ?_
      refine r_iadd (v := nI (8 * m + 2)) (nI_add _ _) dl_1078 ?_
      refine l_ld (e := 8 * m + 2) hN (by omega) (by omega) dl_1079 ?_
      refine r_aload_n rfl dl_1080 ?_
      refine r_iload_n rfl dl_1081 ?_
      refine r_iconst (v := nI 3) (by decide) dl_1082 ?_
      refine r_iadd (v := nI (8 * m + 3)) (nI_add _ _) dl_1083 ?_
      refine l_ld (e := 8 * m + 3) hN (by omega) (by omega) dl_1084 ?_
      refine r_aload_n rfl dl_1085 ?_
      refine r_iload_n rfl dl_1086 ?_
      refine r_iconst (v := nI 4) (by decide) dl_1087 ?_
      refine r_iadd (v := nI (8 * m + 4)) (nI_add _ _) dl_1088 ?_
      refine l_ld (e := 8 * m + 4) hN (by omega) (by omega) dl_1089 ?_
      obtain ⟨v, M2, T2, cs2, io2, sg2, hc, hr, hI2, hb1, hb2⟩ := (Stp_N (st_fact (xs (8 * m + 1)) (xs (8 * m + 2)) (xs (8 * m + 3)) (xs (8 * m + 4)))) L xs M T cs io sg hI (by omega)
      have hI2m := (IV_0 hI2).2
      obtain ⟨x, rfl⟩ := ev_int hc (by decide +kernel)
      have hN2 := IV_9 (io2 := io) (sg2 := sg) hI2
      refine h_callv (t := cT e0 0) (as := [.int (xs (8 * m + 1)), .int (xs (8 * m + 2)), .int (xs (8 * m + 3)), .int (xs (8 * m + 4))]) (rest := []) (v := .int x) (M1 := hk (rf_mk M2 io sg) T2 cs2) rfl rfl lv_108 (Or.inl rfl) ln_156 hT0 ⟨by show 0 < M.1; omega, by decide⟩ (show (0 : Nat) < 14 by decide) oo_156 rfl (show (0 : Nat) ≤ 8 by decide) dl_1090 hc ?_
      refine r_aload_n rfl dl_1093 ?_
      refine r_aload_n rfl dl_1094 ?_
      refine r_iload_n rfl dl_1095 ?_
      refine r_iconst (v := nI 1) (by decide) dl_1096 ?_
      refine r_iadd (v := nI (8 * m + 1)) (nI_add _ _) dl_1097 ?_
      refine l_ld (e := 8 * m + 1) hN2 (by omega) (by omega) dl_1098 ?_
      refine r_aload_n rfl dl_1099 ?_
      refine r_iload_n rfl dl_1100 ?_
      refine r_iconst (v := nI 2) (by decide) dl_1101 ?_
      refine r_iadd (v := nI (8 * m + 2)) (nI_add _ _) dl_1102 ?_
      refine l_ld (e := 8 * m + 2) hN2 (by omega) (by omega) dl_1103 ?_
      refine r_aload_n rfl dl_1104 ?_
      refine r_iload_n rfl dl_1105 ?_
      refine r_iconst (v := nI 3) (by decide) dl_1106 ?_
      refine r_iadd (v := nI (8 * m + 3)) (nI_add _ _) dl_1107 ?_
      refine l_ld (e := 8 * m + 3) hN2 (by omega) (by omega) dl_1108 ?_
      refine r_aload_n rfl dl_1109 ?_
      refine r_iload_n rfl dl_1110 ?_
      refine r_iconst (v := nI 4) (by decide) dl_1111 ?_
      refine r_iadd (v := nI (8 * m + 4)) (nI_add _ _) dl_1112 ?_
      refine l_ld (e := 8 * m + 4) hN2 (by omega) (by omega) dl_1113 ?_
      refine l_callr (as := [.int (xs (8 * m + 1)), .int (xs (8 * m + 2)), .int (xs (8 * m + 3)), .int (xs (8 * m + 4))]) (rest := [.int x]) (v := .int x) (M1 := hk (rf_mk M2 io2 sg2) T2 cs2) lv_112 ln_255 (l_rc 255 oo_255 hI2m _) rfl (show (1 : Nat) ≤ 8 by decide) dl_1114 hr ?_
      refine r_iceq (t := 1443) (by decide) dl_1117 (fun _ => ?_) (fun c => absurd rfl c)
      refine r_iinc (n := 3) (k := 8) (x := nI (8 * m)) (v := nI (8 * m + 8)) (ls' := [(3, .int (nI (8 * m + 8))), (2, .ref 100), (1, .ref 0), (0, .ref 1000009)]) rfl (nI_add _ 8) (by decide) rfl dl_1443 ?_
      refine r_goto (t := 18) (by decide) dl_1446 ?_
      exact ih_m M2 T2 cs2 io2 sg2 hI2 (b_st1 h1 hb1) (b_st2 h2 hb2)
    · refine r_swIn (off := 1089) (t := 1122) (by decide +kernel) (by decide +kernel) (by decide +kernel) (by decide) dl_33 ?_
      refine r_aload_n rfl dl_1122 ?_
      refine r_aload_n rfl dl_1123 ?_
      refine r_iload_n rfl dl_1124 ?_
      refine r_iconst (v := nI 1) (by decide) dl_1125 ?_
      refine r_iadd (v := nI (8 * m + 1)) (nI_add _ _) dl_1126 ?_
      refine l_ld (e := 8 * m + 1) hN (by omega) (by omega) dl_1127 ?_
      refine r_aload_n rfl dl_1128 ?_
      refine r_iload_n rfl dl_1129 ?_
      refine r_iconst (v := nI 2) (by decide) dl_1130 ?_
      refine r_iadd (v := nI (8 * m + 2)) (nI_add _ _) dl_1131 ?_
      refine l_ld (e := 8 * m + 2) hN (by omega) (by omega) dl_1132 ?_
      refine r_aload_n rfl dl_1133 ?_
      refine r_iload_n rfl dl_1134 ?_
      refine r_iconst (v := nI 3) (by decide) dl_1135 ?_
      refine r_iadd (v := nI (8 * m + 3)) (nI_add _ _) dl_1136 ?_
      refine l_ld (e := 8 * m + 3) hN (by omega) (by omega) dl_1137 ?_
      obtain ⟨v, M2, T2, cs2, io2, sg2, hc, hr, hI2, hb1, hb2⟩ := (Stp_N (st_known (xs (8 * m + 1)) (xs (8 * m + 2)) (xs (8 * m + 3)))) L xs M T cs io sg hI (by omega)
      have hI2m := (IV_0 hI2).2
      obtain ⟨x, rfl⟩ := ev_int hc (by decide +kernel)
      have hN2 := IV_9 (io2 := io) (sg2 := sg) hI2
      refine h_callv (t := cT e0 0) (as := [.int (xs (8 * m + 1)), .int (xs (8 * m + 2)), .int (xs (8 * m + 3))]) (rest := []) (v := .int x) (M1 := hk (rf_mk M2 io sg) T2 cs2) rfl rfl lv_113 (Or.inl rfl) ln_158 hT0 ⟨by show 0 < M.1; omega, by decide⟩ (show (0 : Nat) < 14 by decide) oo_158 rfl (show (0 : Nat) ≤ 8 by decide) dl_1138 hc ?_
      refine r_aload_n rfl dl_1141 ?_
      refine r_aload_n rfl dl_1142 ?_
      refine r_iload_n rfl dl_1143 ?_
      refine r_iconst (v := nI 1) (by decide) dl_1144 ?_
      refine r_iadd (v := nI (8 * m + 1)) (nI_add _ _) dl_1145 ?_
      refine l_ld (e := 8 * m + 1) hN2 (by omega) (by omega) dl_1146 ?_
      refine r_aload_n rfl dl_1147 ?_
      refine r_iload_n rfl dl_1148 ?_
      refine r_iconst (v := nI 2) (by decide) dl_1149 ?_
      refine r_iadd (v := nI (8 * m + 2)) (nI_add _ _) dl_1150 ?_
      refine l_ld (e := 8 * m + 2) hN2 (by omega) (by omega) dl_1151 ?_
      refine r_aload_n rfl dl_1152 ?_
      refine r_iload_n rfl dl_1153 ?_
      refine r_iconst (v := nI 3) (by decide) dl_1154 ?_
      refine r_iadd (v := nI (8 * m + 3)) (nI_add _ _) dl_1155 ?_
      refine l_ld (e := 8 * m + 3) hN2 (by omega) (by omega) dl_1156 ?_
      refine l_callr (as := [.int (xs (8 * m + 1)), .int (xs (8 * m + 2)), .int (xs (8 * m + 3))]) (rest := [.int x]) (v := .int x) (M1 := hk (rf_mk M2 io2 sg2) T2 cs2) lv_116 ln_257 (l_rc 257 oo_257 hI2m _) rfl (show (1 : Nat) ≤ 8 by decide) dl_1157 hr ?_
      refine r_iceq (t := 1443) (by decide) dl_1160 (fun _ => ?_) (fun c => absurd rfl c)
      refine r_iinc (n := 3) (k := 8) (x := nI (8 * m)) (v := nI (8 * m + 8)) (ls' := [(3, .int (nI (8 * m + 8))), (2, .ref 100), (1, .ref 0), (0, .ref 1000009)]) rfl (nI_add _ 8) (by decide) rfl dl_1443 ?_
      refine r_goto (t := 18) (by decide) dl_1446 ?_
      exact ih_m M2 T2 cs2 io2 sg2 hI2 (b_st1 h1 hb1) (b_st2 h2 hb2)
    · refine r_swIn (off := 1132) (t := 1165) (by decide +kernel) (by decide +kernel) (by decide +kernel) (by decide) dl_33 ?_
      refine r_aload_n rfl dl_1165 ?_
      refine r_aload_n rfl dl_1166 ?_
      refine r_iload_n rfl dl_1167 ?_
      refine r_iconst (v := nI 1) (by decide) dl_1168 ?_
      refine r_iadd (v := nI (8 * m + 1)) (nI_add _ _) dl_1169 ?_
      refine l_ld (e := 8 * m + 1) hN (by omega) (by omega) dl_1170 ?_
      refine r_aload_n rfl dl_1171 ?_
      refine r_iload_n rfl dl_1172 ?_
      refine r_iconst (v := nI 2) (by decide) dl_1173 ?_
      refine r_iadd (v := nI (8 * m + 2)) (nI_add _ _) dl_1174 ?_
      refine l_ld (e := 8 * m + 2) hN (by omega) (by omega) dl_1175 ?_
      obtain ⟨v, M2, T2, cs2, io2, sg2, hc, hr, hI2, hb1, hb2⟩ := (Stp_N (st_visa (xs (8 * m + 1)) (xs (8 * m + 2)))) L xs M T cs io sg hI (by omega)
      have hI2m := (IV_0 hI2).2
      obtain ⟨x, rfl⟩ := ev_int hc (by decide +kernel)
      have hN2 := IV_9 (io2 := io) (sg2 := sg) hI2
      refine h_callv (t := cT e0 0) (as := [.int (xs (8 * m + 1)), .int (xs (8 * m + 2))]) (rest := []) (v := .int x) (M1 := hk (rf_mk M2 io sg) T2 cs2) rfl rfl lv_117 (Or.inl rfl) ln_160 hT0 ⟨by show 0 < M.1; omega, by decide⟩ (show (0 : Nat) < 14 by decide) oo_160 rfl (show (0 : Nat) ≤ 8 by decide) dl_1176 hc ?_
      refine r_aload_n rfl dl_1179 ?_
      refine r_aload_n rfl dl_1180 ?_
      refine r_iload_n rfl dl_1181 ?_
      refine r_iconst (v := nI 1) (by decide) dl_1182 ?_
      refine r_iadd (v := nI (8 * m + 1)) (nI_add _ _) dl_1183 ?_
      refine l_ld (e := 8 * m + 1) hN2 (by omega) (by omega) dl_1184 ?_
      refine r_aload_n rfl dl_1185 ?_
      refine r_iload_n rfl dl_1186 ?_
      refine r_iconst (v := nI 2) (by decide) dl_1187 ?_
      refine r_iadd (v := nI (8 * m + 2)) (nI_add _ _) dl_1188 ?_
      refine l_ld (e := 8 * m + 2) hN2 (by omega) (by omega) dl_1189 ?_
      refine l_callr (as := [.int (xs (8 * m + 1)), .int (xs (8 * m + 2))]) (rest := [.int x]) (v := .int x) (M1 := hk (rf_mk M2 io2 sg2) T2 cs2) lv_120 ln_259 (l_rc 259 oo_259 hI2m _) rfl (show (1 : Nat) ≤ 8 by decide) dl_1190 hr ?_
      refine r_iceq (t := 1443) (by decide) dl_1193 (fun _ => ?_) (fun c => absurd rfl c)
      refine r_iinc (n := 3) (k := 8) (x := nI (8 * m)) (v := nI (8 * m + 8)) (ls' := [(3, .int (nI (8 * m + 8))), (2, .ref 100), (1, .ref 0), (0, .ref 1000009)]) rfl (nI_add _ 8) (by decide) rfl dl_1443 ?_
      refine r_goto (t := 18) (by decide) dl_1446 ?_
      exact ih_m M2 T2 cs2 io2 sg2 hI2 (b_st1 h1 hb1) (b_st2 h2 hb2)
    · refine r_swIn (off := 1165) (t := 1198) (by decide +kernel) (by decide +kernel) (by decide +kernel) (by decide) dl_33 ?_
      refine r_aload_n rfl dl_1198 ?_
      refine r_aload_n rfl dl_1199 ?_
      refine r_iload_n rfl dl_1200 ?_
      refine r_iconst (v := nI 1) (by decide) dl_1201 ?_
      refine r_iadd (v := nI (8 * m + 1)) (nI_add _ _) dl_1202 ?_
      refine l_ld (e := 8 * m + 1) hN (by omega) (by omega) dl_1203 ?_
      refine r_aload_n rfl dl_1204 ?_
      refine r_iload_n rfl dl_1205 ?_
      refine r_iconst (v := nI 2) (by decide) dl_1206 ?_
      refine r_iadd (v := nI (8 * m + 2)) (nI_add _ _) dl_1207 ?_
      refine l_ld (e := 8 * m + 2) hN (by omega) (by omega) dl_1208 ?_
      refine r_aload_n rfl dl_1209 ?_
      refine r_iload_n rfl dl_1210 ?_
      refine r_iconst (v := nI 3) (by decide) dl_1211 ?_
      refine r_iadd (v := nI (8 * m + 3)) (nI_add _ _) dl_1212 ?_
      refine l_ld (e := 8 * m + 3) hN (by omega) (by omega) dl_1213 ?_
      obtain ⟨v, M2, T2, cs2, io2, sg2, hc, hr, hI2, hb1, hb2⟩ := (Stp_N (st_there (xs (8 * m + 1)) (xs (8 * m + 2)) (xs (8 * m + 3)))) L xs M T cs io sg hI (by omega)
      have hI2m := (IV_0 hI2).2
      obtain ⟨x, rfl⟩ := ev_int hc (by decide +kernel)
      have hN2 := IV_9 (io2 := io) (sg2 := sg) hI2
      refine h_callv (t := cT e0 0) (as := [.int (xs (8 * m + 1)), .int (xs (8 * m + 2)), .int (xs (8 * m + 3))]) (rest := []) (v := .int x) (M1 := hk (rf_mk M2 io sg) T2 cs2) rfl rfl lv_121 (Or.inl rfl) ln_162 hT0 ⟨by show 0 < M.1; omega, by decide⟩ (show (0 : Nat) < 14 by decide) oo_162 rfl (show (0 : Nat) ≤ 8 by decide) dl_1214 hc ?_
      refine r_aload_n rfl dl_1217 ?_
      refine r_aload_n rfl dl_1218 ?_
      refine r_iload_n rfl dl_1219 ?_
      refine r_iconst (v := nI 1) (by decide) dl_1220 ?_
      refine r_iadd (v := nI (8 * m + 1)) (nI_add _ _) dl_1221 ?_
      refine l_ld (e := 8 * m + 1) hN2 (by omega) (by omega) dl_1222 ?_
      refine r_aload_n rfl dl_1223 ?_
      refine r_iload_n rfl dl_1224 ?_
      refine r_iconst (v := nI 2) (by decide) dl_1225 ?_
      refine r_iadd (v := nI (8 * m + 2)) (nI_add _ _) dl_1226 ?_
      refine l_ld (e := 8 * m + 2) hN2 (by omega) (by omega) dl_1227 ?_
      refine r_aload_n rfl dl_1228 ?_
      refine r_iload_n rfl dl_1229 ?_
      refine r_iconst (v := nI 3) (by decide) dl_1230 ?_
      refine r_iadd (v := nI (8 * m + 3)) (nI_add _ _) dl_1231 ?_
      refine l_ld (e := 8 * m + 3) hN2 (by omega) (by omega) dl_1232 ?_
      refine l_callr (as := [.int (xs (8 * m + 1)), .int (xs (8 * m + 2)), .int (xs (8 * m + 3))]) (rest := [.int x]) (v := .int x) (M1 := hk (rf_mk M2 io2 sg2) T2 cs2) lv_124 ln_260 (l_rc 260 oo_260 hI2m _) rfl (show (1 : Nat) ≤ 8 by decide) dl_1233 hr ?_
      refine r_iceq (t := 1443) (by decide) dl_1236 (fun _ => ?_) (fun c => absurd rfl c)
      refine r_iinc (n := 3) (k := 8) (x := nI (8 * m)) (v := nI (8 * m + 8)) (ls' := [(3, .int (nI (8 * m + 8))), (2, .ref 100), (1, .ref 0), (0, .ref 1000009)]) rfl (nI_add _ 8) (by decide) rfl dl_1443 ?_
      refine r_goto (t := 18) (by decide) dl_1446 ?_
      exact ih_m M2 T2 cs2 io2 sg2 hI2 (b_st1 h1 hb1) (b_st2 h2 hb2)
    · refine r_swIn (off := 1208) (t := 1241) (by decide +kernel) (by decide +kernel) (by decide +kernel) (by decide) dl_33 ?_
      refine r_aload_n rfl dl_1241 ?_
      refine r_aload_n rfl dl_1242 ?_
      refine r_iload_n rfl dl_1243 ?_
      refine r_iconst (v := nI 1) (by decide) dl_1244 ?_
      refine r_iadd (v := nI (8 * m + 1)) (nI_add _ _) dl_1245 ?_
      refine l_ld (e := 8 * m + 1) hN (by omega) (by omega) dl_1246 ?_
      refine r_aload_n rfl dl_1247 ?_
      refine r_iload_n rfl dl_1248 ?_
      refine r_iconst (v := nI 2) (by decide) dl_1249 ?_
      refine r_iadd (v := nI (8 * m + 2)) (nI_add _ _) dl_1250 ?_
      refine l_ld (e := 8 * m + 2) hN (by omega) (by omega) dl_1251 ?_
      refine r_aload_n rfl dl_1252 ?_
      refine r_iload_n rfl dl_1253 ?_
      refine r_iconst (v := nI 3) (by decide) dl_1254 ?_
      refine r_iadd (v := nI (8 * m + 3)) (nI_add _ _) dl_1255 ?_
      refine l_ld (e := 8 * m + 3) hN (by omega) (by omega) dl_1256 ?_
      obtain ⟨v, M2, T2, cs2, io2, sg2, hc, hr, hI2, hb1, hb2⟩ := (Stp_N (st_counts (xs (8 * m + 1)) (xs (8 * m + 2)) (xs (8 * m + 3)))) L xs M T cs io sg hI (by omega)
      have hI2m := (IV_0 hI2).2
      obtain ⟨x, rfl⟩ := ev_int hc (by decide +kernel)
      have hN2 := IV_9 (io2 := io) (sg2 := sg) hI2
      refine h_callv (t := cT e0 0) (as := [.int (xs (8 * m + 1)), .int (xs (8 * m + 2)), .int (xs (8 * m + 3))]) (rest := []) (v := .int x) (M1 := hk (rf_mk M2 io sg) T2 cs2) rfl rfl lv_125 (Or.inl rfl) ln_166 hT0 ⟨by show 0 < M.1; omega, by decide⟩ (show (0 : Nat) < 14 by decide) oo_166 rfl (show (0 : Nat) ≤ 8 by decide) dl_1257 hc ?_
      refine r_aload_n rfl dl_1260 ?_
      refine r_aload_n rfl dl_1261 ?_
      refine r_iload_n rfl dl_1262 ?_
      refine r_iconst (v := nI 1) (by decide) dl_1263 ?_
      refine r_iadd (v := nI (8 * m + 1)) (nI_add _ _) dl_1264 ?_
      refine l_ld (e := 8 * m + 1) hN2 (by omega) (by omega) dl_1265 ?_
      refine r_aload_n rfl dl_1266 ?_
      refine r_iload_n rfl dl_1267 ?_
      refine r_iconst (v := nI 2) (by decide) dl_1268 ?_
      refine r_iadd (v := nI (8 * m + 2)) (nI_add _ _) dl_1269 ?_
      refine l_ld (e := 8 * m + 2) hN2 (by omega) (by omega) dl_1270 ?_
      refine r_aload_n rfl dl_1271 ?_
      refine r_iload_n rfl dl_1272 ?_
      refine r_iconst (v := nI 3) (by decide) dl_1273 ?_
      refine r_iadd (v := nI (8 * m + 3)) (nI_add _ _) dl_1274 ?_
      refine l_ld (e := 8 * m + 3) hN2 (by omega) (by omega) dl_1275 ?_
      refine l_callr (as := [.int (xs (8 * m + 1)), .int (xs (8 * m + 2)), .int (xs (8 * m + 3))]) (rest := [.int x]) (v := .int x) (M1 := hk (rf_mk M2 io2 sg2) T2 cs2) lv_128 ln_263 (l_rc 263 oo_263 hI2m _) rfl (show (1 : Nat) ≤ 8 by decide) dl_1276 hr ?_
      refine r_iceq (t := 1443) (by decide) dl_1279 (fun _ => ?_) (fun c => absurd rfl c)
      refine r_iinc (n := 3) (k := 8) (x := nI (8 * m)) (v := nI (8 * m + 8)) (ls' := [(3, .int (nI (8 * m + 8))), (2, .ref 100), (1, .ref 0), (0, .ref 1000009)]) rfl (nI_add _ 8) (by decide) rfl dl_1443 ?_
      refine r_goto (t := 18) (by decide) dl_1446 ?_
      exact ih_m M2 T2 cs2 io2 sg2 hI2 (b_st1 h1 hb1) (b_st2 h2 hb2)
    · refine r_swIn (off := 1251) (t := 1284) (by decide +kernel) (by decide +kernel) (by decide +kernel) (by decide) dl_33 ?_
      refine r_aload_n rfl dl_1284 ?_
      refine r_aload_n rfl dl_1285 ?_
      refine r_iload_n rfl dl_1286 ?_
      refine r_iconst (v := nI 1) (by decide) dl_1287 ?_
      refine r_iadd (v := nI (8 * m + 1)) (nI_add _ _) dl_1288 ?_
      refine l_ld (e := 8 * m + 1) hN (by omega) (by omega) dl_1289 ?_
      refine r_aload_n rfl dl_1290 ?_
      refine r_iload_n rfl dl_1291 ?_
      refine r_iconst (v := nI 2) (by decide) dl_1292 ?_
      refine r_iadd (v := nI (8 * m + 2)) (nI_add _ _) dl_1293 ?_
      refine l_ld (e := 8 * m + 2) hN (by omega) (by omega) dl_1294 ?_
      obtain ⟨v, M2, T2, cs2, io2, sg2, hc, hr, hI2, hb1, hb2⟩ := (Stp_N (st_crowded (xs (8 * m + 1)) (xs (8 * m + 2)))) L xs M T cs io sg hI (by omega)
      have hI2m := (IV_0 hI2).2
      obtain ⟨x, rfl⟩ := ev_int hc (by decide +kernel)
      have hN2 := IV_9 (io2 := io) (sg2 := sg) hI2
      refine h_callv (t := cT e0 0) (as := [.int (xs (8 * m + 1)), .int (xs (8 * m + 2))]) (rest := []) (v := .int x) (M1 := hk (rf_mk M2 io sg) T2 cs2) rfl rfl lv_129 (Or.inl rfl) ln_170 hT0 ⟨by show 0 < M.1; omega, by decide⟩ (show (0 : Nat) < 14 by decide) oo_170 rfl (show (0 : Nat) ≤ 8 by decide) dl_1295 hc ?_
      refine r_aload_n rfl dl_1298 ?_
      refine r_aload_n rfl dl_1299 ?_
      refine r_iload_n rfl dl_1300 ?_
      refine r_iconst (v := nI 1) (by decide) dl_1301 ?_
      refine r_iadd (v := nI (8 * m + 1)) (nI_add _ _) dl_1302 ?_
      refine l_ld (e := 8 * m + 1) hN2 (by omega) (by omega) dl_1303 ?_
      refine r_aload_n rfl dl_1304 ?_
      refine r_iload_n rfl dl_1305 ?_
      refine r_iconst (v := nI 2) (by decide) dl_1306 ?_
      refine r_iadd (v := nI (8 * m + 2)) (nI_add _ _) dl_1307 ?_
      refine l_ld (e := 8 * m + 2) hN2 (by omega) (by omega) dl_1308 ?_
      refine l_callr (as := [.int (xs (8 * m + 1)), .int (xs (8 * m + 2))]) (rest := [.int x]) (v := .int x) (M1 := hk (rf_mk M2 io2 sg2) T2 cs2) lv_132 ln_264 (l_rc 264 oo_264 hI2m _) rfl (show (1 : Nat) ≤ 8 by decide) dl_1309 hr ?_
      refine r_iceq (t := 1443) (by decide) dl_1312 (fun _ => ?_) (fun c => absurd rfl c)
      refine r_iinc (n := 3) (k := 8) (x := nI (8 * m)) (v := nI (8 * m + 8)) (ls' := [(3, .int (nI (8 * m + 8))), (2, .ref 100), (1, .ref 0), (0, .ref 1000009)]) rfl (nI_add _ 8) (by decide) rfl dl_1443 ?_
      refine r_goto (t := 18) (by decide) dl_1446 ?_
      exact ih_m M2 T2 cs2 io2 sg2 hI2 (b_st1 h1 hb1) (b_st2 h2 hb2)
    · refine r_swIn (off := 1284) (t := 1317) (by decide +kernel) (by decide +kernel) (by decide +kernel) (by decide) dl_33 ?_
      refine r_aload_n rfl dl_1317 ?_
      obtain ⟨v, M2, T2, cs2, io2, sg2, hc, hr, hI2, hb1, hb2⟩ := (Stp_N st_year) L xs M T cs io sg hI (by omega)
      have hI2m := (IV_0 hI2).2
      obtain ⟨x, rfl⟩ := ev_int hc (by decide +kernel)
      have hN2 := IV_9 (io2 := io) (sg2 := sg) hI2
      refine h_callv (t := cT e0 0) (as := []) (rest := []) (v := .int x) (M1 := hk (rf_mk M2 io sg) T2 cs2) rfl rfl lv_133 (Or.inl rfl) ln_171 hT0 ⟨by show 0 < M.1; omega, by decide⟩ (show (0 : Nat) < 14 by decide) oo_171 rfl (show (0 : Nat) ≤ 8 by decide) dl_1318 hc ?_
      refine r_aload_n rfl dl_1321 ?_
      refine l_callr (as := []) (rest := [.int x]) (v := .int x) (M1 := hk (rf_mk M2 io2 sg2) T2 cs2) lv_136 ln_265 (l_rc 265 oo_265 hI2m _) rfl (show (1 : Nat) ≤ 8 by decide) dl_1322 hr ?_
      refine r_iceq (t := 1443) (by decide) dl_1325 (fun _ => ?_) (fun c => absurd rfl c)
      refine r_iinc (n := 3) (k := 8) (x := nI (8 * m)) (v := nI (8 * m + 8)) (ls' := [(3, .int (nI (8 * m + 8))), (2, .ref 100), (1, .ref 0), (0, .ref 1000009)]) rfl (nI_add _ 8) (by decide) rfl dl_1443 ?_
      refine r_goto (t := 18) (by decide) dl_1446 ?_
      exact ih_m M2 T2 cs2 io2 sg2 hI2 (b_st1 h1 hb1) (b_st2 h2 hb2)
    · refine r_swIn (off := 1297) (t := 1330) (by decide +kernel) (by decide +kernel) (by decide +kernel) (by decide) dl_33 ?_
      refine r_aload_n rfl dl_1330 ?_
      refine r_aload_n rfl dl_1331 ?_
      refine r_iload_n rfl dl_1332 ?_
      refine r_iconst (v := nI 1) (by decide) dl_1333 ?_
      refine r_iadd (v := nI (8 * m + 1)) (nI_add _ _) dl_1334 ?_
      refine l_ld (e := 8 * m + 1) hN (by omega) (by omega) dl_1335 ?_
      obtain ⟨v, M2, T2, cs2, io2, sg2, hc, hr, hI2, hb1, hb2⟩ := (Stp_N (st_owed (xs (8 * m + 1)))) L xs M T cs io sg hI (by omega)
      have hI2m := (IV_0 hI2).2
      obtain ⟨x, rfl⟩ := owed_long hI hI2m hr
      have hN2 := IV_9 (io2 := io) (sg2 := sg) hI2
      refine h_callv (t := cT e0 0) (as := [.int (xs (8 * m + 1))]) (rest := []) (v := .long x) (M1 := hk (rf_mk M2 io sg) T2 cs2) rfl rfl lv_137 (Or.inl rfl) ln_174 hT0 ⟨by show 0 < M.1; omega, by decide⟩ (show (0 : Nat) < 14 by decide) oo_174 rfl (show (0 : Nat) ≤ 8 by decide) dl_1336 hc ?_
      refine r_aload_n rfl dl_1339 ?_
      refine r_aload_n rfl dl_1340 ?_
      refine r_iload_n rfl dl_1341 ?_
      refine r_iconst (v := nI 1) (by decide) dl_1342 ?_
      refine r_iadd (v := nI (8 * m + 1)) (nI_add _ _) dl_1343 ?_
      refine l_ld (e := 8 * m + 1) hN2 (by omega) (by omega) dl_1344 ?_
      refine l_callr (as := [.int (xs (8 * m + 1))]) (rest := [.long x]) (v := .long x) (M1 := hk (rf_mk M2 io2 sg2) T2 cs2) lv_141 ln_266 (l_rc 266 oo_266 hI2m _) rfl (show (2 : Nat) ≤ 8 by decide) dl_1345 hr ?_
      refine r_lcmp (v := 0) (by unfold lg_cmp; simp) dl_1348 ?_
      refine r_ifeq (t := 1443) (by decide) dl_1349 (fun _ => ?_) (fun c => absurd rfl c)
      refine r_iinc (n := 3) (k := 8) (x := nI (8 * m)) (v := nI (8 * m + 8)) (ls' := [(3, .int (nI (8 * m + 8))), (2, .ref 100), (1, .ref 0), (0, .ref 1000009)]) rfl (nI_add _ 8) (by decide) rfl dl_1443 ?_
      refine r_goto (t := 18) (by decide) dl_1446 ?_
      exact ih_m M2 T2 cs2 io2 sg2 hI2 (b_st1 h1 hb1) (b_st2 h2 hb2)
    · refine r_swIn (off := 1321) (t := 1354) (by decide +kernel) (by decide +kernel) (by decide +kernel) (by decide) dl_33 ?_
      refine r_aload_n rfl dl_1354 ?_
      refine r_aload_n rfl dl_1355 ?_
      refine r_iload_n rfl dl_1356 ?_
      refine r_iconst (v := nI 1) (by decide) dl_1357 ?_
      refine r_iadd (v := nI (8 * m + 1)) (nI_add _ _) dl_1358 ?_
      refine l_ld (e := 8 * m + 1) hN (by omega) (by omega) dl_1359 ?_
      refine r_aload_n rfl dl_1360 ?_
      refine r_iload_n rfl dl_1361 ?_
      refine r_iconst (v := nI 2) (by decide) dl_1362 ?_
      refine r_iadd (v := nI (8 * m + 2)) (nI_add _ _) dl_1363 ?_
      refine l_ld (e := 8 * m + 2) hN (by omega) (by omega) dl_1364 ?_
      obtain ⟨v, M2, T2, cs2, io2, sg2, hc, hr, hI2, hb1, hb2⟩ := (Stp_N (st_look (xs (8 * m + 1)) (xs (8 * m + 2)))) L xs M T cs io sg hI (by omega)
      have hI2m := (IV_0 hI2).2
      obtain ⟨x, rfl⟩ := ev_int hc (by decide +kernel)
      have hN2 := IV_9 (io2 := io) (sg2 := sg) hI2
      refine h_callv (t := cT e0 0) (as := [.int (xs (8 * m + 1)), .int (xs (8 * m + 2))]) (rest := []) (v := .int x) (M1 := hk (rf_mk M2 io sg) T2 cs2) rfl rfl lv_142 (Or.inl rfl) ln_175 hT0 ⟨by show 0 < M.1; omega, by decide⟩ (show (0 : Nat) < 14 by decide) oo_175 rfl (show (0 : Nat) ≤ 8 by decide) dl_1365 hc ?_
      refine r_aload_n rfl dl_1368 ?_
      refine r_aload_n rfl dl_1369 ?_
      refine r_iload_n rfl dl_1370 ?_
      refine r_iconst (v := nI 1) (by decide) dl_1371 ?_
      refine r_iadd (v := nI (8 * m + 1)) (nI_add _ _) dl_1372 ?_
      refine l_ld (e := 8 * m + 1) hN2 (by omega) (by omega) dl_1373 ?_
      refine r_aload_n rfl dl_1374 ?_
      refine r_iload_n rfl dl_1375 ?_
      refine r_iconst (v := nI 2) (by decide) dl_1376 ?_
      refine r_iadd (v := nI (8 * m + 2)) (nI_add _ _) dl_1377 ?_
      refine l_ld (e := 8 * m + 2) hN2 (by omega) (by omega) dl_1378 ?_
      refine l_callr (as := [.int (xs (8 * m + 1)), .int (xs (8 * m + 2))]) (rest := [.int x]) (v := .int x) (M1 := hk (rf_mk M2 io2 sg2) T2 cs2) lv_145 ln_267 (l_rc 267 oo_267 hI2m _) rfl (show (1 : Nat) ≤ 8 by decide) dl_1379 hr ?_
      refine r_iceq (t := 1443) (by decide) dl_1382 (fun _ => ?_) (fun c => absurd rfl c)
      refine r_iinc (n := 3) (k := 8) (x := nI (8 * m)) (v := nI (8 * m + 8)) (ls' := [(3, .int (nI (8 * m + 8))), (2, .ref 100), (1, .ref 0), (0, .ref 1000009)]) rfl (nI_add _ 8) (by decide) rfl dl_1443 ?_
      refine r_goto (t := 18) (by decide) dl_1446 ?_
      exact ih_m M2 T2 cs2 io2 sg2 hI2 (b_st1 h1 hb1) (b_st2 h2 hb2)
    · refine r_swIn (off := 1354) (t := 1387) (by decide +kernel) (by decide +kernel) (by decide +kernel) (by decide) dl_33 ?_
      refine r_aload_n rfl dl_1387 ?_
      refine r_aload_n rfl dl_1388 ?_
      refine r_iload_n rfl dl_1389 ?_
      refine r_iconst (v := nI 1) (by decide) dl_1390 ?_
      refine r_iadd (v := nI (8 * m + 1)) (nI_add _ _) dl_1391 ?_
      refine l_ld (e := 8 * m + 1) hN (by omega) (by omega) dl_1392 ?_
      refine r_aload_n rfl dl_1393 ?_
      refine r_iload_n rfl dl_1394 ?_
      refine r_iconst (v := nI 2) (by decide) dl_1395 ?_
      refine r_iadd (v := nI (8 * m + 2)) (nI_add _ _) dl_1396 ?_
      refine l_ld (e := 8 * m + 2) hN (by omega) (by omega) dl_1397 ?_
      obtain ⟨v, M2, T2, cs2, io2, sg2, hc, hr, hI2, hb1, hb2⟩ := (Stp_N (st_about (xs (8 * m + 1)) (xs (8 * m + 2)))) L xs M T cs io sg hI (by omega)
      have hI2m := (IV_0 hI2).2
      obtain ⟨x, rfl⟩ := ev_int hc (by decide +kernel)
      have hN2 := IV_9 (io2 := io) (sg2 := sg) hI2
      refine h_callv (t := cT e0 0) (as := [.int (xs (8 * m + 1)), .int (xs (8 * m + 2))]) (rest := []) (v := .int x) (M1 := hk (rf_mk M2 io sg) T2 cs2) rfl rfl lv_146 (Or.inl rfl) ln_178 hT0 ⟨by show 0 < M.1; omega, by decide⟩ (show (0 : Nat) < 14 by decide) oo_178 rfl (show (0 : Nat) ≤ 8 by decide) dl_1398 hc ?_
      refine r_aload_n rfl dl_1401 ?_
      refine r_aload_n rfl dl_1402 ?_
      refine r_iload_n rfl dl_1403 ?_
      refine r_iconst (v := nI 1) (by decide) dl_1404 ?_
      refine r_iadd (v := nI (8 * m + 1)) (nI_add _ _) dl_1405 ?_
      refine l_ld (e := 8 * m + 1) hN2 (by omega) (by omega) dl_1406 ?_
      refine r_aload_n rfl dl_1407 ?_
      refine r_iload_n rfl dl_1408 ?_
      refine r_iconst (v := nI 2) (by decide) dl_1409 ?_
      refine r_iadd (v := nI (8 * m + 2)) (nI_add _ _) dl_1410 ?_
      refine l_ld (e := 8 * m + 2) hN2 (by omega) (by omega) dl_1411 ?_
      refine l_callr (as := [.int (xs (8 * m + 1)), .int (xs (8 * m + 2))]) (rest := [.int x]) (v := .int x) (M1 := hk (rf_mk M2 io2 sg2) T2 cs2) lv_149 ln_269 (l_rc 269 oo_269 hI2m _) rfl (show (1 : Nat) ≤ 8 by decide) dl_1412 hr ?_
      refine r_iceq (t := 1443) (by decide) dl_1415 (fun _ => ?_) (fun c => absurd rfl c)
      refine r_iinc (n := 3) (k := 8) (x := nI (8 * m)) (v := nI (8 * m + 8)) (ls' := [(3, .int (nI (8 * m + 8))), (2, .ref 100), (1, .ref 0), (0, .ref 1000009)]) rfl (nI_add _ 8) (by decide) rfl dl_1443 ?_
      refine r_goto (t := 18) (by decide) dl_1446 ?_
      exact ih_m M2 T2 cs2 io2 sg2 hI2 (b_st1 h1 hb1) (b_st2 h2 hb2)
    · refine r_swIn (off := 1387) (t := 1420) (by decide +kernel) (by decide +kernel) (by decide +kernel) (by decide) dl_33 ?_
      refine r_aload_n rfl dl_1420 ?_
      refine r_aload_n rfl dl_1421 ?_
      refine r_iload_n rfl dl_1422 ?_
      refine r_iconst (v := nI 1) (by decide) dl_1423 ?_
      refine r_iadd (v := nI (8 * m + 1)) (nI_add _ _) dl_1424 ?_
      refine l_ld (e := 8 * m + 1) hN (by omega) (by omega) dl_1425 ?_
      obtain ⟨v, M2, T2, cs2, io2, sg2, hc, hr, hI2, hb1, hb2⟩ := (Stp_N (st_count (xs (8 * m + 1)))) L xs M T cs io sg hI (by omega)
      have hI2m := (IV_0 hI2).2
      obtain ⟨x, rfl⟩ := ev_int hc (by decide +kernel)
      have hN2 := IV_9 (io2 := io) (sg2 := sg) hI2
      refine h_callv (t := cT e0 0) (as := [.int (xs (8 * m + 1))]) (rest := []) (v := .int x) (M1 := hk (rf_mk M2 io sg) T2 cs2) rfl rfl lv_150 (Or.inl rfl) ln_181 hT0 ⟨by show 0 < M.1; omega, by decide⟩ (show (0 : Nat) < 14 by decide) oo_181 rfl (show (0 : Nat) ≤ 8 by decide) dl_1426 hc ?_
      refine r_aload_n rfl dl_1429 ?_
      refine r_aload_n rfl dl_1430 ?_
      refine r_iload_n rfl dl_1431 ?_
      refine r_iconst (v := nI 1) (by decide) dl_1432 ?_
      refine r_iadd (v := nI (8 * m + 1)) (nI_add _ _) dl_1433 ?_
      refine l_ld (e := 8 * m + 1) hN2 (by omega) (by omega) dl_1434 ?_
      refine l_callr (as := [.int (xs (8 * m + 1))]) (rest := [.int x]) (v := .int x) (M1 := hk (rf_mk M2 io2 sg2) T2 cs2) lv_153 ln_271 (l_rc 271 oo_271 hI2m _) rfl (show (1 : Nat) ≤ 8 by decide) dl_1435 hr ?_
      refine r_iceq (t := 1443) (by decide) dl_1438 (fun _ => ?_) (fun c => absurd rfl c)
      refine r_iinc (n := 3) (k := 8) (x := nI (8 * m)) (v := nI (8 * m + 8)) (ls' := [(3, .int (nI (8 * m + 8))), (2, .ref 100), (1, .ref 0), (0, .ref 1000009)]) rfl (nI_add _ 8) (by decide) rfl dl_1443 ?_
      refine r_goto (t := 18) (by decide) dl_1446 ?_
      exact ih_m M2 T2 cs2 io2 sg2 hI2 (b_st1 h1 hb1) (b_st2 h2 hb2)
