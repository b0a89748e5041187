theorem dL_law_0 : decode code 0 = .ok (.new 7, 3) := by decide +kernel
theorem dL_law_3 : decode code 3 = .ok (.dup, 1) := by decide +kernel
theorem dL_law_4 : decode code 4 = .ok (.invokespecial 9, 3) := by decide +kernel
theorem dL_law_7 : decode code 7 = .ok (.astore_n 1, 1) := by decide +kernel
theorem dL_law_8 : decode code 8 = .ok (.new 10, 3) := by decide +kernel
theorem dL_law_11 : decode code 11 = .ok (.dup, 1) := by decide +kernel
theorem dL_law_12 : decode code 12 = .ok (.invokespecial 12, 3) := by decide +kernel
theorem dL_law_15 : decode code 15 = .ok (.astore_n 2, 1) := by decide +kernel
theorem dL_law_16 : decode code 16 = .ok (.iconst 0, 1) := by decide +kernel
theorem dL_law_17 : decode code 17 = .ok (.istore_n 3, 1) := by decide +kernel
theorem dL_law_18 : decode code 18 = .ok (.iload_n 3, 1) := by decide +kernel
theorem dL_law_19 : decode code 19 = .ok (.aload_n 0, 1) := by decide +kernel
theorem dL_law_20 : decode code 20 = .ok (.arraylength, 1) := by decide +kernel
theorem dL_law_21 : decode code 21 = .ok (.bipush 6, 2) := by decide +kernel
theorem dL_law_23 : decode code 23 = .ok (.isub, 1) := by decide +kernel
theorem dL_law_24 : decode code 24 = .ok (.if_icmp .gt 1238, 3) := by decide +kernel
theorem dL_law_27 : decode code 27 = .ok (.aload_n 0, 1) := by decide +kernel
theorem dL_law_28 : decode code 28 = .ok (.iload_n 3, 1) := by decide +kernel
theorem dL_law_29 : decode code 29 = .ok (.iaload, 1) := by decide +kernel
theorem dL_law_30 : decode code 30 = .ok (.bipush 63, 2) := by decide +kernel
theorem dL_law_32 : decode code 32 = .ok (.iand, 1) := by decide +kernel
theorem dL_law_33 : decode code 33 = .ok (.tableswitch 1223 0 37 #[167, 200, 223, 246, 269, 292, 305, 338, 371, 404, 417, 440, 483, 516, 539, 562, 575, 598, 611, 644, 667, 690, 723, 756, 769, 782, 815, 838, 861, 895, 938, 981, 1004, 1057, 1100, 1163, 1186, 1209], 167) := by decide +kernel
theorem dL_law_200 : decode code 200 = .ok (.aload_n 1, 1) := by decide +kernel
theorem dL_law_201 : decode code 201 = .ok (.aload_n 0, 1) := by decide +kernel
theorem dL_law_202 : decode code 202 = .ok (.iload_n 3, 1) := by decide +kernel
theorem dL_law_203 : decode code 203 = .ok (.iconst 1, 1) := by decide +kernel
theorem dL_law_204 : decode code 204 = .ok (.iadd, 1) := by decide +kernel
theorem dL_law_205 : decode code 205 = .ok (.iaload, 1) := by decide +kernel
theorem dL_law_206 : decode code 206 = .ok (.aload_n 0, 1) := by decide +kernel
theorem dL_law_207 : decode code 207 = .ok (.iload_n 3, 1) := by decide +kernel
theorem dL_law_208 : decode code 208 = .ok (.iconst 2, 1) := by decide +kernel
theorem dL_law_209 : decode code 209 = .ok (.iadd, 1) := by decide +kernel
theorem dL_law_210 : decode code 210 = .ok (.iaload, 1) := by decide +kernel
theorem dL_law_211 : decode code 211 = .ok (.invokevirtual 13, 3) := by decide +kernel
theorem dL_law_214 : decode code 214 = .ok (.aload_n 2, 1) := by decide +kernel
theorem dL_law_215 : decode code 215 = .ok (.aload_n 0, 1) := by decide +kernel
theorem dL_law_216 : decode code 216 = .ok (.iload_n 3, 1) := by decide +kernel
theorem dL_law_217 : decode code 217 = .ok (.iconst 1, 1) := by decide +kernel
theorem dL_law_218 : decode code 218 = .ok (.iadd, 1) := by decide +kernel
theorem dL_law_219 : decode code 219 = .ok (.iaload, 1) := by decide +kernel
theorem dL_law_220 : decode code 220 = .ok (.aload_n 0, 1) := by decide +kernel
theorem dL_law_221 : decode code 221 = .ok (.iload_n 3, 1) := by decide +kernel
theorem dL_law_222 : decode code 222 = .ok (.iconst 2, 1) := by decide +kernel
theorem dL_law_223 : decode code 223 = .ok (.iadd, 1) := by decide +kernel
theorem dL_law_224 : decode code 224 = .ok (.iaload, 1) := by decide +kernel
theorem dL_law_225 : decode code 225 = .ok (.invokevirtual 17, 3) := by decide +kernel
theorem dL_law_228 : decode code 228 = .ok (.if_icmp .eq 1028, 3) := by decide +kernel
theorem dL_law_231 : decode code 231 = .ok (.iconst 0, 1) := by decide +kernel
theorem dL_law_232 : decode code 232 = .ok (.ireturn, 1) := by decide +kernel
theorem dL_law_233 : decode code 233 = .ok (.aload_n 1, 1) := by decide +kernel
theorem dL_law_234 : decode code 234 = .ok (.aload_n 0, 1) := by decide +kernel
theorem dL_law_235 : decode code 235 = .ok (.iload_n 3, 1) := by decide +kernel
theorem dL_law_236 : decode code 236 = .ok (.iconst 1, 1) := by decide +kernel
theorem dL_law_237 : decode code 237 = .ok (.iadd, 1) := by decide +kernel
theorem dL_law_238 : decode code 238 = .ok (.iaload, 1) := by decide +kernel
theorem dL_law_239 : decode code 239 = .ok (.invokevirtual 18, 3) := by decide +kernel
theorem dL_law_242 : decode code 242 = .ok (.aload_n 2, 1) := by decide +kernel
theorem dL_law_243 : decode code 243 = .ok (.aload_n 0, 1) := by decide +kernel
theorem dL_law_244 : decode code 244 = .ok (.iload_n 3, 1) := by decide +kernel
theorem dL_law_245 : decode code 245 = .ok (.iconst 1, 1) := by decide +kernel
theorem dL_law_246 : decode code 246 = .ok (.iadd, 1) := by decide +kernel
theorem dL_law_247 : decode code 247 = .ok (.iaload, 1) := by decide +kernel
theorem dL_law_248 : decode code 248 = .ok (.invokevirtual 22, 3) := by decide +kernel
theorem dL_law_251 : decode code 251 = .ok (.if_icmp .eq 1005, 3) := by decide +kernel
theorem dL_law_254 : decode code 254 = .ok (.iconst 0, 1) := by decide +kernel
theorem dL_law_255 : decode code 255 = .ok (.ireturn, 1) := by decide +kernel
theorem dL_law_256 : decode code 256 = .ok (.aload_n 1, 1) := by decide +kernel
theorem dL_law_257 : decode code 257 = .ok (.aload_n 0, 1) := by decide +kernel
theorem dL_law_258 : decode code 258 = .ok (.iload_n 3, 1) := by decide +kernel
theorem dL_law_259 : decode code 259 = .ok (.iconst 1, 1) := by decide +kernel
theorem dL_law_260 : decode code 260 = .ok (.iadd, 1) := by decide +kernel
theorem dL_law_261 : decode code 261 = .ok (.iaload, 1) := by decide +kernel
theorem dL_law_262 : decode code 262 = .ok (.invokevirtual 23, 3) := by decide +kernel
theorem dL_law_265 : decode code 265 = .ok (.aload_n 2, 1) := by decide +kernel
theorem dL_law_266 : decode code 266 = .ok (.aload_n 0, 1) := by decide +kernel
theorem dL_law_267 : decode code 267 = .ok (.iload_n 3, 1) := by decide +kernel
theorem dL_law_268 : decode code 268 = .ok (.iconst 1, 1) := by decide +kernel
theorem dL_law_269 : decode code 269 = .ok (.iadd, 1) := by decide +kernel
theorem dL_law_270 : decode code 270 = .ok (.iaload, 1) := by decide +kernel
theorem dL_law_271 : decode code 271 = .ok (.invokevirtual 26, 3) := by decide +kernel
theorem dL_law_274 : decode code 274 = .ok (.if_icmp .eq 982, 3) := by decide +kernel
theorem dL_law_277 : decode code 277 = .ok (.iconst 0, 1) := by decide +kernel
theorem dL_law_278 : decode code 278 = .ok (.ireturn, 1) := by decide +kernel
theorem dL_law_279 : decode code 279 = .ok (.aload_n 1, 1) := by decide +kernel
theorem dL_law_280 : decode code 280 = .ok (.aload_n 0, 1) := by decide +kernel
theorem dL_law_281 : decode code 281 = .ok (.iload_n 3, 1) := by decide +kernel
theorem dL_law_282 : decode code 282 = .ok (.iconst 1, 1) := by decide +kernel
theorem dL_law_283 : decode code 283 = .ok (.iadd, 1) := by decide +kernel
theorem dL_law_284 : decode code 284 = .ok (.iaload, 1) := by decide +kernel
theorem dL_law_285 : decode code 285 = .ok (.invokevirtual 27, 3) := by decide +kernel
theorem dL_law_288 : decode code 288 = .ok (.aload_n 2, 1) := by decide +kernel
theorem dL_law_289 : decode code 289 = .ok (.aload_n 0, 1) := by decide +kernel
theorem dL_law_290 : decode code 290 = .ok (.iload_n 3, 1) := by decide +kernel
theorem dL_law_291 : decode code 291 = .ok (.iconst 1, 1) := by decide +kernel
theorem dL_law_292 : decode code 292 = .ok (.iadd, 1) := by decide +kernel
theorem dL_law_293 : decode code 293 = .ok (.iaload, 1) := by decide +kernel
theorem dL_law_294 : decode code 294 = .ok (.invokevirtual 30, 3) := by decide +kernel
theorem dL_law_297 : decode code 297 = .ok (.if_icmp .eq 959, 3) := by decide +kernel
theorem dL_law_300 : decode code 300 = .ok (.iconst 0, 1) := by decide +kernel
theorem dL_law_301 : decode code 301 = .ok (.ireturn, 1) := by decide +kernel
theorem dL_law_302 : decode code 302 = .ok (.aload_n 1, 1) := by decide +kernel
theorem dL_law_303 : decode code 303 = .ok (.aload_n 0, 1) := by decide +kernel
theorem dL_law_304 : decode code 304 = .ok (.iload_n 3, 1) := by decide +kernel
theorem dL_law_305 : decode code 305 = .ok (.iconst 1, 1) := by decide +kernel
theorem dL_law_306 : decode code 306 = .ok (.iadd, 1) := by decide +kernel
theorem dL_law_307 : decode code 307 = .ok (.iaload, 1) := by decide +kernel
theorem dL_law_308 : decode code 308 = .ok (.invokevirtual 31, 3) := by decide +kernel
theorem dL_law_311 : decode code 311 = .ok (.aload_n 2, 1) := by decide +kernel
theorem dL_law_312 : decode code 312 = .ok (.aload_n 0, 1) := by decide +kernel
theorem dL_law_313 : decode code 313 = .ok (.iload_n 3, 1) := by decide +kernel
theorem dL_law_314 : decode code 314 = .ok (.iconst 1, 1) := by decide +kernel
theorem dL_law_315 : decode code 315 = .ok (.iadd, 1) := by decide +kernel
theorem dL_law_316 : decode code 316 = .ok (.iaload, 1) := by decide +kernel
theorem dL_law_317 : decode code 317 = .ok (.invokevirtual 34, 3) := by decide +kernel
theorem dL_law_320 : decode code 320 = .ok (.if_icmp .eq 936, 3) := by decide +kernel
theorem dL_law_323 : decode code 323 = .ok (.iconst 0, 1) := by decide +kernel
theorem dL_law_324 : decode code 324 = .ok (.ireturn, 1) := by decide +kernel
theorem dL_law_325 : decode code 325 = .ok (.aload_n 1, 1) := by decide +kernel
theorem dL_law_326 : decode code 326 = .ok (.invokevirtual 35, 3) := by decide +kernel
theorem dL_law_329 : decode code 329 = .ok (.aload_n 2, 1) := by decide +kernel
theorem dL_law_330 : decode code 330 = .ok (.invokevirtual 39, 3) := by decide +kernel
theorem dL_law_333 : decode code 333 = .ok (.if_icmp .eq 923, 3) := by decide +kernel
theorem dL_law_336 : decode code 336 = .ok (.iconst 0, 1) := by decide +kernel
theorem dL_law_337 : decode code 337 = .ok (.ireturn, 1) := by decide +kernel
theorem dL_law_338 : decode code 338 = .ok (.aload_n 1, 1) := by decide +kernel
theorem dL_law_339 : decode code 339 = .ok (.aload_n 0, 1) := by decide +kernel
theorem dL_law_340 : decode code 340 = .ok (.iload_n 3, 1) := by decide +kernel
theorem dL_law_341 : decode code 341 = .ok (.iconst 1, 1) := by decide +kernel
theorem dL_law_342 : decode code 342 = .ok (.iadd, 1) := by decide +kernel
theorem dL_law_343 : decode code 343 = .ok (.iaload, 1) := by decide +kernel
theorem dL_law_344 : decode code 344 = .ok (.aload_n 0, 1) := by decide +kernel
theorem dL_law_345 : decode code 345 = .ok (.iload_n 3, 1) := by decide +kernel
theorem dL_law_346 : decode code 346 = .ok (.iconst 2, 1) := by decide +kernel
theorem dL_law_347 : decode code 347 = .ok (.iadd, 1) := by decide +kernel
theorem dL_law_348 : decode code 348 = .ok (.iaload, 1) := by decide +kernel
theorem dL_law_349 : decode code 349 = .ok (.invokevirtual 40, 3) := by decide +kernel
theorem dL_law_352 : decode code 352 = .ok (.aload_n 2, 1) := by decide +kernel
theorem dL_law_353 : decode code 353 = .ok (.aload_n 0, 1) := by decide +kernel
theorem dL_law_354 : decode code 354 = .ok (.iload_n 3, 1) := by decide +kernel
theorem dL_law_355 : decode code 355 = .ok (.iconst 1, 1) := by decide +kernel
theorem dL_law_356 : decode code 356 = .ok (.iadd, 1) := by decide +kernel
theorem dL_law_357 : decode code 357 = .ok (.iaload, 1) := by decide +kernel
theorem dL_law_358 : decode code 358 = .ok (.aload_n 0, 1) := by decide +kernel
theorem dL_law_359 : decode code 359 = .ok (.iload_n 3, 1) := by decide +kernel
theorem dL_law_360 : decode code 360 = .ok (.iconst 2, 1) := by decide +kernel
theorem dL_law_361 : decode code 361 = .ok (.iadd, 1) := by decide +kernel
theorem dL_law_362 : decode code 362 = .ok (.iaload, 1) := by decide +kernel
theorem dL_law_363 : decode code 363 = .ok (.invokevirtual 43, 3) := by decide +kernel
theorem dL_law_366 : decode code 366 = .ok (.if_icmp .eq 890, 3) := by decide +kernel
theorem dL_law_369 : decode code 369 = .ok (.iconst 0, 1) := by decide +kernel
theorem dL_law_370 : decode code 370 = .ok (.ireturn, 1) := by decide +kernel
theorem dL_law_371 : decode code 371 = .ok (.aload_n 1, 1) := by decide +kernel
theorem dL_law_372 : decode code 372 = .ok (.aload_n 0, 1) := by decide +kernel
theorem dL_law_373 : decode code 373 = .ok (.iload_n 3, 1) := by decide +kernel
theorem dL_law_374 : decode code 374 = .ok (.iconst 1, 1) := by decide +kernel
theorem dL_law_375 : decode code 375 = .ok (.iadd, 1) := by decide +kernel
theorem dL_law_376 : decode code 376 = .ok (.iaload, 1) := by decide +kernel
theorem dL_law_377 : decode code 377 = .ok (.aload_n 0, 1) := by decide +kernel
theorem dL_law_378 : decode code 378 = .ok (.iload_n 3, 1) := by decide +kernel
theorem dL_law_379 : decode code 379 = .ok (.iconst 2, 1) := by decide +kernel
theorem dL_law_380 : decode code 380 = .ok (.iadd, 1) := by decide +kernel
theorem dL_law_381 : decode code 381 = .ok (.iaload, 1) := by decide +kernel
theorem dL_law_382 : decode code 382 = .ok (.invokevirtual 44, 3) := by decide +kernel
theorem dL_law_385 : decode code 385 = .ok (.aload_n 2, 1) := by decide +kernel
theorem dL_law_386 : decode code 386 = .ok (.aload_n 0, 1) := by decide +kernel
theorem dL_law_387 : decode code 387 = .ok (.iload_n 3, 1) := by decide +kernel
theorem dL_law_388 : decode code 388 = .ok (.iconst 1, 1) := by decide +kernel
theorem dL_law_389 : decode code 389 = .ok (.iadd, 1) := by decide +kernel
theorem dL_law_390 : decode code 390 = .ok (.iaload, 1) := by decide +kernel
theorem dL_law_391 : decode code 391 = .ok (.aload_n 0, 1) := by decide +kernel
theorem dL_law_392 : decode code 392 = .ok (.iload_n 3, 1) := by decide +kernel
theorem dL_law_393 : decode code 393 = .ok (.iconst 2, 1) := by decide +kernel
theorem dL_law_394 : decode code 394 = .ok (.iadd, 1) := by decide +kernel
theorem dL_law_395 : decode code 395 = .ok (.iaload, 1) := by decide +kernel
theorem dL_law_396 : decode code 396 = .ok (.invokevirtual 47, 3) := by decide +kernel
theorem dL_law_399 : decode code 399 = .ok (.if_icmp .eq 857, 3) := by decide +kernel
theorem dL_law_402 : decode code 402 = .ok (.iconst 0, 1) := by decide +kernel
theorem dL_law_403 : decode code 403 = .ok (.ireturn, 1) := by decide +kernel
theorem dL_law_404 : decode code 404 = .ok (.aload_n 1, 1) := by decide +kernel
theorem dL_law_405 : decode code 405 = .ok (.aload_n 0, 1) := by decide +kernel
theorem dL_law_406 : decode code 406 = .ok (.iload_n 3, 1) := by decide +kernel
theorem dL_law_407 : decode code 407 = .ok (.iconst 1, 1) := by decide +kernel
theorem dL_law_408 : decode code 408 = .ok (.iadd, 1) := by decide +kernel
theorem dL_law_409 : decode code 409 = .ok (.iaload, 1) := by decide +kernel
theorem dL_law_410 : decode code 410 = .ok (.aload_n 0, 1) := by decide +kernel
theorem dL_law_411 : decode code 411 = .ok (.iload_n 3, 1) := by decide +kernel
theorem dL_law_412 : decode code 412 = .ok (.iconst 2, 1) := by decide +kernel
theorem dL_law_413 : decode code 413 = .ok (.iadd, 1) := by decide +kernel
theorem dL_law_414 : decode code 414 = .ok (.iaload, 1) := by decide +kernel
theorem dL_law_415 : decode code 415 = .ok (.invokevirtual 48, 3) := by decide +kernel
theorem dL_law_418 : decode code 418 = .ok (.aload_n 2, 1) := by decide +kernel
theorem dL_law_419 : decode code 419 = .ok (.aload_n 0, 1) := by decide +kernel
theorem dL_law_420 : decode code 420 = .ok (.iload_n 3, 1) := by decide +kernel
theorem dL_law_421 : decode code 421 = .ok (.iconst 1, 1) := by decide +kernel
theorem dL_law_422 : decode code 422 = .ok (.iadd, 1) := by decide +kernel
theorem dL_law_423 : decode code 423 = .ok (.iaload, 1) := by decide +kernel
theorem dL_law_424 : decode code 424 = .ok (.aload_n 0, 1) := by decide +kernel
theorem dL_law_425 : decode code 425 = .ok (.iload_n 3, 1) := by decide +kernel
theorem dL_law_426 : decode code 426 = .ok (.iconst 2, 1) := by decide +kernel
theorem dL_law_427 : decode code 427 = .ok (.iadd, 1) := by decide +kernel
theorem dL_law_428 : decode code 428 = .ok (.iaload, 1) := by decide +kernel
theorem dL_law_429 : decode code 429 = .ok (.invokevirtual 51, 3) := by decide +kernel
theorem dL_law_432 : decode code 432 = .ok (.if_icmp .eq 824, 3) := by decide +kernel
theorem dL_law_435 : decode code 435 = .ok (.iconst 0, 1) := by decide +kernel
theorem dL_law_436 : decode code 436 = .ok (.ireturn, 1) := by decide +kernel
theorem dL_law_437 : decode code 437 = .ok (.aload_n 1, 1) := by decide +kernel
theorem dL_law_438 : decode code 438 = .ok (.invokevirtual 52, 3) := by decide +kernel
theorem dL_law_441 : decode code 441 = .ok (.aload_n 2, 1) := by decide +kernel
theorem dL_law_442 : decode code 442 = .ok (.invokevirtual 55, 3) := by decide +kernel
theorem dL_law_445 : decode code 445 = .ok (.if_icmp .eq 811, 3) := by decide +kernel
theorem dL_law_448 : decode code 448 = .ok (.iconst 0, 1) := by decide +kernel
theorem dL_law_449 : decode code 449 = .ok (.ireturn, 1) := by decide +kernel
theorem dL_law_450 : decode code 450 = .ok (.aload_n 1, 1) := by decide +kernel
theorem dL_law_451 : decode code 451 = .ok (.aload_n 0, 1) := by decide +kernel
theorem dL_law_452 : decode code 452 = .ok (.iload_n 3, 1) := by decide +kernel
theorem dL_law_453 : decode code 453 = .ok (.iconst 1, 1) := by decide +kernel
theorem dL_law_454 : decode code 454 = .ok (.iadd, 1) := by decide +kernel
theorem dL_law_455 : decode code 455 = .ok (.iaload, 1) := by decide +kernel
theorem dL_law_456 : decode code 456 = .ok (.invokevirtual 56, 3) := by decide +kernel
theorem dL_law_459 : decode code 459 = .ok (.aload_n 2, 1) := by decide +kernel
theorem dL_law_460 : decode code 460 = .ok (.aload_n 0, 1) := by decide +kernel
theorem dL_law_461 : decode code 461 = .ok (.iload_n 3, 1) := by decide +kernel
theorem dL_law_462 : decode code 462 = .ok (.iconst 1, 1) := by decide +kernel
theorem dL_law_463 : decode code 463 = .ok (.iadd, 1) := by decide +kernel
theorem dL_law_464 : decode code 464 = .ok (.iaload, 1) := by decide +kernel
theorem dL_law_465 : decode code 465 = .ok (.invokevirtual 59, 3) := by decide +kernel
theorem dL_law_468 : decode code 468 = .ok (.if_icmp .eq 788, 3) := by decide +kernel
theorem dL_law_471 : decode code 471 = .ok (.iconst 0, 1) := by decide +kernel
theorem dL_law_472 : decode code 472 = .ok (.ireturn, 1) := by decide +kernel
theorem dL_law_473 : decode code 473 = .ok (.aload_n 1, 1) := by decide +kernel
theorem dL_law_474 : decode code 474 = .ok (.aload_n 0, 1) := by decide +kernel
theorem dL_law_475 : decode code 475 = .ok (.iload_n 3, 1) := by decide +kernel
theorem dL_law_476 : decode code 476 = .ok (.iconst 1, 1) := by decide +kernel
theorem dL_law_477 : decode code 477 = .ok (.iadd, 1) := by decide +kernel
theorem dL_law_478 : decode code 478 = .ok (.iaload, 1) := by decide +kernel
theorem dL_law_479 : decode code 479 = .ok (.aload_n 0, 1) := by decide +kernel
theorem dL_law_480 : decode code 480 = .ok (.iload_n 3, 1) := by decide +kernel
theorem dL_law_481 : decode code 481 = .ok (.iconst 2, 1) := by decide +kernel
theorem dL_law_482 : decode code 482 = .ok (.iadd, 1) := by decide +kernel
theorem dL_law_483 : decode code 483 = .ok (.iaload, 1) := by decide +kernel
theorem dL_law_484 : decode code 484 = .ok (.aload_n 0, 1) := by decide +kernel
theorem dL_law_485 : decode code 485 = .ok (.iload_n 3, 1) := by decide +kernel
theorem dL_law_486 : decode code 486 = .ok (.iconst 3, 1) := by decide +kernel
theorem dL_law_487 : decode code 487 = .ok (.iadd, 1) := by decide +kernel
theorem dL_law_488 : decode code 488 = .ok (.iaload, 1) := by decide +kernel
theorem dL_law_489 : decode code 489 = .ok (.invokevirtual 60, 3) := by decide +kernel
theorem dL_law_492 : decode code 492 = .ok (.aload_n 2, 1) := by decide +kernel
theorem dL_law_493 : decode code 493 = .ok (.aload_n 0, 1) := by decide +kernel
theorem dL_law_494 : decode code 494 = .ok (.iload_n 3, 1) := by decide +kernel
theorem dL_law_495 : decode code 495 = .ok (.iconst 1, 1) := by decide +kernel
theorem dL_law_496 : decode code 496 = .ok (.iadd, 1) := by decide +kernel
theorem dL_law_497 : decode code 497 = .ok (.iaload, 1) := by decide +kernel
theorem dL_law_498 : decode code 498 = .ok (.aload_n 0, 1) := by decide +kernel
theorem dL_law_499 : decode code 499 = .ok (.iload_n 3, 1) := by decide +kernel
theorem dL_law_500 : decode code 500 = .ok (.iconst 2, 1) := by decide +kernel
theorem dL_law_501 : decode code 501 = .ok (.iadd, 1) := by decide +kernel
theorem dL_law_502 : decode code 502 = .ok (.iaload, 1) := by decide +kernel
theorem dL_law_503 : decode code 503 = .ok (.aload_n 0, 1) := by decide +kernel
theorem dL_law_504 : decode code 504 = .ok (.iload_n 3, 1) := by decide +kernel
theorem dL_law_505 : decode code 505 = .ok (.iconst 3, 1) := by decide +kernel
theorem dL_law_506 : decode code 506 = .ok (.iadd, 1) := by decide +kernel
theorem dL_law_507 : decode code 507 = .ok (.iaload, 1) := by decide +kernel
theorem dL_law_508 : decode code 508 = .ok (.invokevirtual 64, 3) := by decide +kernel
theorem dL_law_511 : decode code 511 = .ok (.if_icmp .eq 745, 3) := by decide +kernel
theorem dL_law_514 : decode code 514 = .ok (.iconst 0, 1) := by decide +kernel
theorem dL_law_515 : decode code 515 = .ok (.ireturn, 1) := by decide +kernel
theorem dL_law_516 : decode code 516 = .ok (.aload_n 1, 1) := by decide +kernel
theorem dL_law_517 : decode code 517 = .ok (.aload_n 0, 1) := by decide +kernel
theorem dL_law_518 : decode code 518 = .ok (.iload_n 3, 1) := by decide +kernel
theorem dL_law_519 : decode code 519 = .ok (.iconst 1, 1) := by decide +kernel
theorem dL_law_520 : decode code 520 = .ok (.iadd, 1) := by decide +kernel
theorem dL_law_521 : decode code 521 = .ok (.iaload, 1) := by decide +kernel
theorem dL_law_522 : decode code 522 = .ok (.aload_n 0, 1) := by decide +kernel
theorem dL_law_523 : decode code 523 = .ok (.iload_n 3, 1) := by decide +kernel
theorem dL_law_524 : decode code 524 = .ok (.iconst 2, 1) := by decide +kernel
theorem dL_law_525 : decode code 525 = .ok (.iadd, 1) := by decide +kernel
theorem dL_law_526 : decode code 526 = .ok (.iaload, 1) := by decide +kernel
theorem dL_law_527 : decode code 527 = .ok (.invokevirtual 65, 3) := by decide +kernel
theorem dL_law_530 : decode code 530 = .ok (.aload_n 2, 1) := by decide +kernel
theorem dL_law_531 : decode code 531 = .ok (.aload_n 0, 1) := by decide +kernel
theorem dL_law_532 : decode code 532 = .ok (.iload_n 3, 1) := by decide +kernel
theorem dL_law_533 : decode code 533 = .ok (.iconst 1, 1) := by decide +kernel
theorem dL_law_534 : decode code 534 = .ok (.iadd, 1) := by decide +kernel
theorem dL_law_535 : decode code 535 = .ok (.iaload, 1) := by decide +kernel
