theorem dL_law_0 : decode code 0 = .ok (.new 8, 3) := by decide +kernel
theorem dL_law_3 : decode code 3 = .ok (.dup, 1) := by decide +kernel
theorem dL_law_4 : decode code 4 = .ok (.invokespecial 129, 3) := by decide +kernel
theorem dL_law_7 : decode code 7 = .ok (.astore_n 1, 1) := by decide +kernel
theorem dL_law_8 : decode code 8 = .ok (.new 130, 3) := by decide +kernel
theorem dL_law_11 : decode code 11 = .ok (.dup, 1) := by decide +kernel
theorem dL_law_12 : decode code 12 = .ok (.invokespecial 132, 3) := by decide +kernel
theorem dL_law_15 : decode code 15 = .ok (.astore_n 2, 1) := by decide +kernel
theorem dL_law_16 : decode code 16 = .ok (.iconst 1, 1) := by decide +kernel
theorem dL_law_17 : decode code 17 = .ok (.newarray .long, 2) := by decide +kernel
theorem dL_law_19 : decode code 19 = .ok (.astore_n 3, 1) := by decide +kernel
theorem dL_law_20 : decode code 20 = .ok (.iconst 1, 1) := by decide +kernel
theorem dL_law_21 : decode code 21 = .ok (.newarray .double, 2) := by decide +kernel
theorem dL_law_23 : decode code 23 = .ok (.astore 4, 2) := by decide +kernel
theorem dL_law_25 : decode code 25 = .ok (.iconst 0, 1) := by decide +kernel
theorem dL_law_26 : decode code 26 = .ok (.istore 5, 2) := by decide +kernel
theorem dL_law_28 : decode code 28 = .ok (.iload 5, 2) := by decide +kernel
theorem dL_law_30 : decode code 30 = .ok (.aload_n 0, 1) := by decide +kernel
theorem dL_law_31 : decode code 31 = .ok (.arraylength, 1) := by decide +kernel
theorem dL_law_32 : decode code 32 = .ok (.iconst 4, 1) := by decide +kernel
theorem dL_law_33 : decode code 33 = .ok (.isub, 1) := by decide +kernel
theorem dL_law_34 : decode code 34 = .ok (.if_icmp .gt 2276, 3) := by decide +kernel
theorem dL_law_37 : decode code 37 = .ok (.aload_n 0, 1) := by decide +kernel
theorem dL_law_38 : decode code 38 = .ok (.iload 5, 2) := by decide +kernel
theorem dL_law_40 : decode code 40 = .ok (.iaload, 1) := by decide +kernel
theorem dL_law_41 : decode code 41 = .ok (.bipush 63, 2) := by decide +kernel
theorem dL_law_43 : decode code 43 = .ok (.iand, 1) := by decide +kernel
theorem dL_law_44 : decode code 44 = .ok (.tableswitch 2260 0 36 #[164, 244, 324, 392, 436, 516, 584, 640, 696, 764, 820, 888, 956, 1012, 1068, 1124, 1204, 1272, 1340, 1408, 1464, 1532, 1595, 1651, 1664, 1677, 1735, 1779, 1792, 1848, 1904, 1960, 2037, 2103, 2159, 2203, 2216], 164) := by decide +kernel
theorem dL_law_208 : decode code 208 = .ok (.aload_n 1, 1) := by decide +kernel
theorem dL_law_209 : decode code 209 = .ok (.aload_n 0, 1) := by decide +kernel
theorem dL_law_210 : decode code 210 = .ok (.iload 5, 2) := by decide +kernel
theorem dL_law_212 : decode code 212 = .ok (.iconst 1, 1) := by decide +kernel
theorem dL_law_213 : decode code 213 = .ok (.iadd, 1) := by decide +kernel
theorem dL_law_214 : decode code 214 = .ok (.iaload, 1) := by decide +kernel
theorem dL_law_215 : decode code 215 = .ok (.aload_n 0, 1) := by decide +kernel
theorem dL_law_216 : decode code 216 = .ok (.iload 5, 2) := by decide +kernel
theorem dL_law_218 : decode code 218 = .ok (.iconst 2, 1) := by decide +kernel
theorem dL_law_219 : decode code 219 = .ok (.iadd, 1) := by decide +kernel
theorem dL_law_220 : decode code 220 = .ok (.iaload, 1) := by decide +kernel
theorem dL_law_221 : decode code 221 = .ok (.aload_n 0, 1) := by decide +kernel
theorem dL_law_222 : decode code 222 = .ok (.iload 5, 2) := by decide +kernel
theorem dL_law_224 : decode code 224 = .ok (.iconst 3, 1) := by decide +kernel
theorem dL_law_225 : decode code 225 = .ok (.iadd, 1) := by decide +kernel
theorem dL_law_226 : decode code 226 = .ok (.iaload, 1) := by decide +kernel
theorem dL_law_227 : decode code 227 = .ok (.aload_n 3, 1) := by decide +kernel
theorem dL_law_228 : decode code 228 = .ok (.invokestatic 133, 3) := by decide +kernel
theorem dL_law_231 : decode code 231 = .ok (.istore 6, 2) := by decide +kernel
theorem dL_law_233 : decode code 233 = .ok (.aload_n 2, 1) := by decide +kernel
theorem dL_law_234 : decode code 234 = .ok (.aload_n 0, 1) := by decide +kernel
theorem dL_law_235 : decode code 235 = .ok (.iload 5, 2) := by decide +kernel
theorem dL_law_237 : decode code 237 = .ok (.iconst 1, 1) := by decide +kernel
theorem dL_law_238 : decode code 238 = .ok (.iadd, 1) := by decide +kernel
theorem dL_law_239 : decode code 239 = .ok (.iaload, 1) := by decide +kernel
theorem dL_law_240 : decode code 240 = .ok (.aload_n 0, 1) := by decide +kernel
theorem dL_law_241 : decode code 241 = .ok (.iload 5, 2) := by decide +kernel
theorem dL_law_243 : decode code 243 = .ok (.iconst 2, 1) := by decide +kernel
theorem dL_law_244 : decode code 244 = .ok (.iadd, 1) := by decide +kernel
theorem dL_law_245 : decode code 245 = .ok (.iaload, 1) := by decide +kernel
theorem dL_law_246 : decode code 246 = .ok (.aload_n 0, 1) := by decide +kernel
theorem dL_law_247 : decode code 247 = .ok (.iload 5, 2) := by decide +kernel
theorem dL_law_249 : decode code 249 = .ok (.iconst 3, 1) := by decide +kernel
theorem dL_law_250 : decode code 250 = .ok (.iadd, 1) := by decide +kernel
theorem dL_law_251 : decode code 251 = .ok (.iaload, 1) := by decide +kernel
theorem dL_law_252 : decode code 252 = .ok (.invokevirtual 138, 3) := by decide +kernel
theorem dL_law_255 : decode code 255 = .ok (.istore 7, 2) := by decide +kernel
theorem dL_law_257 : decode code 257 = .ok (.aload_n 2, 1) := by decide +kernel
theorem dL_law_258 : decode code 258 = .ok (.invokevirtual 139, 3) := by decide +kernel
theorem dL_law_261 : decode code 261 = .ok (.iload 6, 2) := by decide +kernel
theorem dL_law_263 : decode code 263 = .ok (.if_icmp .eq 5, 3) := by decide +kernel
theorem dL_law_266 : decode code 266 = .ok (.iconst 0, 1) := by decide +kernel
theorem dL_law_267 : decode code 267 = .ok (.ireturn, 1) := by decide +kernel
theorem dL_law_268 : decode code 268 = .ok (.iload 6, 2) := by decide +kernel
theorem dL_law_270 : decode code 270 = .ok (.ifCond .ne 15, 3) := by decide +kernel
theorem dL_law_273 : decode code 273 = .ok (.aload_n 3, 1) := by decide +kernel
theorem dL_law_274 : decode code 274 = .ok (.iconst 0, 1) := by decide +kernel
theorem dL_law_275 : decode code 275 = .ok (.laload, 1) := by decide +kernel
theorem dL_law_276 : decode code 276 = .ok (.iload 7, 2) := by decide +kernel
theorem dL_law_278 : decode code 278 = .ok (.i2l, 1) := by decide +kernel
theorem dL_law_279 : decode code 279 = .ok (.lcmp, 1) := by decide +kernel
theorem dL_law_280 : decode code 280 = .ok (.ifCond .eq 5, 3) := by decide +kernel
theorem dL_law_283 : decode code 283 = .ok (.iconst 0, 1) := by decide +kernel
theorem dL_law_284 : decode code 284 = .ok (.ireturn, 1) := by decide +kernel
theorem dL_law_285 : decode code 285 = .ok (.goto 2019, 3) := by decide +kernel
theorem dL_law_288 : decode code 288 = .ok (.aload_n 1, 1) := by decide +kernel
theorem dL_law_289 : decode code 289 = .ok (.aload_n 0, 1) := by decide +kernel
theorem dL_law_290 : decode code 290 = .ok (.iload 5, 2) := by decide +kernel
theorem dL_law_292 : decode code 292 = .ok (.iconst 1, 1) := by decide +kernel
theorem dL_law_293 : decode code 293 = .ok (.iadd, 1) := by decide +kernel
theorem dL_law_294 : decode code 294 = .ok (.iaload, 1) := by decide +kernel
theorem dL_law_295 : decode code 295 = .ok (.aload_n 0, 1) := by decide +kernel
theorem dL_law_296 : decode code 296 = .ok (.iload 5, 2) := by decide +kernel
theorem dL_law_298 : decode code 298 = .ok (.iconst 2, 1) := by decide +kernel
theorem dL_law_299 : decode code 299 = .ok (.iadd, 1) := by decide +kernel
theorem dL_law_300 : decode code 300 = .ok (.iaload, 1) := by decide +kernel
theorem dL_law_301 : decode code 301 = .ok (.aload_n 0, 1) := by decide +kernel
theorem dL_law_302 : decode code 302 = .ok (.iload 5, 2) := by decide +kernel
theorem dL_law_304 : decode code 304 = .ok (.iconst 3, 1) := by decide +kernel
theorem dL_law_305 : decode code 305 = .ok (.iadd, 1) := by decide +kernel
theorem dL_law_306 : decode code 306 = .ok (.iaload, 1) := by decide +kernel
theorem dL_law_307 : decode code 307 = .ok (.aload_n 3, 1) := by decide +kernel
theorem dL_law_308 : decode code 308 = .ok (.invokestatic 142, 3) := by decide +kernel
theorem dL_law_311 : decode code 311 = .ok (.istore 6, 2) := by decide +kernel
theorem dL_law_313 : decode code 313 = .ok (.aload_n 2, 1) := by decide +kernel
theorem dL_law_314 : decode code 314 = .ok (.aload_n 0, 1) := by decide +kernel
theorem dL_law_315 : decode code 315 = .ok (.iload 5, 2) := by decide +kernel
theorem dL_law_317 : decode code 317 = .ok (.iconst 1, 1) := by decide +kernel
theorem dL_law_318 : decode code 318 = .ok (.iadd, 1) := by decide +kernel
theorem dL_law_319 : decode code 319 = .ok (.iaload, 1) := by decide +kernel
theorem dL_law_320 : decode code 320 = .ok (.aload_n 0, 1) := by decide +kernel
theorem dL_law_321 : decode code 321 = .ok (.iload 5, 2) := by decide +kernel
theorem dL_law_323 : decode code 323 = .ok (.iconst 2, 1) := by decide +kernel
theorem dL_law_324 : decode code 324 = .ok (.iadd, 1) := by decide +kernel
theorem dL_law_325 : decode code 325 = .ok (.iaload, 1) := by decide +kernel
theorem dL_law_326 : decode code 326 = .ok (.aload_n 0, 1) := by decide +kernel
theorem dL_law_327 : decode code 327 = .ok (.iload 5, 2) := by decide +kernel
theorem dL_law_329 : decode code 329 = .ok (.iconst 3, 1) := by decide +kernel
theorem dL_law_330 : decode code 330 = .ok (.iadd, 1) := by decide +kernel
theorem dL_law_331 : decode code 331 = .ok (.iaload, 1) := by decide +kernel
theorem dL_law_332 : decode code 332 = .ok (.invokevirtual 144, 3) := by decide +kernel
theorem dL_law_335 : decode code 335 = .ok (.istore 7, 2) := by decide +kernel
theorem dL_law_337 : decode code 337 = .ok (.aload_n 2, 1) := by decide +kernel
theorem dL_law_338 : decode code 338 = .ok (.invokevirtual 139, 3) := by decide +kernel
theorem dL_law_341 : decode code 341 = .ok (.iload 6, 2) := by decide +kernel
theorem dL_law_343 : decode code 343 = .ok (.if_icmp .eq 5, 3) := by decide +kernel
theorem dL_law_346 : decode code 346 = .ok (.iconst 0, 1) := by decide +kernel
theorem dL_law_347 : decode code 347 = .ok (.ireturn, 1) := by decide +kernel
theorem dL_law_348 : decode code 348 = .ok (.iload 6, 2) := by decide +kernel
theorem dL_law_350 : decode code 350 = .ok (.ifCond .ne 15, 3) := by decide +kernel
theorem dL_law_353 : decode code 353 = .ok (.aload_n 3, 1) := by decide +kernel
theorem dL_law_354 : decode code 354 = .ok (.iconst 0, 1) := by decide +kernel
theorem dL_law_355 : decode code 355 = .ok (.laload, 1) := by decide +kernel
theorem dL_law_356 : decode code 356 = .ok (.iload 7, 2) := by decide +kernel
theorem dL_law_358 : decode code 358 = .ok (.i2l, 1) := by decide +kernel
theorem dL_law_359 : decode code 359 = .ok (.lcmp, 1) := by decide +kernel
theorem dL_law_360 : decode code 360 = .ok (.ifCond .eq 5, 3) := by decide +kernel
theorem dL_law_363 : decode code 363 = .ok (.iconst 0, 1) := by decide +kernel
theorem dL_law_364 : decode code 364 = .ok (.ireturn, 1) := by decide +kernel
theorem dL_law_365 : decode code 365 = .ok (.goto 1939, 3) := by decide +kernel
theorem dL_law_368 : decode code 368 = .ok (.aload_n 1, 1) := by decide +kernel
theorem dL_law_369 : decode code 369 = .ok (.aload_n 0, 1) := by decide +kernel
theorem dL_law_370 : decode code 370 = .ok (.iload 5, 2) := by decide +kernel
theorem dL_law_372 : decode code 372 = .ok (.iconst 1, 1) := by decide +kernel
theorem dL_law_373 : decode code 373 = .ok (.iadd, 1) := by decide +kernel
theorem dL_law_374 : decode code 374 = .ok (.iaload, 1) := by decide +kernel
theorem dL_law_375 : decode code 375 = .ok (.aload_n 0, 1) := by decide +kernel
theorem dL_law_376 : decode code 376 = .ok (.iload 5, 2) := by decide +kernel
theorem dL_law_378 : decode code 378 = .ok (.iconst 2, 1) := by decide +kernel
theorem dL_law_379 : decode code 379 = .ok (.iadd, 1) := by decide +kernel
theorem dL_law_380 : decode code 380 = .ok (.iaload, 1) := by decide +kernel
theorem dL_law_381 : decode code 381 = .ok (.aload_n 3, 1) := by decide +kernel
theorem dL_law_382 : decode code 382 = .ok (.invokestatic 145, 3) := by decide +kernel
theorem dL_law_385 : decode code 385 = .ok (.istore 6, 2) := by decide +kernel
theorem dL_law_387 : decode code 387 = .ok (.aload_n 2, 1) := by decide +kernel
theorem dL_law_388 : decode code 388 = .ok (.aload_n 0, 1) := by decide +kernel
theorem dL_law_389 : decode code 389 = .ok (.iload 5, 2) := by decide +kernel
theorem dL_law_391 : decode code 391 = .ok (.iconst 1, 1) := by decide +kernel
theorem dL_law_392 : decode code 392 = .ok (.iadd, 1) := by decide +kernel
theorem dL_law_393 : decode code 393 = .ok (.iaload, 1) := by decide +kernel
theorem dL_law_394 : decode code 394 = .ok (.aload_n 0, 1) := by decide +kernel
theorem dL_law_395 : decode code 395 = .ok (.iload 5, 2) := by decide +kernel
theorem dL_law_397 : decode code 397 = .ok (.iconst 2, 1) := by decide +kernel
theorem dL_law_398 : decode code 398 = .ok (.iadd, 1) := by decide +kernel
theorem dL_law_399 : decode code 399 = .ok (.iaload, 1) := by decide +kernel
theorem dL_law_400 : decode code 400 = .ok (.invokevirtual 148, 3) := by decide +kernel
theorem dL_law_403 : decode code 403 = .ok (.istore 7, 2) := by decide +kernel
theorem dL_law_405 : decode code 405 = .ok (.aload_n 2, 1) := by decide +kernel
theorem dL_law_406 : decode code 406 = .ok (.invokevirtual 139, 3) := by decide +kernel
theorem dL_law_409 : decode code 409 = .ok (.iload 6, 2) := by decide +kernel
theorem dL_law_411 : decode code 411 = .ok (.if_icmp .eq 5, 3) := by decide +kernel
theorem dL_law_414 : decode code 414 = .ok (.iconst 0, 1) := by decide +kernel
theorem dL_law_415 : decode code 415 = .ok (.ireturn, 1) := by decide +kernel
theorem dL_law_416 : decode code 416 = .ok (.iload 6, 2) := by decide +kernel
theorem dL_law_418 : decode code 418 = .ok (.ifCond .ne 15, 3) := by decide +kernel
theorem dL_law_421 : decode code 421 = .ok (.aload_n 3, 1) := by decide +kernel
theorem dL_law_422 : decode code 422 = .ok (.iconst 0, 1) := by decide +kernel
theorem dL_law_423 : decode code 423 = .ok (.laload, 1) := by decide +kernel
theorem dL_law_424 : decode code 424 = .ok (.iload 7, 2) := by decide +kernel
theorem dL_law_426 : decode code 426 = .ok (.i2l, 1) := by decide +kernel
theorem dL_law_427 : decode code 427 = .ok (.lcmp, 1) := by decide +kernel
theorem dL_law_428 : decode code 428 = .ok (.ifCond .eq 5, 3) := by decide +kernel
theorem dL_law_431 : decode code 431 = .ok (.iconst 0, 1) := by decide +kernel
theorem dL_law_432 : decode code 432 = .ok (.ireturn, 1) := by decide +kernel
theorem dL_law_433 : decode code 433 = .ok (.goto 1871, 3) := by decide +kernel
theorem dL_law_436 : decode code 436 = .ok (.aload_n 1, 1) := by decide +kernel
theorem dL_law_437 : decode code 437 = .ok (.aload_n 3, 1) := by decide +kernel
theorem dL_law_438 : decode code 438 = .ok (.invokestatic 149, 3) := by decide +kernel
theorem dL_law_441 : decode code 441 = .ok (.istore 6, 2) := by decide +kernel
theorem dL_law_443 : decode code 443 = .ok (.aload_n 2, 1) := by decide +kernel
theorem dL_law_444 : decode code 444 = .ok (.invokevirtual 152, 3) := by decide +kernel
theorem dL_law_447 : decode code 447 = .ok (.istore 7, 2) := by decide +kernel
theorem dL_law_449 : decode code 449 = .ok (.aload_n 2, 1) := by decide +kernel
theorem dL_law_450 : decode code 450 = .ok (.invokevirtual 139, 3) := by decide +kernel
theorem dL_law_453 : decode code 453 = .ok (.iload 6, 2) := by decide +kernel
theorem dL_law_455 : decode code 455 = .ok (.if_icmp .eq 5, 3) := by decide +kernel
theorem dL_law_458 : decode code 458 = .ok (.iconst 0, 1) := by decide +kernel
theorem dL_law_459 : decode code 459 = .ok (.ireturn, 1) := by decide +kernel
theorem dL_law_460 : decode code 460 = .ok (.iload 6, 2) := by decide +kernel
theorem dL_law_462 : decode code 462 = .ok (.ifCond .ne 15, 3) := by decide +kernel
theorem dL_law_465 : decode code 465 = .ok (.aload_n 3, 1) := by decide +kernel
theorem dL_law_466 : decode code 466 = .ok (.iconst 0, 1) := by decide +kernel
theorem dL_law_467 : decode code 467 = .ok (.laload, 1) := by decide +kernel
theorem dL_law_468 : decode code 468 = .ok (.iload 7, 2) := by decide +kernel
theorem dL_law_470 : decode code 470 = .ok (.i2l, 1) := by decide +kernel
theorem dL_law_471 : decode code 471 = .ok (.lcmp, 1) := by decide +kernel
theorem dL_law_472 : decode code 472 = .ok (.ifCond .eq 5, 3) := by decide +kernel
theorem dL_law_475 : decode code 475 = .ok (.iconst 0, 1) := by decide +kernel
theorem dL_law_476 : decode code 476 = .ok (.ireturn, 1) := by decide +kernel
theorem dL_law_477 : decode code 477 = .ok (.goto 1827, 3) := by decide +kernel
theorem dL_law_480 : decode code 480 = .ok (.aload_n 1, 1) := by decide +kernel
theorem dL_law_481 : decode code 481 = .ok (.aload_n 0, 1) := by decide +kernel
theorem dL_law_482 : decode code 482 = .ok (.iload 5, 2) := by decide +kernel
theorem dL_law_484 : decode code 484 = .ok (.iconst 1, 1) := by decide +kernel
theorem dL_law_485 : decode code 485 = .ok (.iadd, 1) := by decide +kernel
theorem dL_law_486 : decode code 486 = .ok (.iaload, 1) := by decide +kernel
theorem dL_law_487 : decode code 487 = .ok (.aload_n 0, 1) := by decide +kernel
theorem dL_law_488 : decode code 488 = .ok (.iload 5, 2) := by decide +kernel
theorem dL_law_490 : decode code 490 = .ok (.iconst 2, 1) := by decide +kernel
theorem dL_law_491 : decode code 491 = .ok (.iadd, 1) := by decide +kernel
theorem dL_law_492 : decode code 492 = .ok (.iaload, 1) := by decide +kernel
theorem dL_law_493 : decode code 493 = .ok (.aload_n 0, 1) := by decide +kernel
theorem dL_law_494 : decode code 494 = .ok (.iload 5, 2) := by decide +kernel
theorem dL_law_496 : decode code 496 = .ok (.iconst 3, 1) := by decide +kernel
theorem dL_law_497 : decode code 497 = .ok (.iadd, 1) := by decide +kernel
theorem dL_law_498 : decode code 498 = .ok (.iaload, 1) := by decide +kernel
theorem dL_law_499 : decode code 499 = .ok (.aload_n 3, 1) := by decide +kernel
theorem dL_law_500 : decode code 500 = .ok (.invokestatic 153, 3) := by decide +kernel
theorem dL_law_503 : decode code 503 = .ok (.istore 6, 2) := by decide +kernel
theorem dL_law_505 : decode code 505 = .ok (.aload_n 2, 1) := by decide +kernel
theorem dL_law_506 : decode code 506 = .ok (.aload_n 0, 1) := by decide +kernel
theorem dL_law_507 : decode code 507 = .ok (.iload 5, 2) := by decide +kernel
theorem dL_law_509 : decode code 509 = .ok (.iconst 1, 1) := by decide +kernel
theorem dL_law_510 : decode code 510 = .ok (.iadd, 1) := by decide +kernel
theorem dL_law_511 : decode code 511 = .ok (.iaload, 1) := by decide +kernel
theorem dL_law_512 : decode code 512 = .ok (.aload_n 0, 1) := by decide +kernel
theorem dL_law_513 : decode code 513 = .ok (.iload 5, 2) := by decide +kernel
theorem dL_law_515 : decode code 515 = .ok (.iconst 2, 1) := by decide +kernel
theorem dL_law_516 : decode code 516 = .ok (.iadd, 1) := by decide +kernel
theorem dL_law_517 : decode code 517 = .ok (.iaload, 1) := by decide +kernel
theorem dL_law_518 : decode code 518 = .ok (.aload_n 0, 1) := by decide +kernel
theorem dL_law_519 : decode code 519 = .ok (.iload 5, 2) := by decide +kernel
theorem dL_law_521 : decode code 521 = .ok (.iconst 3, 1) := by decide +kernel
theorem dL_law_522 : decode code 522 = .ok (.iadd, 1) := by decide +kernel
theorem dL_law_523 : decode code 523 = .ok (.iaload, 1) := by decide +kernel
theorem dL_law_524 : decode code 524 = .ok (.invokevirtual 155, 3) := by decide +kernel
theorem dL_law_527 : decode code 527 = .ok (.istore 7, 2) := by decide +kernel
theorem dL_law_529 : decode code 529 = .ok (.aload_n 2, 1) := by decide +kernel
theorem dL_law_530 : decode code 530 = .ok (.invokevirtual 139, 3) := by decide +kernel
theorem dL_law_533 : decode code 533 = .ok (.iload 6, 2) := by decide +kernel
theorem dL_law_535 : decode code 535 = .ok (.if_icmp .eq 5, 3) := by decide +kernel
theorem dL_law_538 : decode code 538 = .ok (.iconst 0, 1) := by decide +kernel
theorem dL_law_539 : decode code 539 = .ok (.ireturn, 1) := by decide +kernel
theorem dL_law_540 : decode code 540 = .ok (.iload 6, 2) := by decide +kernel
theorem dL_law_542 : decode code 542 = .ok (.ifCond .ne 15, 3) := by decide +kernel
theorem dL_law_545 : decode code 545 = .ok (.aload_n 3, 1) := by decide +kernel
theorem dL_law_546 : decode code 546 = .ok (.iconst 0, 1) := by decide +kernel
theorem dL_law_547 : decode code 547 = .ok (.laload, 1) := by decide +kernel
theorem dL_law_548 : decode code 548 = .ok (.iload 7, 2) := by decide +kernel
theorem dL_law_550 : decode code 550 = .ok (.i2l, 1) := by decide +kernel
theorem dL_law_551 : decode code 551 = .ok (.lcmp, 1) := by decide +kernel
theorem dL_law_552 : decode code 552 = .ok (.ifCond .eq 5, 3) := by decide +kernel
theorem dL_law_555 : decode code 555 = .ok (.iconst 0, 1) := by decide +kernel
theorem dL_law_556 : decode code 556 = .ok (.ireturn, 1) := by decide +kernel
theorem dL_law_557 : decode code 557 = .ok (.goto 1747, 3) := by decide +kernel
theorem dL_law_560 : decode code 560 = .ok (.aload_n 1, 1) := by decide +kernel
theorem dL_law_561 : decode code 561 = .ok (.aload_n 0, 1) := by decide +kernel
theorem dL_law_562 : decode code 562 = .ok (.iload 5, 2) := by decide +kernel
theorem dL_law_564 : decode code 564 = .ok (.iconst 1, 1) := by decide +kernel
theorem dL_law_565 : decode code 565 = .ok (.iadd, 1) := by decide +kernel
theorem dL_law_566 : decode code 566 = .ok (.iaload, 1) := by decide +kernel
theorem dL_law_567 : decode code 567 = .ok (.aload_n 0, 1) := by decide +kernel
theorem dL_law_568 : decode code 568 = .ok (.iload 5, 2) := by decide +kernel
theorem dL_law_570 : decode code 570 = .ok (.iconst 2, 1) := by decide +kernel
theorem dL_law_571 : decode code 571 = .ok (.iadd, 1) := by decide +kernel
theorem dL_law_572 : decode code 572 = .ok (.iaload, 1) := by decide +kernel
theorem dL_law_573 : decode code 573 = .ok (.aload_n 3, 1) := by decide +kernel
theorem dL_law_574 : decode code 574 = .ok (.invokestatic 156, 3) := by decide +kernel
theorem dL_law_577 : decode code 577 = .ok (.istore 6, 2) := by decide +kernel
theorem dL_law_579 : decode code 579 = .ok (.aload_n 2, 1) := by decide +kernel
theorem dL_law_580 : decode code 580 = .ok (.aload_n 0, 1) := by decide +kernel
theorem dL_law_581 : decode code 581 = .ok (.iload 5, 2) := by decide +kernel
theorem dL_law_583 : decode code 583 = .ok (.iconst 1, 1) := by decide +kernel
theorem dL_law_584 : decode code 584 = .ok (.iadd, 1) := by decide +kernel
theorem dL_law_585 : decode code 585 = .ok (.iaload, 1) := by decide +kernel
theorem dL_law_586 : decode code 586 = .ok (.aload_n 0, 1) := by decide +kernel
theorem dL_law_587 : decode code 587 = .ok (.iload 5, 2) := by decide +kernel
theorem dL_law_589 : decode code 589 = .ok (.iconst 2, 1) := by decide +kernel
theorem dL_law_590 : decode code 590 = .ok (.iadd, 1) := by decide +kernel
theorem dL_law_591 : decode code 591 = .ok (.iaload, 1) := by decide +kernel
theorem dL_law_592 : decode code 592 = .ok (.invokevirtual 158, 3) := by decide +kernel
theorem dL_law_595 : decode code 595 = .ok (.istore 7, 2) := by decide +kernel
theorem dL_law_597 : decode code 597 = .ok (.aload_n 2, 1) := by decide +kernel
theorem dL_law_598 : decode code 598 = .ok (.invokevirtual 139, 3) := by decide +kernel
theorem dL_law_601 : decode code 601 = .ok (.iload 6, 2) := by decide +kernel
theorem dL_law_603 : decode code 603 = .ok (.if_icmp .eq 5, 3) := by decide +kernel
theorem dL_law_606 : decode code 606 = .ok (.iconst 0, 1) := by decide +kernel
theorem dL_law_607 : decode code 607 = .ok (.ireturn, 1) := by decide +kernel
theorem dL_law_608 : decode code 608 = .ok (.iload 6, 2) := by decide +kernel
theorem dL_law_610 : decode code 610 = .ok (.ifCond .ne 15, 3) := by decide +kernel
theorem dL_law_613 : decode code 613 = .ok (.aload_n 3, 1) := by decide +kernel
theorem dL_law_614 : decode code 614 = .ok (.iconst 0, 1) := by decide +kernel
theorem dL_law_615 : decode code 615 = .ok (.laload, 1) := by decide +kernel
theorem dL_law_616 : decode code 616 = .ok (.iload 7, 2) := by decide +kernel
theorem dL_law_618 : decode code 618 = .ok (.i2l, 1) := by decide +kernel
theorem dL_law_619 : decode code 619 = .ok (.lcmp, 1) := by decide +kernel
theorem dL_law_620 : decode code 620 = .ok (.ifCond .eq 5, 3) := by decide +kernel
theorem dL_law_623 : decode code 623 = .ok (.iconst 0, 1) := by decide +kernel
theorem dL_law_624 : decode code 624 = .ok (.ireturn, 1) := by decide +kernel
theorem dL_law_625 : decode code 625 = .ok (.goto 1679, 3) := by decide +kernel
theorem dL_law_628 : decode code 628 = .ok (.aload_n 1, 1) := by decide +kernel
theorem dL_law_629 : decode code 629 = .ok (.aload_n 0, 1) := by decide +kernel
theorem dL_law_630 : decode code 630 = .ok (.iload 5, 2) := by decide +kernel
theorem dL_law_632 : decode code 632 = .ok (.iconst 1, 1) := by decide +kernel
theorem dL_law_633 : decode code 633 = .ok (.iadd, 1) := by decide +kernel
theorem dL_law_634 : decode code 634 = .ok (.iaload, 1) := by decide +kernel
theorem dL_law_635 : decode code 635 = .ok (.aload_n 3, 1) := by decide +kernel
theorem dL_law_636 : decode code 636 = .ok (.invokestatic 159, 3) := by decide +kernel
theorem dL_law_639 : decode code 639 = .ok (.istore 6, 2) := by decide +kernel
theorem dL_law_641 : decode code 641 = .ok (.aload_n 2, 1) := by decide +kernel
theorem dL_law_642 : decode code 642 = .ok (.aload_n 0, 1) := by decide +kernel
theorem dL_law_643 : decode code 643 = .ok (.iload 5, 2) := by decide +kernel
theorem dL_law_645 : decode code 645 = .ok (.iconst 1, 1) := by decide +kernel
theorem dL_law_646 : decode code 646 = .ok (.iadd, 1) := by decide +kernel
theorem dL_law_647 : decode code 647 = .ok (.iaload, 1) := by decide +kernel
theorem dL_law_648 : decode code 648 = .ok (.invokevirtual 162, 3) := by decide +kernel
theorem dL_law_651 : decode code 651 = .ok (.istore 7, 2) := by decide +kernel
theorem dL_law_653 : decode code 653 = .ok (.aload_n 2, 1) := by decide +kernel
theorem dL_law_654 : decode code 654 = .ok (.invokevirtual 139, 3) := by decide +kernel
theorem dL_law_657 : decode code 657 = .ok (.iload 6, 2) := by decide +kernel
theorem dL_law_659 : decode code 659 = .ok (.if_icmp .eq 5, 3) := by decide +kernel
theorem dL_law_662 : decode code 662 = .ok (.iconst 0, 1) := by decide +kernel
theorem dL_law_663 : decode code 663 = .ok (.ireturn, 1) := by decide +kernel
theorem dL_law_664 : decode code 664 = .ok (.iload 6, 2) := by decide +kernel
theorem dL_law_666 : decode code 666 = .ok (.ifCond .ne 15, 3) := by decide +kernel
theorem dL_law_669 : decode code 669 = .ok (.aload_n 3, 1) := by decide +kernel
theorem dL_law_670 : decode code 670 = .ok (.iconst 0, 1) := by decide +kernel
theorem dL_law_671 : decode code 671 = .ok (.laload, 1) := by decide +kernel
theorem dL_law_672 : decode code 672 = .ok (.iload 7, 2) := by decide +kernel
theorem dL_law_674 : decode code 674 = .ok (.i2l, 1) := by decide +kernel
theorem dL_law_675 : decode code 675 = .ok (.lcmp, 1) := by decide +kernel
theorem dL_law_676 : decode code 676 = .ok (.ifCond .eq 5, 3) := by decide +kernel
theorem dL_law_679 : decode code 679 = .ok (.iconst 0, 1) := by decide +kernel
theorem dL_law_680 : decode code 680 = .ok (.ireturn, 1) := by decide +kernel
theorem dL_law_681 : decode code 681 = .ok (.goto 1623, 3) := by decide +kernel
theorem dL_law_684 : decode code 684 = .ok (.aload_n 1, 1) := by decide +kernel
theorem dL_law_685 : decode code 685 = .ok (.aload_n 0, 1) := by decide +kernel
theorem dL_law_686 : decode code 686 = .ok (.iload 5, 2) := by decide +kernel
theorem dL_law_688 : decode code 688 = .ok (.iconst 1, 1) := by decide +kernel
theorem dL_law_689 : decode code 689 = .ok (.iadd, 1) := by decide +kernel
theorem dL_law_690 : decode code 690 = .ok (.iaload, 1) := by decide +kernel
theorem dL_law_691 : decode code 691 = .ok (.aload_n 3, 1) := by decide +kernel
theorem dL_law_692 : decode code 692 = .ok (.invokestatic 163, 3) := by decide +kernel
theorem dL_law_695 : decode code 695 = .ok (.istore 6, 2) := by decide +kernel
theorem dL_law_697 : decode code 697 = .ok (.aload_n 2, 1) := by decide +kernel
theorem dL_law_698 : decode code 698 = .ok (.aload_n 0, 1) := by decide +kernel
theorem dL_law_699 : decode code 699 = .ok (.iload 5, 2) := by decide +kernel
theorem dL_law_701 : decode code 701 = .ok (.iconst 1, 1) := by decide +kernel
theorem dL_law_702 : decode code 702 = .ok (.iadd, 1) := by decide +kernel
theorem dL_law_703 : decode code 703 = .ok (.iaload, 1) := by decide +kernel
theorem dL_law_704 : decode code 704 = .ok (.invokevirtual 165, 3) := by decide +kernel
theorem dL_law_707 : decode code 707 = .ok (.istore 7, 2) := by decide +kernel
theorem dL_law_709 : decode code 709 = .ok (.aload_n 2, 1) := by decide +kernel
theorem dL_law_710 : decode code 710 = .ok (.invokevirtual 139, 3) := by decide +kernel
theorem dL_law_713 : decode code 713 = .ok (.iload 6, 2) := by decide +kernel
theorem dL_law_715 : decode code 715 = .ok (.if_icmp .eq 5, 3) := by decide +kernel
theorem dL_law_718 : decode code 718 = .ok (.iconst 0, 1) := by decide +kernel
theorem dL_law_719 : decode code 719 = .ok (.ireturn, 1) := by decide +kernel
theorem dL_law_720 : decode code 720 = .ok (.iload 6, 2) := by decide +kernel
theorem dL_law_722 : decode code 722 = .ok (.ifCond .ne 15, 3) := by decide +kernel
theorem dL_law_725 : decode code 725 = .ok (.aload_n 3, 1) := by decide +kernel
theorem dL_law_726 : decode code 726 = .ok (.iconst 0, 1) := by decide +kernel
theorem dL_law_727 : decode code 727 = .ok (.laload, 1) := by decide +kernel
theorem dL_law_728 : decode code 728 = .ok (.iload 7, 2) := by decide +kernel
theorem dL_law_730 : decode code 730 = .ok (.i2l, 1) := by decide +kernel
theorem dL_law_731 : decode code 731 = .ok (.lcmp, 1) := by decide +kernel
theorem dL_law_732 : decode code 732 = .ok (.ifCond .eq 5, 3) := by decide +kernel
theorem dL_law_735 : decode code 735 = .ok (.iconst 0, 1) := by decide +kernel
theorem dL_law_736 : decode code 736 = .ok (.ireturn, 1) := by decide +kernel
theorem dL_law_737 : decode code 737 = .ok (.goto 1567, 3) := by decide +kernel
theorem dL_law_740 : decode code 740 = .ok (.aload_n 1, 1) := by decide +kernel
theorem dL_law_741 : decode code 741 = .ok (.aload_n 0, 1) := by decide +kernel
theorem dL_law_742 : decode code 742 = .ok (.iload 5, 2) := by decide +kernel
theorem dL_law_744 : decode code 744 = .ok (.iconst 1, 1) := by decide +kernel
theorem dL_law_745 : decode code 745 = .ok (.iadd, 1) := by decide +kernel
theorem dL_law_746 : decode code 746 = .ok (.iaload, 1) := by decide +kernel
theorem dL_law_747 : decode code 747 = .ok (.aload_n 0, 1) := by decide +kernel
theorem dL_law_748 : decode code 748 = .ok (.iload 5, 2) := by decide +kernel
theorem dL_law_750 : decode code 750 = .ok (.iconst 2, 1) := by decide +kernel
theorem dL_law_751 : decode code 751 = .ok (.iadd, 1) := by decide +kernel
theorem dL_law_752 : decode code 752 = .ok (.iaload, 1) := by decide +kernel
theorem dL_law_753 : decode code 753 = .ok (.aload_n 3, 1) := by decide +kernel
theorem dL_law_754 : decode code 754 = .ok (.invokestatic 166, 3) := by decide +kernel
theorem dL_law_757 : decode code 757 = .ok (.istore 6, 2) := by decide +kernel
theorem dL_law_759 : decode code 759 = .ok (.aload_n 2, 1) := by decide +kernel
theorem dL_law_760 : decode code 760 = .ok (.aload_n 0, 1) := by decide +kernel
theorem dL_law_761 : decode code 761 = .ok (.iload 5, 2) := by decide +kernel
theorem dL_law_763 : decode code 763 = .ok (.iconst 1, 1) := by decide +kernel
theorem dL_law_764 : decode code 764 = .ok (.iadd, 1) := by decide +kernel
theorem dL_law_765 : decode code 765 = .ok (.iaload, 1) := by decide +kernel
theorem dL_law_766 : decode code 766 = .ok (.aload_n 0, 1) := by decide +kernel
theorem dL_law_767 : decode code 767 = .ok (.iload 5, 2) := by decide +kernel
theorem dL_law_769 : decode code 769 = .ok (.iconst 2, 1) := by decide +kernel
theorem dL_law_770 : decode code 770 = .ok (.iadd, 1) := by decide +kernel
theorem dL_law_771 : decode code 771 = .ok (.iaload, 1) := by decide +kernel
theorem dL_law_772 : decode code 772 = .ok (.invokevirtual 168, 3) := by decide +kernel
theorem dL_law_775 : decode code 775 = .ok (.istore 7, 2) := by decide +kernel
theorem dL_law_777 : decode code 777 = .ok (.aload_n 2, 1) := by decide +kernel
theorem dL_law_778 : decode code 778 = .ok (.invokevirtual 139, 3) := by decide +kernel
theorem dL_law_781 : decode code 781 = .ok (.iload 6, 2) := by decide +kernel
theorem dL_law_783 : decode code 783 = .ok (.if_icmp .eq 5, 3) := by decide +kernel
theorem dL_law_786 : decode code 786 = .ok (.iconst 0, 1) := by decide +kernel
theorem dL_law_787 : decode code 787 = .ok (.ireturn, 1) := by decide +kernel
theorem dL_law_788 : decode code 788 = .ok (.iload 6, 2) := by decide +kernel
theorem dL_law_790 : decode code 790 = .ok (.ifCond .ne 15, 3) := by decide +kernel
theorem dL_law_793 : decode code 793 = .ok (.aload_n 3, 1) := by decide +kernel
theorem dL_law_794 : decode code 794 = .ok (.iconst 0, 1) := by decide +kernel
theorem dL_law_795 : decode code 795 = .ok (.laload, 1) := by decide +kernel
theorem dL_law_796 : decode code 796 = .ok (.iload 7, 2) := by decide +kernel
theorem dL_law_798 : decode code 798 = .ok (.i2l, 1) := by decide +kernel
theorem dL_law_799 : decode code 799 = .ok (.lcmp, 1) := by decide +kernel
theorem dL_law_800 : decode code 800 = .ok (.ifCond .eq 5, 3) := by decide +kernel
theorem dL_law_803 : decode code 803 = .ok (.iconst 0, 1) := by decide +kernel
theorem dL_law_804 : decode code 804 = .ok (.ireturn, 1) := by decide +kernel
theorem dL_law_805 : decode code 805 = .ok (.goto 1499, 3) := by decide +kernel
theorem dL_law_808 : decode code 808 = .ok (.aload_n 1, 1) := by decide +kernel
theorem dL_law_809 : decode code 809 = .ok (.aload_n 0, 1) := by decide +kernel
theorem dL_law_810 : decode code 810 = .ok (.iload 5, 2) := by decide +kernel
theorem dL_law_812 : decode code 812 = .ok (.iconst 1, 1) := by decide +kernel
theorem dL_law_813 : decode code 813 = .ok (.iadd, 1) := by decide +kernel
theorem dL_law_814 : decode code 814 = .ok (.iaload, 1) := by decide +kernel
theorem dL_law_815 : decode code 815 = .ok (.aload_n 3, 1) := by decide +kernel
theorem dL_law_816 : decode code 816 = .ok (.invokestatic 169, 3) := by decide +kernel
theorem dL_law_819 : decode code 819 = .ok (.istore 6, 2) := by decide +kernel
theorem dL_law_821 : decode code 821 = .ok (.aload_n 2, 1) := by decide +kernel
theorem dL_law_822 : decode code 822 = .ok (.aload_n 0, 1) := by decide +kernel
theorem dL_law_823 : decode code 823 = .ok (.iload 5, 2) := by decide +kernel
theorem dL_law_825 : decode code 825 = .ok (.iconst 1, 1) := by decide +kernel
theorem dL_law_826 : decode code 826 = .ok (.iadd, 1) := by decide +kernel
theorem dL_law_827 : decode code 827 = .ok (.iaload, 1) := by decide +kernel
theorem dL_law_828 : decode code 828 = .ok (.invokevirtual 171, 3) := by decide +kernel
theorem dL_law_831 : decode code 831 = .ok (.istore 7, 2) := by decide +kernel
theorem dL_law_833 : decode code 833 = .ok (.aload_n 2, 1) := by decide +kernel
theorem dL_law_834 : decode code 834 = .ok (.invokevirtual 139, 3) := by decide +kernel
theorem dL_law_837 : decode code 837 = .ok (.iload 6, 2) := by decide +kernel
theorem dL_law_839 : decode code 839 = .ok (.if_icmp .eq 5, 3) := by decide +kernel
theorem dL_law_842 : decode code 842 = .ok (.iconst 0, 1) := by decide +kernel
theorem dL_law_843 : decode code 843 = .ok (.ireturn, 1) := by decide +kernel
theorem dL_law_844 : decode code 844 = .ok (.iload 6, 2) := by decide +kernel
theorem dL_law_846 : decode code 846 = .ok (.ifCond .ne 15, 3) := by decide +kernel
theorem dL_law_849 : decode code 849 = .ok (.aload_n 3, 1) := by decide +kernel
theorem dL_law_850 : decode code 850 = .ok (.iconst 0, 1) := by decide +kernel
theorem dL_law_851 : decode code 851 = .ok (.laload, 1) := by decide +kernel
theorem dL_law_852 : decode code 852 = .ok (.iload 7, 2) := by decide +kernel
theorem dL_law_854 : decode code 854 = .ok (.i2l, 1) := by decide +kernel
theorem dL_law_855 : decode code 855 = .ok (.lcmp, 1) := by decide +kernel
theorem dL_law_856 : decode code 856 = .ok (.ifCond .eq 5, 3) := by decide +kernel
theorem dL_law_859 : decode code 859 = .ok (.iconst 0, 1) := by decide +kernel
theorem dL_law_860 : decode code 860 = .ok (.ireturn, 1) := by decide +kernel
theorem dL_law_861 : decode code 861 = .ok (.goto 1443, 3) := by decide +kernel
theorem dL_law_864 : decode code 864 = .ok (.aload_n 1, 1) := by decide +kernel
theorem dL_law_865 : decode code 865 = .ok (.aload_n 0, 1) := by decide +kernel
theorem dL_law_866 : decode code 866 = .ok (.iload 5, 2) := by decide +kernel
theorem dL_law_868 : decode code 868 = .ok (.iconst 1, 1) := by decide +kernel
theorem dL_law_869 : decode code 869 = .ok (.iadd, 1) := by decide +kernel
theorem dL_law_870 : decode code 870 = .ok (.iaload, 1) := by decide +kernel
theorem dL_law_871 : decode code 871 = .ok (.aload_n 0, 1) := by decide +kernel
theorem dL_law_872 : decode code 872 = .ok (.iload 5, 2) := by decide +kernel
theorem dL_law_874 : decode code 874 = .ok (.iconst 2, 1) := by decide +kernel
theorem dL_law_875 : decode code 875 = .ok (.iadd, 1) := by decide +kernel
theorem dL_law_876 : decode code 876 = .ok (.iaload, 1) := by decide +kernel
theorem dL_law_877 : decode code 877 = .ok (.aload_n 3, 1) := by decide +kernel
theorem dL_law_878 : decode code 878 = .ok (.invokestatic 172, 3) := by decide +kernel
theorem dL_law_881 : decode code 881 = .ok (.istore 6, 2) := by decide +kernel
theorem dL_law_883 : decode code 883 = .ok (.aload_n 2, 1) := by decide +kernel
theorem dL_law_884 : decode code 884 = .ok (.aload_n 0, 1) := by decide +kernel
theorem dL_law_885 : decode code 885 = .ok (.iload 5, 2) := by decide +kernel
theorem dL_law_887 : decode code 887 = .ok (.iconst 1, 1) := by decide +kernel
theorem dL_law_888 : decode code 888 = .ok (.iadd, 1) := by decide +kernel
theorem dL_law_889 : decode code 889 = .ok (.iaload, 1) := by decide +kernel
theorem dL_law_890 : decode code 890 = .ok (.aload_n 0, 1) := by decide +kernel
theorem dL_law_891 : decode code 891 = .ok (.iload 5, 2) := by decide +kernel
theorem dL_law_893 : decode code 893 = .ok (.iconst 2, 1) := by decide +kernel
theorem dL_law_894 : decode code 894 = .ok (.iadd, 1) := by decide +kernel
theorem dL_law_895 : decode code 895 = .ok (.iaload, 1) := by decide +kernel
theorem dL_law_896 : decode code 896 = .ok (.invokevirtual 174, 3) := by decide +kernel
theorem dL_law_899 : decode code 899 = .ok (.istore 7, 2) := by decide +kernel
theorem dL_law_901 : decode code 901 = .ok (.aload_n 2, 1) := by decide +kernel
theorem dL_law_902 : decode code 902 = .ok (.invokevirtual 139, 3) := by decide +kernel
theorem dL_law_905 : decode code 905 = .ok (.iload 6, 2) := by decide +kernel
theorem dL_law_907 : decode code 907 = .ok (.if_icmp .eq 5, 3) := by decide +kernel
theorem dL_law_910 : decode code 910 = .ok (.iconst 0, 1) := by decide +kernel
theorem dL_law_911 : decode code 911 = .ok (.ireturn, 1) := by decide +kernel
theorem dL_law_912 : decode code 912 = .ok (.iload 6, 2) := by decide +kernel
theorem dL_law_914 : decode code 914 = .ok (.ifCond .ne 15, 3) := by decide +kernel
theorem dL_law_917 : decode code 917 = .ok (.aload_n 3, 1) := by decide +kernel
theorem dL_law_918 : decode code 918 = .ok (.iconst 0, 1) := by decide +kernel
theorem dL_law_919 : decode code 919 = .ok (.laload, 1) := by decide +kernel
theorem dL_law_920 : decode code 920 = .ok (.iload 7, 2) := by decide +kernel
theorem dL_law_922 : decode code 922 = .ok (.i2l, 1) := by decide +kernel
theorem dL_law_923 : decode code 923 = .ok (.lcmp, 1) := by decide +kernel
theorem dL_law_924 : decode code 924 = .ok (.ifCond .eq 5, 3) := by decide +kernel
theorem dL_law_927 : decode code 927 = .ok (.iconst 0, 1) := by decide +kernel
theorem dL_law_928 : decode code 928 = .ok (.ireturn, 1) := by decide +kernel
theorem dL_law_929 : decode code 929 = .ok (.goto 1375, 3) := by decide +kernel
theorem dL_law_932 : decode code 932 = .ok (.aload_n 1, 1) := by decide +kernel
theorem dL_law_933 : decode code 933 = .ok (.aload_n 0, 1) := by decide +kernel
theorem dL_law_934 : decode code 934 = .ok (.iload 5, 2) := by decide +kernel
theorem dL_law_936 : decode code 936 = .ok (.iconst 1, 1) := by decide +kernel
theorem dL_law_937 : decode code 937 = .ok (.iadd, 1) := by decide +kernel
theorem dL_law_938 : decode code 938 = .ok (.iaload, 1) := by decide +kernel
theorem dL_law_939 : decode code 939 = .ok (.aload_n 0, 1) := by decide +kernel
theorem dL_law_940 : decode code 940 = .ok (.iload 5, 2) := by decide +kernel
theorem dL_law_942 : decode code 942 = .ok (.iconst 2, 1) := by decide +kernel
theorem dL_law_943 : decode code 943 = .ok (.iadd, 1) := by decide +kernel
theorem dL_law_944 : decode code 944 = .ok (.iaload, 1) := by decide +kernel
theorem dL_law_945 : decode code 945 = .ok (.aload_n 3, 1) := by decide +kernel
theorem dL_law_946 : decode code 946 = .ok (.invokestatic 175, 3) := by decide +kernel
theorem dL_law_949 : decode code 949 = .ok (.istore 6, 2) := by decide +kernel
theorem dL_law_951 : decode code 951 = .ok (.aload_n 2, 1) := by decide +kernel
theorem dL_law_952 : decode code 952 = .ok (.aload_n 0, 1) := by decide +kernel
theorem dL_law_953 : decode code 953 = .ok (.iload 5, 2) := by decide +kernel
theorem dL_law_955 : decode code 955 = .ok (.iconst 1, 1) := by decide +kernel
theorem dL_law_956 : decode code 956 = .ok (.iadd, 1) := by decide +kernel
theorem dL_law_957 : decode code 957 = .ok (.iaload, 1) := by decide +kernel
theorem dL_law_958 : decode code 958 = .ok (.aload_n 0, 1) := by decide +kernel
theorem dL_law_959 : decode code 959 = .ok (.iload 5, 2) := by decide +kernel
theorem dL_law_961 : decode code 961 = .ok (.iconst 2, 1) := by decide +kernel
theorem dL_law_962 : decode code 962 = .ok (.iadd, 1) := by decide +kernel
theorem dL_law_963 : decode code 963 = .ok (.iaload, 1) := by decide +kernel
theorem dL_law_964 : decode code 964 = .ok (.invokevirtual 177, 3) := by decide +kernel
theorem dL_law_967 : decode code 967 = .ok (.istore 7, 2) := by decide +kernel
theorem dL_law_969 : decode code 969 = .ok (.aload_n 2, 1) := by decide +kernel
theorem dL_law_970 : decode code 970 = .ok (.invokevirtual 139, 3) := by decide +kernel
theorem dL_law_973 : decode code 973 = .ok (.iload 6, 2) := by decide +kernel
theorem dL_law_975 : decode code 975 = .ok (.if_icmp .eq 5, 3) := by decide +kernel
theorem dL_law_978 : decode code 978 = .ok (.iconst 0, 1) := by decide +kernel
theorem dL_law_979 : decode code 979 = .ok (.ireturn, 1) := by decide +kernel
theorem dL_law_980 : decode code 980 = .ok (.iload 6, 2) := by decide +kernel
theorem dL_law_982 : decode code 982 = .ok (.ifCond .ne 15, 3) := by decide +kernel
theorem dL_law_985 : decode code 985 = .ok (.aload_n 3, 1) := by decide +kernel
theorem dL_law_986 : decode code 986 = .ok (.iconst 0, 1) := by decide +kernel
theorem dL_law_987 : decode code 987 = .ok (.laload, 1) := by decide +kernel
theorem dL_law_988 : decode code 988 = .ok (.iload 7, 2) := by decide +kernel
theorem dL_law_990 : decode code 990 = .ok (.i2l, 1) := by decide +kernel
theorem dL_law_991 : decode code 991 = .ok (.lcmp, 1) := by decide +kernel
theorem dL_law_992 : decode code 992 = .ok (.ifCond .eq 5, 3) := by decide +kernel
theorem dL_law_995 : decode code 995 = .ok (.iconst 0, 1) := by decide +kernel
theorem dL_law_996 : decode code 996 = .ok (.ireturn, 1) := by decide +kernel
theorem dL_law_997 : decode code 997 = .ok (.goto 1307, 3) := by decide +kernel
theorem dL_law_1000 : decode code 1000 = .ok (.aload_n 1, 1) := by decide +kernel
theorem dL_law_1001 : decode code 1001 = .ok (.aload_n 0, 1) := by decide +kernel
theorem dL_law_1002 : decode code 1002 = .ok (.iload 5, 2) := by decide +kernel
theorem dL_law_1004 : decode code 1004 = .ok (.iconst 1, 1) := by decide +kernel
theorem dL_law_1005 : decode code 1005 = .ok (.iadd, 1) := by decide +kernel
theorem dL_law_1006 : decode code 1006 = .ok (.iaload, 1) := by decide +kernel
theorem dL_law_1007 : decode code 1007 = .ok (.aload_n 3, 1) := by decide +kernel
theorem dL_law_1008 : decode code 1008 = .ok (.invokestatic 178, 3) := by decide +kernel
theorem dL_law_1011 : decode code 1011 = .ok (.istore 6, 2) := by decide +kernel
theorem dL_law_1013 : decode code 1013 = .ok (.aload_n 2, 1) := by decide +kernel
theorem dL_law_1014 : decode code 1014 = .ok (.aload_n 0, 1) := by decide +kernel
theorem dL_law_1015 : decode code 1015 = .ok (.iload 5, 2) := by decide +kernel
theorem dL_law_1017 : decode code 1017 = .ok (.iconst 1, 1) := by decide +kernel
theorem dL_law_1018 : decode code 1018 = .ok (.iadd, 1) := by decide +kernel
theorem dL_law_1019 : decode code 1019 = .ok (.iaload, 1) := by decide +kernel
theorem dL_law_1020 : decode code 1020 = .ok (.invokevirtual 180, 3) := by decide +kernel
theorem dL_law_1023 : decode code 1023 = .ok (.istore 7, 2) := by decide +kernel
theorem dL_law_1025 : decode code 1025 = .ok (.aload_n 2, 1) := by decide +kernel
theorem dL_law_1026 : decode code 1026 = .ok (.invokevirtual 139, 3) := by decide +kernel
theorem dL_law_1029 : decode code 1029 = .ok (.iload 6, 2) := by decide +kernel
theorem dL_law_1031 : decode code 1031 = .ok (.if_icmp .eq 5, 3) := by decide +kernel
theorem dL_law_1034 : decode code 1034 = .ok (.iconst 0, 1) := by decide +kernel
theorem dL_law_1035 : decode code 1035 = .ok (.ireturn, 1) := by decide +kernel
theorem dL_law_1036 : decode code 1036 = .ok (.iload 6, 2) := by decide +kernel
theorem dL_law_1038 : decode code 1038 = .ok (.ifCond .ne 15, 3) := by decide +kernel
theorem dL_law_1041 : decode code 1041 = .ok (.aload_n 3, 1) := by decide +kernel
theorem dL_law_1042 : decode code 1042 = .ok (.iconst 0, 1) := by decide +kernel
theorem dL_law_1043 : decode code 1043 = .ok (.laload, 1) := by decide +kernel
theorem dL_law_1044 : decode code 1044 = .ok (.iload 7, 2) := by decide +kernel
theorem dL_law_1046 : decode code 1046 = .ok (.i2l, 1) := by decide +kernel
theorem dL_law_1047 : decode code 1047 = .ok (.lcmp, 1) := by decide +kernel
theorem dL_law_1048 : decode code 1048 = .ok (.ifCond .eq 5, 3) := by decide +kernel
theorem dL_law_1051 : decode code 1051 = .ok (.iconst 0, 1) := by decide +kernel
theorem dL_law_1052 : decode code 1052 = .ok (.ireturn, 1) := by decide +kernel
theorem dL_law_1053 : decode code 1053 = .ok (.goto 1251, 3) := by decide +kernel
theorem dL_law_1056 : decode code 1056 = .ok (.aload_n 1, 1) := by decide +kernel
theorem dL_law_1057 : decode code 1057 = .ok (.aload_n 0, 1) := by decide +kernel
theorem dL_law_1058 : decode code 1058 = .ok (.iload 5, 2) := by decide +kernel
theorem dL_law_1060 : decode code 1060 = .ok (.iconst 1, 1) := by decide +kernel
theorem dL_law_1061 : decode code 1061 = .ok (.iadd, 1) := by decide +kernel
theorem dL_law_1062 : decode code 1062 = .ok (.iaload, 1) := by decide +kernel
theorem dL_law_1063 : decode code 1063 = .ok (.aload_n 3, 1) := by decide +kernel
theorem dL_law_1064 : decode code 1064 = .ok (.invokestatic 181, 3) := by decide +kernel
theorem dL_law_1067 : decode code 1067 = .ok (.istore 6, 2) := by decide +kernel
theorem dL_law_1069 : decode code 1069 = .ok (.aload_n 2, 1) := by decide +kernel
theorem dL_law_1070 : decode code 1070 = .ok (.aload_n 0, 1) := by decide +kernel
theorem dL_law_1071 : decode code 1071 = .ok (.iload 5, 2) := by decide +kernel
theorem dL_law_1073 : decode code 1073 = .ok (.iconst 1, 1) := by decide +kernel
theorem dL_law_1074 : decode code 1074 = .ok (.iadd, 1) := by decide +kernel
theorem dL_law_1075 : decode code 1075 = .ok (.iaload, 1) := by decide +kernel
theorem dL_law_1076 : decode code 1076 = .ok (.invokevirtual 183, 3) := by decide +kernel
theorem dL_law_1079 : decode code 1079 = .ok (.istore 7, 2) := by decide +kernel
theorem dL_law_1081 : decode code 1081 = .ok (.aload_n 2, 1) := by decide +kernel
theorem dL_law_1082 : decode code 1082 = .ok (.invokevirtual 139, 3) := by decide +kernel
theorem dL_law_1085 : decode code 1085 = .ok (.iload 6, 2) := by decide +kernel
theorem dL_law_1087 : decode code 1087 = .ok (.if_icmp .eq 5, 3) := by decide +kernel
theorem dL_law_1090 : decode code 1090 = .ok (.iconst 0, 1) := by decide +kernel
theorem dL_law_1091 : decode code 1091 = .ok (.ireturn, 1) := by decide +kernel
theorem dL_law_1092 : decode code 1092 = .ok (.iload 6, 2) := by decide +kernel
theorem dL_law_1094 : decode code 1094 = .ok (.ifCond .ne 15, 3) := by decide +kernel
theorem dL_law_1097 : decode code 1097 = .ok (.aload_n 3, 1) := by decide +kernel
theorem dL_law_1098 : decode code 1098 = .ok (.iconst 0, 1) := by decide +kernel
theorem dL_law_1099 : decode code 1099 = .ok (.laload, 1) := by decide +kernel
theorem dL_law_1100 : decode code 1100 = .ok (.iload 7, 2) := by decide +kernel
theorem dL_law_1102 : decode code 1102 = .ok (.i2l, 1) := by decide +kernel
theorem dL_law_1103 : decode code 1103 = .ok (.lcmp, 1) := by decide +kernel
theorem dL_law_1104 : decode code 1104 = .ok (.ifCond .eq 5, 3) := by decide +kernel
theorem dL_law_1107 : decode code 1107 = .ok (.iconst 0, 1) := by decide +kernel
theorem dL_law_1108 : decode code 1108 = .ok (.ireturn, 1) := by decide +kernel
theorem dL_law_1109 : decode code 1109 = .ok (.goto 1195, 3) := by decide +kernel
theorem dL_law_1112 : decode code 1112 = .ok (.aload_n 1, 1) := by decide +kernel
theorem dL_law_1113 : decode code 1113 = .ok (.aload_n 0, 1) := by decide +kernel
theorem dL_law_1114 : decode code 1114 = .ok (.iload 5, 2) := by decide +kernel
theorem dL_law_1116 : decode code 1116 = .ok (.iconst 1, 1) := by decide +kernel
theorem dL_law_1117 : decode code 1117 = .ok (.iadd, 1) := by decide +kernel
theorem dL_law_1118 : decode code 1118 = .ok (.iaload, 1) := by decide +kernel
theorem dL_law_1119 : decode code 1119 = .ok (.aload_n 3, 1) := by decide +kernel
theorem dL_law_1120 : decode code 1120 = .ok (.invokestatic 184, 3) := by decide +kernel
theorem dL_law_1123 : decode code 1123 = .ok (.istore 6, 2) := by decide +kernel
theorem dL_law_1125 : decode code 1125 = .ok (.aload_n 2, 1) := by decide +kernel
theorem dL_law_1126 : decode code 1126 = .ok (.aload_n 0, 1) := by decide +kernel
theorem dL_law_1127 : decode code 1127 = .ok (.iload 5, 2) := by decide +kernel
theorem dL_law_1129 : decode code 1129 = .ok (.iconst 1, 1) := by decide +kernel
theorem dL_law_1130 : decode code 1130 = .ok (.iadd, 1) := by decide +kernel
theorem dL_law_1131 : decode code 1131 = .ok (.iaload, 1) := by decide +kernel
theorem dL_law_1132 : decode code 1132 = .ok (.invokevirtual 186, 3) := by decide +kernel
theorem dL_law_1135 : decode code 1135 = .ok (.istore 7, 2) := by decide +kernel
theorem dL_law_1137 : decode code 1137 = .ok (.aload_n 2, 1) := by decide +kernel
theorem dL_law_1138 : decode code 1138 = .ok (.invokevirtual 139, 3) := by decide +kernel
theorem dL_law_1141 : decode code 1141 = .ok (.iload 6, 2) := by decide +kernel
theorem dL_law_1143 : decode code 1143 = .ok (.if_icmp .eq 5, 3) := by decide +kernel
theorem dL_law_1146 : decode code 1146 = .ok (.iconst 0, 1) := by decide +kernel
theorem dL_law_1147 : decode code 1147 = .ok (.ireturn, 1) := by decide +kernel
theorem dL_law_1148 : decode code 1148 = .ok (.iload 6, 2) := by decide +kernel
theorem dL_law_1150 : decode code 1150 = .ok (.ifCond .ne 15, 3) := by decide +kernel
theorem dL_law_1153 : decode code 1153 = .ok (.aload_n 3, 1) := by decide +kernel
theorem dL_law_1154 : decode code 1154 = .ok (.iconst 0, 1) := by decide +kernel
theorem dL_law_1155 : decode code 1155 = .ok (.laload, 1) := by decide +kernel
theorem dL_law_1156 : decode code 1156 = .ok (.iload 7, 2) := by decide +kernel
theorem dL_law_1158 : decode code 1158 = .ok (.i2l, 1) := by decide +kernel
theorem dL_law_1159 : decode code 1159 = .ok (.lcmp, 1) := by decide +kernel
theorem dL_law_1160 : decode code 1160 = .ok (.ifCond .eq 5, 3) := by decide +kernel
theorem dL_law_1163 : decode code 1163 = .ok (.iconst 0, 1) := by decide +kernel
theorem dL_law_1164 : decode code 1164 = .ok (.ireturn, 1) := by decide +kernel
theorem dL_law_1165 : decode code 1165 = .ok (.goto 1139, 3) := by decide +kernel
theorem dL_law_1168 : decode code 1168 = .ok (.aload_n 1, 1) := by decide +kernel
theorem dL_law_1169 : decode code 1169 = .ok (.aload_n 0, 1) := by decide +kernel
theorem dL_law_1170 : decode code 1170 = .ok (.iload 5, 2) := by decide +kernel
theorem dL_law_1172 : decode code 1172 = .ok (.iconst 1, 1) := by decide +kernel
theorem dL_law_1173 : decode code 1173 = .ok (.iadd, 1) := by decide +kernel
theorem dL_law_1174 : decode code 1174 = .ok (.iaload, 1) := by decide +kernel
theorem dL_law_1175 : decode code 1175 = .ok (.aload_n 0, 1) := by decide +kernel
theorem dL_law_1176 : decode code 1176 = .ok (.iload 5, 2) := by decide +kernel
theorem dL_law_1178 : decode code 1178 = .ok (.iconst 2, 1) := by decide +kernel
theorem dL_law_1179 : decode code 1179 = .ok (.iadd, 1) := by decide +kernel
theorem dL_law_1180 : decode code 1180 = .ok (.iaload, 1) := by decide +kernel
theorem dL_law_1181 : decode code 1181 = .ok (.aload_n 0, 1) := by decide +kernel
theorem dL_law_1182 : decode code 1182 = .ok (.iload 5, 2) := by decide +kernel
theorem dL_law_1184 : decode code 1184 = .ok (.iconst 3, 1) := by decide +kernel
theorem dL_law_1185 : decode code 1185 = .ok (.iadd, 1) := by decide +kernel
theorem dL_law_1186 : decode code 1186 = .ok (.iaload, 1) := by decide +kernel
theorem dL_law_1187 : decode code 1187 = .ok (.aload_n 3, 1) := by decide +kernel
theorem dL_law_1188 : decode code 1188 = .ok (.invokestatic 187, 3) := by decide +kernel
theorem dL_law_1191 : decode code 1191 = .ok (.istore 6, 2) := by decide +kernel
theorem dL_law_1193 : decode code 1193 = .ok (.aload_n 2, 1) := by decide +kernel
theorem dL_law_1194 : decode code 1194 = .ok (.aload_n 0, 1) := by decide +kernel
theorem dL_law_1195 : decode code 1195 = .ok (.iload 5, 2) := by decide +kernel
theorem dL_law_1197 : decode code 1197 = .ok (.iconst 1, 1) := by decide +kernel
theorem dL_law_1198 : decode code 1198 = .ok (.iadd, 1) := by decide +kernel
theorem dL_law_1199 : decode code 1199 = .ok (.iaload, 1) := by decide +kernel
theorem dL_law_1200 : decode code 1200 = .ok (.aload_n 0, 1) := by decide +kernel
theorem dL_law_1201 : decode code 1201 = .ok (.iload 5, 2) := by decide +kernel
theorem dL_law_1203 : decode code 1203 = .ok (.iconst 2, 1) := by decide +kernel
theorem dL_law_1204 : decode code 1204 = .ok (.iadd, 1) := by decide +kernel
theorem dL_law_1205 : decode code 1205 = .ok (.iaload, 1) := by decide +kernel
theorem dL_law_1206 : decode code 1206 = .ok (.aload_n 0, 1) := by decide +kernel
theorem dL_law_1207 : decode code 1207 = .ok (.iload 5, 2) := by decide +kernel
theorem dL_law_1209 : decode code 1209 = .ok (.iconst 3, 1) := by decide +kernel
theorem dL_law_1210 : decode code 1210 = .ok (.iadd, 1) := by decide +kernel
theorem dL_law_1211 : decode code 1211 = .ok (.iaload, 1) := by decide +kernel
theorem dL_law_1212 : decode code 1212 = .ok (.invokevirtual 189, 3) := by decide +kernel
theorem dL_law_1215 : decode code 1215 = .ok (.istore 7, 2) := by decide +kernel
theorem dL_law_1217 : decode code 1217 = .ok (.aload_n 2, 1) := by decide +kernel
theorem dL_law_1218 : decode code 1218 = .ok (.invokevirtual 139, 3) := by decide +kernel
theorem dL_law_1221 : decode code 1221 = .ok (.iload 6, 2) := by decide +kernel
theorem dL_law_1223 : decode code 1223 = .ok (.if_icmp .eq 5, 3) := by decide +kernel
theorem dL_law_1226 : decode code 1226 = .ok (.iconst 0, 1) := by decide +kernel
theorem dL_law_1227 : decode code 1227 = .ok (.ireturn, 1) := by decide +kernel
theorem dL_law_1228 : decode code 1228 = .ok (.iload 6, 2) := by decide +kernel
theorem dL_law_1230 : decode code 1230 = .ok (.ifCond .ne 15, 3) := by decide +kernel
theorem dL_law_1233 : decode code 1233 = .ok (.aload_n 3, 1) := by decide +kernel
theorem dL_law_1234 : decode code 1234 = .ok (.iconst 0, 1) := by decide +kernel
theorem dL_law_1235 : decode code 1235 = .ok (.laload, 1) := by decide +kernel
theorem dL_law_1236 : decode code 1236 = .ok (.iload 7, 2) := by decide +kernel
theorem dL_law_1238 : decode code 1238 = .ok (.i2l, 1) := by decide +kernel
theorem dL_law_1239 : decode code 1239 = .ok (.lcmp, 1) := by decide +kernel
theorem dL_law_1240 : decode code 1240 = .ok (.ifCond .eq 5, 3) := by decide +kernel
theorem dL_law_1243 : decode code 1243 = .ok (.iconst 0, 1) := by decide +kernel
theorem dL_law_1244 : decode code 1244 = .ok (.ireturn, 1) := by decide +kernel
theorem dL_law_1245 : decode code 1245 = .ok (.goto 1059, 3) := by decide +kernel
theorem dL_law_1248 : decode code 1248 = .ok (.aload_n 1, 1) := by decide +kernel
theorem dL_law_1249 : decode code 1249 = .ok (.aload_n 0, 1) := by decide +kernel
theorem dL_law_1250 : decode code 1250 = .ok (.iload 5, 2) := by decide +kernel
theorem dL_law_1252 : decode code 1252 = .ok (.iconst 1, 1) := by decide +kernel
theorem dL_law_1253 : decode code 1253 = .ok (.iadd, 1) := by decide +kernel
theorem dL_law_1254 : decode code 1254 = .ok (.iaload, 1) := by decide +kernel
theorem dL_law_1255 : decode code 1255 = .ok (.aload_n 0, 1) := by decide +kernel
theorem dL_law_1256 : decode code 1256 = .ok (.iload 5, 2) := by decide +kernel
theorem dL_law_1258 : decode code 1258 = .ok (.iconst 2, 1) := by decide +kernel
theorem dL_law_1259 : decode code 1259 = .ok (.iadd, 1) := by decide +kernel
theorem dL_law_1260 : decode code 1260 = .ok (.iaload, 1) := by decide +kernel
theorem dL_law_1261 : decode code 1261 = .ok (.aload_n 3, 1) := by decide +kernel
theorem dL_law_1262 : decode code 1262 = .ok (.invokestatic 190, 3) := by decide +kernel
theorem dL_law_1265 : decode code 1265 = .ok (.istore 6, 2) := by decide +kernel
theorem dL_law_1267 : decode code 1267 = .ok (.aload_n 2, 1) := by decide +kernel
theorem dL_law_1268 : decode code 1268 = .ok (.aload_n 0, 1) := by decide +kernel
theorem dL_law_1269 : decode code 1269 = .ok (.iload 5, 2) := by decide +kernel
theorem dL_law_1271 : decode code 1271 = .ok (.iconst 1, 1) := by decide +kernel
theorem dL_law_1272 : decode code 1272 = .ok (.iadd, 1) := by decide +kernel
theorem dL_law_1273 : decode code 1273 = .ok (.iaload, 1) := by decide +kernel
theorem dL_law_1274 : decode code 1274 = .ok (.aload_n 0, 1) := by decide +kernel
theorem dL_law_1275 : decode code 1275 = .ok (.iload 5, 2) := by decide +kernel
theorem dL_law_1277 : decode code 1277 = .ok (.iconst 2, 1) := by decide +kernel
theorem dL_law_1278 : decode code 1278 = .ok (.iadd, 1) := by decide +kernel
theorem dL_law_1279 : decode code 1279 = .ok (.iaload, 1) := by decide +kernel
theorem dL_law_1280 : decode code 1280 = .ok (.invokevirtual 192, 3) := by decide +kernel
theorem dL_law_1283 : decode code 1283 = .ok (.istore 7, 2) := by decide +kernel
theorem dL_law_1285 : decode code 1285 = .ok (.aload_n 2, 1) := by decide +kernel
theorem dL_law_1286 : decode code 1286 = .ok (.invokevirtual 139, 3) := by decide +kernel
theorem dL_law_1289 : decode code 1289 = .ok (.iload 6, 2) := by decide +kernel
theorem dL_law_1291 : decode code 1291 = .ok (.if_icmp .eq 5, 3) := by decide +kernel
theorem dL_law_1294 : decode code 1294 = .ok (.iconst 0, 1) := by decide +kernel
theorem dL_law_1295 : decode code 1295 = .ok (.ireturn, 1) := by decide +kernel
theorem dL_law_1296 : decode code 1296 = .ok (.iload 6, 2) := by decide +kernel
theorem dL_law_1298 : decode code 1298 = .ok (.ifCond .ne 15, 3) := by decide +kernel
theorem dL_law_1301 : decode code 1301 = .ok (.aload_n 3, 1) := by decide +kernel
theorem dL_law_1302 : decode code 1302 = .ok (.iconst 0, 1) := by decide +kernel
theorem dL_law_1303 : decode code 1303 = .ok (.laload, 1) := by decide +kernel
theorem dL_law_1304 : decode code 1304 = .ok (.iload 7, 2) := by decide +kernel
theorem dL_law_1306 : decode code 1306 = .ok (.i2l, 1) := by decide +kernel
theorem dL_law_1307 : decode code 1307 = .ok (.lcmp, 1) := by decide +kernel
theorem dL_law_1308 : decode code 1308 = .ok (.ifCond .eq 5, 3) := by decide +kernel
theorem dL_law_1311 : decode code 1311 = .ok (.iconst 0, 1) := by decide +kernel
theorem dL_law_1312 : decode code 1312 = .ok (.ireturn, 1) := by decide +kernel
theorem dL_law_1313 : decode code 1313 = .ok (.goto 991, 3) := by decide +kernel
theorem dL_law_1316 : decode code 1316 = .ok (.aload_n 1, 1) := by decide +kernel
theorem dL_law_1317 : decode code 1317 = .ok (.aload_n 0, 1) := by decide +kernel
theorem dL_law_1318 : decode code 1318 = .ok (.iload 5, 2) := by decide +kernel
theorem dL_law_1320 : decode code 1320 = .ok (.iconst 1, 1) := by decide +kernel
theorem dL_law_1321 : decode code 1321 = .ok (.iadd, 1) := by decide +kernel
theorem dL_law_1322 : decode code 1322 = .ok (.iaload, 1) := by decide +kernel
theorem dL_law_1323 : decode code 1323 = .ok (.aload_n 0, 1) := by decide +kernel
theorem dL_law_1324 : decode code 1324 = .ok (.iload 5, 2) := by decide +kernel
theorem dL_law_1326 : decode code 1326 = .ok (.iconst 2, 1) := by decide +kernel
theorem dL_law_1327 : decode code 1327 = .ok (.iadd, 1) := by decide +kernel
theorem dL_law_1328 : decode code 1328 = .ok (.iaload, 1) := by decide +kernel
theorem dL_law_1329 : decode code 1329 = .ok (.aload_n 3, 1) := by decide +kernel
theorem dL_law_1330 : decode code 1330 = .ok (.invokestatic 193, 3) := by decide +kernel
theorem dL_law_1333 : decode code 1333 = .ok (.istore 6, 2) := by decide +kernel
theorem dL_law_1335 : decode code 1335 = .ok (.aload_n 2, 1) := by decide +kernel
theorem dL_law_1336 : decode code 1336 = .ok (.aload_n 0, 1) := by decide +kernel
theorem dL_law_1337 : decode code 1337 = .ok (.iload 5, 2) := by decide +kernel
theorem dL_law_1339 : decode code 1339 = .ok (.iconst 1, 1) := by decide +kernel
theorem dL_law_1340 : decode code 1340 = .ok (.iadd, 1) := by decide +kernel
theorem dL_law_1341 : decode code 1341 = .ok (.iaload, 1) := by decide +kernel
theorem dL_law_1342 : decode code 1342 = .ok (.aload_n 0, 1) := by decide +kernel
theorem dL_law_1343 : decode code 1343 = .ok (.iload 5, 2) := by decide +kernel
theorem dL_law_1345 : decode code 1345 = .ok (.iconst 2, 1) := by decide +kernel
theorem dL_law_1346 : decode code 1346 = .ok (.iadd, 1) := by decide +kernel
theorem dL_law_1347 : decode code 1347 = .ok (.iaload, 1) := by decide +kernel
theorem dL_law_1348 : decode code 1348 = .ok (.invokevirtual 195, 3) := by decide +kernel
theorem dL_law_1351 : decode code 1351 = .ok (.istore 7, 2) := by decide +kernel
theorem dL_law_1353 : decode code 1353 = .ok (.aload_n 2, 1) := by decide +kernel
theorem dL_law_1354 : decode code 1354 = .ok (.invokevirtual 139, 3) := by decide +kernel
theorem dL_law_1357 : decode code 1357 = .ok (.iload 6, 2) := by decide +kernel
theorem dL_law_1359 : decode code 1359 = .ok (.if_icmp .eq 5, 3) := by decide +kernel
theorem dL_law_1362 : decode code 1362 = .ok (.iconst 0, 1) := by decide +kernel
theorem dL_law_1363 : decode code 1363 = .ok (.ireturn, 1) := by decide +kernel
theorem dL_law_1364 : decode code 1364 = .ok (.iload 6, 2) := by decide +kernel
theorem dL_law_1366 : decode code 1366 = .ok (.ifCond .ne 15, 3) := by decide +kernel
theorem dL_law_1369 : decode code 1369 = .ok (.aload_n 3, 1) := by decide +kernel
theorem dL_law_1370 : decode code 1370 = .ok (.iconst 0, 1) := by decide +kernel
theorem dL_law_1371 : decode code 1371 = .ok (.laload, 1) := by decide +kernel
theorem dL_law_1372 : decode code 1372 = .ok (.iload 7, 2) := by decide +kernel
theorem dL_law_1374 : decode code 1374 = .ok (.i2l, 1) := by decide +kernel
theorem dL_law_1375 : decode code 1375 = .ok (.lcmp, 1) := by decide +kernel
theorem dL_law_1376 : decode code 1376 = .ok (.ifCond .eq 5, 3) := by decide +kernel
theorem dL_law_1379 : decode code 1379 = .ok (.iconst 0, 1) := by decide +kernel
theorem dL_law_1380 : decode code 1380 = .ok (.ireturn, 1) := by decide +kernel
theorem dL_law_1381 : decode code 1381 = .ok (.goto 923, 3) := by decide +kernel
theorem dL_law_1384 : decode code 1384 = .ok (.aload_n 1, 1) := by decide +kernel
theorem dL_law_1385 : decode code 1385 = .ok (.aload_n 0, 1) := by decide +kernel
theorem dL_law_1386 : decode code 1386 = .ok (.iload 5, 2) := by decide +kernel
theorem dL_law_1388 : decode code 1388 = .ok (.iconst 1, 1) := by decide +kernel
theorem dL_law_1389 : decode code 1389 = .ok (.iadd, 1) := by decide +kernel
theorem dL_law_1390 : decode code 1390 = .ok (.iaload, 1) := by decide +kernel
theorem dL_law_1391 : decode code 1391 = .ok (.aload_n 0, 1) := by decide +kernel
theorem dL_law_1392 : decode code 1392 = .ok (.iload 5, 2) := by decide +kernel
theorem dL_law_1394 : decode code 1394 = .ok (.iconst 2, 1) := by decide +kernel
theorem dL_law_1395 : decode code 1395 = .ok (.iadd, 1) := by decide +kernel
theorem dL_law_1396 : decode code 1396 = .ok (.iaload, 1) := by decide +kernel
theorem dL_law_1397 : decode code 1397 = .ok (.aload_n 3, 1) := by decide +kernel
theorem dL_law_1398 : decode code 1398 = .ok (.invokestatic 196, 3) := by decide +kernel
theorem dL_law_1401 : decode code 1401 = .ok (.istore 6, 2) := by decide +kernel
theorem dL_law_1403 : decode code 1403 = .ok (.aload_n 2, 1) := by decide +kernel
theorem dL_law_1404 : decode code 1404 = .ok (.aload_n 0, 1) := by decide +kernel
theorem dL_law_1405 : decode code 1405 = .ok (.iload 5, 2) := by decide +kernel
theorem dL_law_1407 : decode code 1407 = .ok (.iconst 1, 1) := by decide +kernel
theorem dL_law_1408 : decode code 1408 = .ok (.iadd, 1) := by decide +kernel
theorem dL_law_1409 : decode code 1409 = .ok (.iaload, 1) := by decide +kernel
theorem dL_law_1410 : decode code 1410 = .ok (.aload_n 0, 1) := by decide +kernel
theorem dL_law_1411 : decode code 1411 = .ok (.iload 5, 2) := by decide +kernel
theorem dL_law_1413 : decode code 1413 = .ok (.iconst 2, 1) := by decide +kernel
theorem dL_law_1414 : decode code 1414 = .ok (.iadd, 1) := by decide +kernel
theorem dL_law_1415 : decode code 1415 = .ok (.iaload, 1) := by decide +kernel
theorem dL_law_1416 : decode code 1416 = .ok (.invokevirtual 198, 3) := by decide +kernel
theorem dL_law_1419 : decode code 1419 = .ok (.istore 7, 2) := by decide +kernel
theorem dL_law_1421 : decode code 1421 = .ok (.aload_n 2, 1) := by decide +kernel
theorem dL_law_1422 : decode code 1422 = .ok (.invokevirtual 139, 3) := by decide +kernel
theorem dL_law_1425 : decode code 1425 = .ok (.iload 6, 2) := by decide +kernel
theorem dL_law_1427 : decode code 1427 = .ok (.if_icmp .eq 5, 3) := by decide +kernel
theorem dL_law_1430 : decode code 1430 = .ok (.iconst 0, 1) := by decide +kernel
theorem dL_law_1431 : decode code 1431 = .ok (.ireturn, 1) := by decide +kernel
theorem dL_law_1432 : decode code 1432 = .ok (.iload 6, 2) := by decide +kernel
theorem dL_law_1434 : decode code 1434 = .ok (.ifCond .ne 15, 3) := by decide +kernel
theorem dL_law_1437 : decode code 1437 = .ok (.aload_n 3, 1) := by decide +kernel
theorem dL_law_1438 : decode code 1438 = .ok (.iconst 0, 1) := by decide +kernel
theorem dL_law_1439 : decode code 1439 = .ok (.laload, 1) := by decide +kernel
theorem dL_law_1440 : decode code 1440 = .ok (.iload 7, 2) := by decide +kernel
theorem dL_law_1442 : decode code 1442 = .ok (.i2l, 1) := by decide +kernel
theorem dL_law_1443 : decode code 1443 = .ok (.lcmp, 1) := by decide +kernel
theorem dL_law_1444 : decode code 1444 = .ok (.ifCond .eq 5, 3) := by decide +kernel
theorem dL_law_1447 : decode code 1447 = .ok (.iconst 0, 1) := by decide +kernel
theorem dL_law_1448 : decode code 1448 = .ok (.ireturn, 1) := by decide +kernel
theorem dL_law_1449 : decode code 1449 = .ok (.goto 855, 3) := by decide +kernel
theorem dL_law_1452 : decode code 1452 = .ok (.aload_n 1, 1) := by decide +kernel
theorem dL_law_1453 : decode code 1453 = .ok (.aload_n 0, 1) := by decide +kernel
theorem dL_law_1454 : decode code 1454 = .ok (.iload 5, 2) := by decide +kernel
theorem dL_law_1456 : decode code 1456 = .ok (.iconst 1, 1) := by decide +kernel
theorem dL_law_1457 : decode code 1457 = .ok (.iadd, 1) := by decide +kernel
theorem dL_law_1458 : decode code 1458 = .ok (.iaload, 1) := by decide +kernel
theorem dL_law_1459 : decode code 1459 = .ok (.aload_n 3, 1) := by decide +kernel
theorem dL_law_1460 : decode code 1460 = .ok (.invokestatic 199, 3) := by decide +kernel
theorem dL_law_1463 : decode code 1463 = .ok (.istore 6, 2) := by decide +kernel
theorem dL_law_1465 : decode code 1465 = .ok (.aload_n 2, 1) := by decide +kernel
theorem dL_law_1466 : decode code 1466 = .ok (.aload_n 0, 1) := by decide +kernel
theorem dL_law_1467 : decode code 1467 = .ok (.iload 5, 2) := by decide +kernel
theorem dL_law_1469 : decode code 1469 = .ok (.iconst 1, 1) := by decide +kernel
theorem dL_law_1470 : decode code 1470 = .ok (.iadd, 1) := by decide +kernel
theorem dL_law_1471 : decode code 1471 = .ok (.iaload, 1) := by decide +kernel
theorem dL_law_1472 : decode code 1472 = .ok (.invokevirtual 201, 3) := by decide +kernel
theorem dL_law_1475 : decode code 1475 = .ok (.istore 7, 2) := by decide +kernel
theorem dL_law_1477 : decode code 1477 = .ok (.aload_n 2, 1) := by decide +kernel
theorem dL_law_1478 : decode code 1478 = .ok (.invokevirtual 139, 3) := by decide +kernel
theorem dL_law_1481 : decode code 1481 = .ok (.iload 6, 2) := by decide +kernel
theorem dL_law_1483 : decode code 1483 = .ok (.if_icmp .eq 5, 3) := by decide +kernel
theorem dL_law_1486 : decode code 1486 = .ok (.iconst 0, 1) := by decide +kernel
theorem dL_law_1487 : decode code 1487 = .ok (.ireturn, 1) := by decide +kernel
theorem dL_law_1488 : decode code 1488 = .ok (.iload 6, 2) := by decide +kernel
theorem dL_law_1490 : decode code 1490 = .ok (.ifCond .ne 15, 3) := by decide +kernel
theorem dL_law_1493 : decode code 1493 = .ok (.aload_n 3, 1) := by decide +kernel
theorem dL_law_1494 : decode code 1494 = .ok (.iconst 0, 1) := by decide +kernel
theorem dL_law_1495 : decode code 1495 = .ok (.laload, 1) := by decide +kernel
theorem dL_law_1496 : decode code 1496 = .ok (.iload 7, 2) := by decide +kernel
theorem dL_law_1498 : decode code 1498 = .ok (.i2l, 1) := by decide +kernel
theorem dL_law_1499 : decode code 1499 = .ok (.lcmp, 1) := by decide +kernel
theorem dL_law_1500 : decode code 1500 = .ok (.ifCond .eq 5, 3) := by decide +kernel
theorem dL_law_1503 : decode code 1503 = .ok (.iconst 0, 1) := by decide +kernel
theorem dL_law_1504 : decode code 1504 = .ok (.ireturn, 1) := by decide +kernel
theorem dL_law_1505 : decode code 1505 = .ok (.goto 799, 3) := by decide +kernel
theorem dL_law_1508 : decode code 1508 = .ok (.aload_n 1, 1) := by decide +kernel
theorem dL_law_1509 : decode code 1509 = .ok (.aload_n 0, 1) := by decide +kernel
theorem dL_law_1510 : decode code 1510 = .ok (.iload 5, 2) := by decide +kernel
theorem dL_law_1512 : decode code 1512 = .ok (.iconst 1, 1) := by decide +kernel
theorem dL_law_1513 : decode code 1513 = .ok (.iadd, 1) := by decide +kernel
theorem dL_law_1514 : decode code 1514 = .ok (.iaload, 1) := by decide +kernel
theorem dL_law_1515 : decode code 1515 = .ok (.aload_n 0, 1) := by decide +kernel
theorem dL_law_1516 : decode code 1516 = .ok (.iload 5, 2) := by decide +kernel
theorem dL_law_1518 : decode code 1518 = .ok (.iconst 2, 1) := by decide +kernel
theorem dL_law_1519 : decode code 1519 = .ok (.iadd, 1) := by decide +kernel
theorem dL_law_1520 : decode code 1520 = .ok (.iaload, 1) := by decide +kernel
theorem dL_law_1521 : decode code 1521 = .ok (.aload_n 3, 1) := by decide +kernel
theorem dL_law_1522 : decode code 1522 = .ok (.invokestatic 202, 3) := by decide +kernel
theorem dL_law_1525 : decode code 1525 = .ok (.istore 6, 2) := by decide +kernel
theorem dL_law_1527 : decode code 1527 = .ok (.aload_n 2, 1) := by decide +kernel
theorem dL_law_1528 : decode code 1528 = .ok (.aload_n 0, 1) := by decide +kernel
theorem dL_law_1529 : decode code 1529 = .ok (.iload 5, 2) := by decide +kernel
theorem dL_law_1531 : decode code 1531 = .ok (.iconst 1, 1) := by decide +kernel
theorem dL_law_1532 : decode code 1532 = .ok (.iadd, 1) := by decide +kernel
theorem dL_law_1533 : decode code 1533 = .ok (.iaload, 1) := by decide +kernel
theorem dL_law_1534 : decode code 1534 = .ok (.aload_n 0, 1) := by decide +kernel
theorem dL_law_1535 : decode code 1535 = .ok (.iload 5, 2) := by decide +kernel
theorem dL_law_1537 : decode code 1537 = .ok (.iconst 2, 1) := by decide +kernel
theorem dL_law_1538 : decode code 1538 = .ok (.iadd, 1) := by decide +kernel
theorem dL_law_1539 : decode code 1539 = .ok (.iaload, 1) := by decide +kernel
theorem dL_law_1540 : decode code 1540 = .ok (.invokevirtual 204, 3) := by decide +kernel
theorem dL_law_1543 : decode code 1543 = .ok (.istore 7, 2) := by decide +kernel
theorem dL_law_1545 : decode code 1545 = .ok (.aload_n 2, 1) := by decide +kernel
theorem dL_law_1546 : decode code 1546 = .ok (.invokevirtual 139, 3) := by decide +kernel
theorem dL_law_1549 : decode code 1549 = .ok (.iload 6, 2) := by decide +kernel
theorem dL_law_1551 : decode code 1551 = .ok (.if_icmp .eq 5, 3) := by decide +kernel
theorem dL_law_1554 : decode code 1554 = .ok (.iconst 0, 1) := by decide +kernel
theorem dL_law_1555 : decode code 1555 = .ok (.ireturn, 1) := by decide +kernel
theorem dL_law_1556 : decode code 1556 = .ok (.iload 6, 2) := by decide +kernel
theorem dL_law_1558 : decode code 1558 = .ok (.ifCond .ne 15, 3) := by decide +kernel
theorem dL_law_1561 : decode code 1561 = .ok (.aload_n 3, 1) := by decide +kernel
theorem dL_law_1562 : decode code 1562 = .ok (.iconst 0, 1) := by decide +kernel
theorem dL_law_1563 : decode code 1563 = .ok (.laload, 1) := by decide +kernel
theorem dL_law_1564 : decode code 1564 = .ok (.iload 7, 2) := by decide +kernel
theorem dL_law_1566 : decode code 1566 = .ok (.i2l, 1) := by decide +kernel
theorem dL_law_1567 : decode code 1567 = .ok (.lcmp, 1) := by decide +kernel
theorem dL_law_1568 : decode code 1568 = .ok (.ifCond .eq 5, 3) := by decide +kernel
theorem dL_law_1571 : decode code 1571 = .ok (.iconst 0, 1) := by decide +kernel
theorem dL_law_1572 : decode code 1572 = .ok (.ireturn, 1) := by decide +kernel
theorem dL_law_1573 : decode code 1573 = .ok (.goto 731, 3) := by decide +kernel
theorem dL_law_1576 : decode code 1576 = .ok (.aload_n 1, 1) := by decide +kernel
theorem dL_law_1577 : decode code 1577 = .ok (.aload_n 0, 1) := by decide +kernel
theorem dL_law_1578 : decode code 1578 = .ok (.iload 5, 2) := by decide +kernel
theorem dL_law_1580 : decode code 1580 = .ok (.iconst 1, 1) := by decide +kernel
theorem dL_law_1581 : decode code 1581 = .ok (.iadd, 1) := by decide +kernel
theorem dL_law_1582 : decode code 1582 = .ok (.iaload, 1) := by decide +kernel
theorem dL_law_1583 : decode code 1583 = .ok (.aload_n 3, 1) := by decide +kernel
theorem dL_law_1584 : decode code 1584 = .ok (.invokestatic 205, 3) := by decide +kernel
theorem dL_law_1587 : decode code 1587 = .ok (.istore 6, 2) := by decide +kernel
theorem dL_law_1589 : decode code 1589 = .ok (.aload_n 2, 1) := by decide +kernel
theorem dL_law_1590 : decode code 1590 = .ok (.aload_n 0, 1) := by decide +kernel
theorem dL_law_1591 : decode code 1591 = .ok (.iload 5, 2) := by decide +kernel
theorem dL_law_1593 : decode code 1593 = .ok (.iconst 1, 1) := by decide +kernel
theorem dL_law_1594 : decode code 1594 = .ok (.iadd, 1) := by decide +kernel
theorem dL_law_1595 : decode code 1595 = .ok (.iaload, 1) := by decide +kernel
theorem dL_law_1596 : decode code 1596 = .ok (.invokevirtual 207, 3) := by decide +kernel
theorem dL_law_1599 : decode code 1599 = .ok (.istore 7, 2) := by decide +kernel
theorem dL_law_1601 : decode code 1601 = .ok (.aload_n 2, 1) := by decide +kernel
theorem dL_law_1602 : decode code 1602 = .ok (.invokevirtual 139, 3) := by decide +kernel
theorem dL_law_1605 : decode code 1605 = .ok (.iload 6, 2) := by decide +kernel
theorem dL_law_1607 : decode code 1607 = .ok (.if_icmp .eq 5, 3) := by decide +kernel
theorem dL_law_1610 : decode code 1610 = .ok (.iconst 0, 1) := by decide +kernel
theorem dL_law_1611 : decode code 1611 = .ok (.ireturn, 1) := by decide +kernel
theorem dL_law_1612 : decode code 1612 = .ok (.iload 6, 2) := by decide +kernel
theorem dL_law_1614 : decode code 1614 = .ok (.ifCond .ne 22, 3) := by decide +kernel
theorem dL_law_1617 : decode code 1617 = .ok (.aload_n 3, 1) := by decide +kernel
theorem dL_law_1618 : decode code 1618 = .ok (.iconst 0, 1) := by decide +kernel
theorem dL_law_1619 : decode code 1619 = .ok (.laload, 1) := by decide +kernel
theorem dL_law_1620 : decode code 1620 = .ok (.iload 7, 2) := by decide +kernel
theorem dL_law_1622 : decode code 1622 = .ok (.ifCond .eq 7, 3) := by decide +kernel
theorem dL_law_1625 : decode code 1625 = .ok (.lconst 1, 1) := by decide +kernel
theorem dL_law_1626 : decode code 1626 = .ok (.goto 4, 3) := by decide +kernel
theorem dL_law_1629 : decode code 1629 = .ok (.lconst 0, 1) := by decide +kernel
theorem dL_law_1630 : decode code 1630 = .ok (.lcmp, 1) := by decide +kernel
theorem dL_law_1631 : decode code 1631 = .ok (.ifCond .eq 5, 3) := by decide +kernel
theorem dL_law_1634 : decode code 1634 = .ok (.iconst 0, 1) := by decide +kernel
theorem dL_law_1635 : decode code 1635 = .ok (.ireturn, 1) := by decide +kernel
theorem dL_law_1636 : decode code 1636 = .ok (.goto 668, 3) := by decide +kernel
theorem dL_law_1639 : decode code 1639 = .ok (.aload_n 1, 1) := by decide +kernel
theorem dL_law_1640 : decode code 1640 = .ok (.aload_n 0, 1) := by decide +kernel
theorem dL_law_1641 : decode code 1641 = .ok (.iload 5, 2) := by decide +kernel
theorem dL_law_1643 : decode code 1643 = .ok (.iconst 1, 1) := by decide +kernel
theorem dL_law_1644 : decode code 1644 = .ok (.iadd, 1) := by decide +kernel
theorem dL_law_1645 : decode code 1645 = .ok (.iaload, 1) := by decide +kernel
theorem dL_law_1646 : decode code 1646 = .ok (.aload_n 3, 1) := by decide +kernel
theorem dL_law_1647 : decode code 1647 = .ok (.invokestatic 208, 3) := by decide +kernel
theorem dL_law_1650 : decode code 1650 = .ok (.istore 6, 2) := by decide +kernel
theorem dL_law_1652 : decode code 1652 = .ok (.aload_n 2, 1) := by decide +kernel
theorem dL_law_1653 : decode code 1653 = .ok (.aload_n 0, 1) := by decide +kernel
theorem dL_law_1654 : decode code 1654 = .ok (.iload 5, 2) := by decide +kernel
theorem dL_law_1656 : decode code 1656 = .ok (.iconst 1, 1) := by decide +kernel
theorem dL_law_1657 : decode code 1657 = .ok (.iadd, 1) := by decide +kernel
theorem dL_law_1658 : decode code 1658 = .ok (.iaload, 1) := by decide +kernel
theorem dL_law_1659 : decode code 1659 = .ok (.invokevirtual 210, 3) := by decide +kernel
theorem dL_law_1662 : decode code 1662 = .ok (.istore 7, 2) := by decide +kernel
theorem dL_law_1664 : decode code 1664 = .ok (.aload_n 2, 1) := by decide +kernel
theorem dL_law_1665 : decode code 1665 = .ok (.invokevirtual 139, 3) := by decide +kernel
theorem dL_law_1668 : decode code 1668 = .ok (.iload 6, 2) := by decide +kernel
theorem dL_law_1670 : decode code 1670 = .ok (.if_icmp .eq 5, 3) := by decide +kernel
theorem dL_law_1673 : decode code 1673 = .ok (.iconst 0, 1) := by decide +kernel
theorem dL_law_1674 : decode code 1674 = .ok (.ireturn, 1) := by decide +kernel
theorem dL_law_1675 : decode code 1675 = .ok (.iload 6, 2) := by decide +kernel
theorem dL_law_1677 : decode code 1677 = .ok (.ifCond .ne 15, 3) := by decide +kernel
theorem dL_law_1680 : decode code 1680 = .ok (.aload_n 3, 1) := by decide +kernel
theorem dL_law_1681 : decode code 1681 = .ok (.iconst 0, 1) := by decide +kernel
theorem dL_law_1682 : decode code 1682 = .ok (.laload, 1) := by decide +kernel
theorem dL_law_1683 : decode code 1683 = .ok (.iload 7, 2) := by decide +kernel
theorem dL_law_1685 : decode code 1685 = .ok (.i2l, 1) := by decide +kernel
theorem dL_law_1686 : decode code 1686 = .ok (.lcmp, 1) := by decide +kernel
theorem dL_law_1687 : decode code 1687 = .ok (.ifCond .eq 5, 3) := by decide +kernel
theorem dL_law_1690 : decode code 1690 = .ok (.iconst 0, 1) := by decide +kernel
theorem dL_law_1691 : decode code 1691 = .ok (.ireturn, 1) := by decide +kernel
theorem dL_law_1692 : decode code 1692 = .ok (.goto 612, 3) := by decide +kernel
theorem dL_law_1695 : decode code 1695 = .ok (.aload_n 1, 1) := by decide +kernel
theorem dL_law_1696 : decode code 1696 = .ok (.invokevirtual 211, 3) := by decide +kernel
theorem dL_law_1699 : decode code 1699 = .ok (.aload_n 2, 1) := by decide +kernel
theorem dL_law_1700 : decode code 1700 = .ok (.invokevirtual 214, 3) := by decide +kernel
theorem dL_law_1703 : decode code 1703 = .ok (.if_icmp .eq 601, 3) := by decide +kernel
theorem dL_law_1706 : decode code 1706 = .ok (.iconst 0, 1) := by decide +kernel
theorem dL_law_1707 : decode code 1707 = .ok (.ireturn, 1) := by decide +kernel
theorem dL_law_1708 : decode code 1708 = .ok (.aload_n 1, 1) := by decide +kernel
theorem dL_law_1709 : decode code 1709 = .ok (.invokevirtual 215, 3) := by decide +kernel
theorem dL_law_1712 : decode code 1712 = .ok (.aload_n 2, 1) := by decide +kernel
theorem dL_law_1713 : decode code 1713 = .ok (.invokevirtual 218, 3) := by decide +kernel
theorem dL_law_1716 : decode code 1716 = .ok (.if_icmp .eq 588, 3) := by decide +kernel
theorem dL_law_1719 : decode code 1719 = .ok (.iconst 0, 1) := by decide +kernel
theorem dL_law_1720 : decode code 1720 = .ok (.ireturn, 1) := by decide +kernel
theorem dL_law_1721 : decode code 1721 = .ok (.aload_n 1, 1) := by decide +kernel
theorem dL_law_1722 : decode code 1722 = .ok (.aload_n 0, 1) := by decide +kernel
theorem dL_law_1723 : decode code 1723 = .ok (.iload 5, 2) := by decide +kernel
theorem dL_law_1725 : decode code 1725 = .ok (.iconst 1, 1) := by decide +kernel
theorem dL_law_1726 : decode code 1726 = .ok (.iadd, 1) := by decide +kernel
theorem dL_law_1727 : decode code 1727 = .ok (.iaload, 1) := by decide +kernel
theorem dL_law_1728 : decode code 1728 = .ok (.i2c, 1) := by decide +kernel
theorem dL_law_1729 : decode code 1729 = .ok (.aload_n 3, 1) := by decide +kernel
theorem dL_law_1730 : decode code 1730 = .ok (.invokestatic 219, 3) := by decide +kernel
theorem dL_law_1733 : decode code 1733 = .ok (.istore 6, 2) := by decide +kernel
theorem dL_law_1735 : decode code 1735 = .ok (.aload_n 2, 1) := by decide +kernel
theorem dL_law_1736 : decode code 1736 = .ok (.aload_n 0, 1) := by decide +kernel
theorem dL_law_1737 : decode code 1737 = .ok (.iload 5, 2) := by decide +kernel
theorem dL_law_1739 : decode code 1739 = .ok (.iconst 1, 1) := by decide +kernel
theorem dL_law_1740 : decode code 1740 = .ok (.iadd, 1) := by decide +kernel
theorem dL_law_1741 : decode code 1741 = .ok (.iaload, 1) := by decide +kernel
theorem dL_law_1742 : decode code 1742 = .ok (.i2c, 1) := by decide +kernel
theorem dL_law_1743 : decode code 1743 = .ok (.invokevirtual 222, 3) := by decide +kernel
theorem dL_law_1746 : decode code 1746 = .ok (.istore 7, 2) := by decide +kernel
theorem dL_law_1748 : decode code 1748 = .ok (.aload_n 2, 1) := by decide +kernel
theorem dL_law_1749 : decode code 1749 = .ok (.invokevirtual 139, 3) := by decide +kernel
theorem dL_law_1752 : decode code 1752 = .ok (.iload 6, 2) := by decide +kernel
theorem dL_law_1754 : decode code 1754 = .ok (.if_icmp .eq 5, 3) := by decide +kernel
theorem dL_law_1757 : decode code 1757 = .ok (.iconst 0, 1) := by decide +kernel
theorem dL_law_1758 : decode code 1758 = .ok (.ireturn, 1) := by decide +kernel
theorem dL_law_1759 : decode code 1759 = .ok (.iload 6, 2) := by decide +kernel
theorem dL_law_1761 : decode code 1761 = .ok (.ifCond .ne 15, 3) := by decide +kernel
theorem dL_law_1764 : decode code 1764 = .ok (.aload_n 3, 1) := by decide +kernel
theorem dL_law_1765 : decode code 1765 = .ok (.iconst 0, 1) := by decide +kernel
theorem dL_law_1766 : decode code 1766 = .ok (.laload, 1) := by decide +kernel
theorem dL_law_1767 : decode code 1767 = .ok (.iload 7, 2) := by decide +kernel
theorem dL_law_1769 : decode code 1769 = .ok (.i2l, 1) := by decide +kernel
theorem dL_law_1770 : decode code 1770 = .ok (.lcmp, 1) := by decide +kernel
theorem dL_law_1771 : decode code 1771 = .ok (.ifCond .eq 5, 3) := by decide +kernel
theorem dL_law_1774 : decode code 1774 = .ok (.iconst 0, 1) := by decide +kernel
theorem dL_law_1775 : decode code 1775 = .ok (.ireturn, 1) := by decide +kernel
theorem dL_law_1776 : decode code 1776 = .ok (.goto 528, 3) := by decide +kernel
theorem dL_law_1779 : decode code 1779 = .ok (.aload_n 1, 1) := by decide +kernel
theorem dL_law_1780 : decode code 1780 = .ok (.aload_n 3, 1) := by decide +kernel
theorem dL_law_1781 : decode code 1781 = .ok (.invokestatic 223, 3) := by decide +kernel
theorem dL_law_1784 : decode code 1784 = .ok (.istore 6, 2) := by decide +kernel
theorem dL_law_1786 : decode code 1786 = .ok (.aload_n 2, 1) := by decide +kernel
theorem dL_law_1787 : decode code 1787 = .ok (.invokevirtual 225, 3) := by decide +kernel
theorem dL_law_1790 : decode code 1790 = .ok (.istore 7, 2) := by decide +kernel
theorem dL_law_1792 : decode code 1792 = .ok (.aload_n 2, 1) := by decide +kernel
theorem dL_law_1793 : decode code 1793 = .ok (.invokevirtual 139, 3) := by decide +kernel
theorem dL_law_1796 : decode code 1796 = .ok (.iload 6, 2) := by decide +kernel
theorem dL_law_1798 : decode code 1798 = .ok (.if_icmp .eq 5, 3) := by decide +kernel
theorem dL_law_1801 : decode code 1801 = .ok (.iconst 0, 1) := by decide +kernel
theorem dL_law_1802 : decode code 1802 = .ok (.ireturn, 1) := by decide +kernel
theorem dL_law_1803 : decode code 1803 = .ok (.iload 6, 2) := by decide +kernel
theorem dL_law_1805 : decode code 1805 = .ok (.ifCond .ne 15, 3) := by decide +kernel
theorem dL_law_1808 : decode code 1808 = .ok (.aload_n 3, 1) := by decide +kernel
theorem dL_law_1809 : decode code 1809 = .ok (.iconst 0, 1) := by decide +kernel
theorem dL_law_1810 : decode code 1810 = .ok (.laload, 1) := by decide +kernel
theorem dL_law_1811 : decode code 1811 = .ok (.iload 7, 2) := by decide +kernel
theorem dL_law_1813 : decode code 1813 = .ok (.i2l, 1) := by decide +kernel
theorem dL_law_1814 : decode code 1814 = .ok (.lcmp, 1) := by decide +kernel
theorem dL_law_1815 : decode code 1815 = .ok (.ifCond .eq 5, 3) := by decide +kernel
theorem dL_law_1818 : decode code 1818 = .ok (.iconst 0, 1) := by decide +kernel
theorem dL_law_1819 : decode code 1819 = .ok (.ireturn, 1) := by decide +kernel
theorem dL_law_1820 : decode code 1820 = .ok (.goto 484, 3) := by decide +kernel
theorem dL_law_1823 : decode code 1823 = .ok (.aload_n 1, 1) := by decide +kernel
theorem dL_law_1824 : decode code 1824 = .ok (.invokevirtual 226, 3) := by decide +kernel
theorem dL_law_1827 : decode code 1827 = .ok (.aload_n 2, 1) := by decide +kernel
theorem dL_law_1828 : decode code 1828 = .ok (.invokevirtual 229, 3) := by decide +kernel
theorem dL_law_1831 : decode code 1831 = .ok (.if_icmp .eq 473, 3) := by decide +kernel
theorem dL_law_1834 : decode code 1834 = .ok (.iconst 0, 1) := by decide +kernel
theorem dL_law_1835 : decode code 1835 = .ok (.ireturn, 1) := by decide +kernel
theorem dL_law_1836 : decode code 1836 = .ok (.aload_n 1, 1) := by decide +kernel
theorem dL_law_1837 : decode code 1837 = .ok (.aload_n 0, 1) := by decide +kernel
theorem dL_law_1838 : decode code 1838 = .ok (.iload 5, 2) := by decide +kernel
theorem dL_law_1840 : decode code 1840 = .ok (.iconst 1, 1) := by decide +kernel
theorem dL_law_1841 : decode code 1841 = .ok (.iadd, 1) := by decide +kernel
theorem dL_law_1842 : decode code 1842 = .ok (.iaload, 1) := by decide +kernel
theorem dL_law_1843 : decode code 1843 = .ok (.aload_n 3, 1) := by decide +kernel
theorem dL_law_1844 : decode code 1844 = .ok (.invokestatic 230, 3) := by decide +kernel
theorem dL_law_1847 : decode code 1847 = .ok (.istore 6, 2) := by decide +kernel
theorem dL_law_1849 : decode code 1849 = .ok (.aload_n 2, 1) := by decide +kernel
theorem dL_law_1850 : decode code 1850 = .ok (.aload_n 0, 1) := by decide +kernel
theorem dL_law_1851 : decode code 1851 = .ok (.iload 5, 2) := by decide +kernel
theorem dL_law_1853 : decode code 1853 = .ok (.iconst 1, 1) := by decide +kernel
theorem dL_law_1854 : decode code 1854 = .ok (.iadd, 1) := by decide +kernel
theorem dL_law_1855 : decode code 1855 = .ok (.iaload, 1) := by decide +kernel
theorem dL_law_1856 : decode code 1856 = .ok (.invokevirtual 232, 3) := by decide +kernel
theorem dL_law_1859 : decode code 1859 = .ok (.istore 7, 2) := by decide +kernel
theorem dL_law_1861 : decode code 1861 = .ok (.aload_n 2, 1) := by decide +kernel
theorem dL_law_1862 : decode code 1862 = .ok (.invokevirtual 139, 3) := by decide +kernel
theorem dL_law_1865 : decode code 1865 = .ok (.iload 6, 2) := by decide +kernel
theorem dL_law_1867 : decode code 1867 = .ok (.if_icmp .eq 5, 3) := by decide +kernel
theorem dL_law_1870 : decode code 1870 = .ok (.iconst 0, 1) := by decide +kernel
theorem dL_law_1871 : decode code 1871 = .ok (.ireturn, 1) := by decide +kernel
theorem dL_law_1872 : decode code 1872 = .ok (.iload 6, 2) := by decide +kernel
theorem dL_law_1874 : decode code 1874 = .ok (.ifCond .ne 15, 3) := by decide +kernel
theorem dL_law_1877 : decode code 1877 = .ok (.aload_n 3, 1) := by decide +kernel
theorem dL_law_1878 : decode code 1878 = .ok (.iconst 0, 1) := by decide +kernel
theorem dL_law_1879 : decode code 1879 = .ok (.laload, 1) := by decide +kernel
theorem dL_law_1880 : decode code 1880 = .ok (.iload 7, 2) := by decide +kernel
theorem dL_law_1882 : decode code 1882 = .ok (.i2l, 1) := by decide +kernel
theorem dL_law_1883 : decode code 1883 = .ok (.lcmp, 1) := by decide +kernel
theorem dL_law_1884 : decode code 1884 = .ok (.ifCond .eq 5, 3) := by decide +kernel
theorem dL_law_1887 : decode code 1887 = .ok (.iconst 0, 1) := by decide +kernel
theorem dL_law_1888 : decode code 1888 = .ok (.ireturn, 1) := by decide +kernel
theorem dL_law_1889 : decode code 1889 = .ok (.goto 415, 3) := by decide +kernel
theorem dL_law_1892 : decode code 1892 = .ok (.aload_n 1, 1) := by decide +kernel
theorem dL_law_1893 : decode code 1893 = .ok (.aload_n 0, 1) := by decide +kernel
theorem dL_law_1894 : decode code 1894 = .ok (.iload 5, 2) := by decide +kernel
theorem dL_law_1896 : decode code 1896 = .ok (.iconst 1, 1) := by decide +kernel
theorem dL_law_1897 : decode code 1897 = .ok (.iadd, 1) := by decide +kernel
theorem dL_law_1898 : decode code 1898 = .ok (.iaload, 1) := by decide +kernel
theorem dL_law_1899 : decode code 1899 = .ok (.aload_n 3, 1) := by decide +kernel
theorem dL_law_1900 : decode code 1900 = .ok (.invokestatic 233, 3) := by decide +kernel
theorem dL_law_1903 : decode code 1903 = .ok (.istore 6, 2) := by decide +kernel
theorem dL_law_1905 : decode code 1905 = .ok (.aload_n 2, 1) := by decide +kernel
theorem dL_law_1906 : decode code 1906 = .ok (.aload_n 0, 1) := by decide +kernel
theorem dL_law_1907 : decode code 1907 = .ok (.iload 5, 2) := by decide +kernel
theorem dL_law_1909 : decode code 1909 = .ok (.iconst 1, 1) := by decide +kernel
theorem dL_law_1910 : decode code 1910 = .ok (.iadd, 1) := by decide +kernel
theorem dL_law_1911 : decode code 1911 = .ok (.iaload, 1) := by decide +kernel
theorem dL_law_1912 : decode code 1912 = .ok (.invokevirtual 235, 3) := by decide +kernel
theorem dL_law_1915 : decode code 1915 = .ok (.istore 7, 2) := by decide +kernel
theorem dL_law_1917 : decode code 1917 = .ok (.aload_n 2, 1) := by decide +kernel
theorem dL_law_1918 : decode code 1918 = .ok (.invokevirtual 139, 3) := by decide +kernel
theorem dL_law_1921 : decode code 1921 = .ok (.iload 6, 2) := by decide +kernel
theorem dL_law_1923 : decode code 1923 = .ok (.if_icmp .eq 5, 3) := by decide +kernel
theorem dL_law_1926 : decode code 1926 = .ok (.iconst 0, 1) := by decide +kernel
theorem dL_law_1927 : decode code 1927 = .ok (.ireturn, 1) := by decide +kernel
theorem dL_law_1928 : decode code 1928 = .ok (.iload 6, 2) := by decide +kernel
theorem dL_law_1930 : decode code 1930 = .ok (.ifCond .ne 15, 3) := by decide +kernel
theorem dL_law_1933 : decode code 1933 = .ok (.aload_n 3, 1) := by decide +kernel
theorem dL_law_1934 : decode code 1934 = .ok (.iconst 0, 1) := by decide +kernel
theorem dL_law_1935 : decode code 1935 = .ok (.laload, 1) := by decide +kernel
theorem dL_law_1936 : decode code 1936 = .ok (.iload 7, 2) := by decide +kernel
theorem dL_law_1938 : decode code 1938 = .ok (.i2l, 1) := by decide +kernel
theorem dL_law_1939 : decode code 1939 = .ok (.lcmp, 1) := by decide +kernel
theorem dL_law_1940 : decode code 1940 = .ok (.ifCond .eq 5, 3) := by decide +kernel
theorem dL_law_1943 : decode code 1943 = .ok (.iconst 0, 1) := by decide +kernel
theorem dL_law_1944 : decode code 1944 = .ok (.ireturn, 1) := by decide +kernel
theorem dL_law_1945 : decode code 1945 = .ok (.goto 359, 3) := by decide +kernel
theorem dL_law_1948 : decode code 1948 = .ok (.aload_n 1, 1) := by decide +kernel
theorem dL_law_1949 : decode code 1949 = .ok (.aload_n 0, 1) := by decide +kernel
theorem dL_law_1950 : decode code 1950 = .ok (.iload 5, 2) := by decide +kernel
theorem dL_law_1952 : decode code 1952 = .ok (.iconst 1, 1) := by decide +kernel
theorem dL_law_1953 : decode code 1953 = .ok (.iadd, 1) := by decide +kernel
theorem dL_law_1954 : decode code 1954 = .ok (.iaload, 1) := by decide +kernel
theorem dL_law_1955 : decode code 1955 = .ok (.aload_n 3, 1) := by decide +kernel
theorem dL_law_1956 : decode code 1956 = .ok (.invokestatic 236, 3) := by decide +kernel
theorem dL_law_1959 : decode code 1959 = .ok (.istore 6, 2) := by decide +kernel
theorem dL_law_1961 : decode code 1961 = .ok (.aload_n 2, 1) := by decide +kernel
theorem dL_law_1962 : decode code 1962 = .ok (.aload_n 0, 1) := by decide +kernel
theorem dL_law_1963 : decode code 1963 = .ok (.iload 5, 2) := by decide +kernel
theorem dL_law_1965 : decode code 1965 = .ok (.iconst 1, 1) := by decide +kernel
theorem dL_law_1966 : decode code 1966 = .ok (.iadd, 1) := by decide +kernel
theorem dL_law_1967 : decode code 1967 = .ok (.iaload, 1) := by decide +kernel
theorem dL_law_1968 : decode code 1968 = .ok (.invokevirtual 238, 3) := by decide +kernel
theorem dL_law_1971 : decode code 1971 = .ok (.istore 7, 2) := by decide +kernel
theorem dL_law_1973 : decode code 1973 = .ok (.aload_n 2, 1) := by decide +kernel
theorem dL_law_1974 : decode code 1974 = .ok (.invokevirtual 139, 3) := by decide +kernel
theorem dL_law_1977 : decode code 1977 = .ok (.iload 6, 2) := by decide +kernel
theorem dL_law_1979 : decode code 1979 = .ok (.if_icmp .eq 5, 3) := by decide +kernel
theorem dL_law_1982 : decode code 1982 = .ok (.iconst 0, 1) := by decide +kernel
theorem dL_law_1983 : decode code 1983 = .ok (.ireturn, 1) := by decide +kernel
theorem dL_law_1984 : decode code 1984 = .ok (.iload 6, 2) := by decide +kernel
theorem dL_law_1986 : decode code 1986 = .ok (.ifCond .ne 15, 3) := by decide +kernel
theorem dL_law_1989 : decode code 1989 = .ok (.aload_n 3, 1) := by decide +kernel
theorem dL_law_1990 : decode code 1990 = .ok (.iconst 0, 1) := by decide +kernel
theorem dL_law_1991 : decode code 1991 = .ok (.laload, 1) := by decide +kernel
theorem dL_law_1992 : decode code 1992 = .ok (.iload 7, 2) := by decide +kernel
theorem dL_law_1994 : decode code 1994 = .ok (.i2l, 1) := by decide +kernel
theorem dL_law_1995 : decode code 1995 = .ok (.lcmp, 1) := by decide +kernel
theorem dL_law_1996 : decode code 1996 = .ok (.ifCond .eq 5, 3) := by decide +kernel
theorem dL_law_1999 : decode code 1999 = .ok (.iconst 0, 1) := by decide +kernel
theorem dL_law_2000 : decode code 2000 = .ok (.ireturn, 1) := by decide +kernel
theorem dL_law_2001 : decode code 2001 = .ok (.goto 303, 3) := by decide +kernel
theorem dL_law_2004 : decode code 2004 = .ok (.aload_n 1, 1) := by decide +kernel
theorem dL_law_2005 : decode code 2005 = .ok (.aload_n 0, 1) := by decide +kernel
theorem dL_law_2006 : decode code 2006 = .ok (.iload 5, 2) := by decide +kernel
theorem dL_law_2008 : decode code 2008 = .ok (.iconst 1, 1) := by decide +kernel
theorem dL_law_2009 : decode code 2009 = .ok (.iadd, 1) := by decide +kernel
theorem dL_law_2010 : decode code 2010 = .ok (.iaload, 1) := by decide +kernel
theorem dL_law_2011 : decode code 2011 = .ok (.aload 4, 2) := by decide +kernel
theorem dL_law_2013 : decode code 2013 = .ok (.invokestatic 239, 3) := by decide +kernel
theorem dL_law_2016 : decode code 2016 = .ok (.istore 6, 2) := by decide +kernel
theorem dL_law_2018 : decode code 2018 = .ok (.aload_n 2, 1) := by decide +kernel
theorem dL_law_2019 : decode code 2019 = .ok (.aload_n 0, 1) := by decide +kernel
theorem dL_law_2020 : decode code 2020 = .ok (.iload 5, 2) := by decide +kernel
theorem dL_law_2022 : decode code 2022 = .ok (.iconst 1, 1) := by decide +kernel
theorem dL_law_2023 : decode code 2023 = .ok (.iadd, 1) := by decide +kernel
theorem dL_law_2024 : decode code 2024 = .ok (.iaload, 1) := by decide +kernel
theorem dL_law_2025 : decode code 2025 = .ok (.invokevirtual 242, 3) := by decide +kernel
theorem dL_law_2028 : decode code 2028 = .ok (.dstore 7, 2) := by decide +kernel
theorem dL_law_2030 : decode code 2030 = .ok (.aload_n 2, 1) := by decide +kernel
theorem dL_law_2031 : decode code 2031 = .ok (.invokevirtual 139, 3) := by decide +kernel
theorem dL_law_2034 : decode code 2034 = .ok (.iload 6, 2) := by decide +kernel
theorem dL_law_2036 : decode code 2036 = .ok (.if_icmp .eq 5, 3) := by decide +kernel
theorem dL_law_2039 : decode code 2039 = .ok (.iconst 0, 1) := by decide +kernel
theorem dL_law_2040 : decode code 2040 = .ok (.ireturn, 1) := by decide +kernel
theorem dL_law_2041 : decode code 2041 = .ok (.iload 6, 2) := by decide +kernel
theorem dL_law_2043 : decode code 2043 = .ok (.ifCond .ne 35, 3) := by decide +kernel
theorem dL_law_2046 : decode code 2046 = .ok (.aload 4, 2) := by decide +kernel
theorem dL_law_2048 : decode code 2048 = .ok (.iconst 0, 1) := by decide +kernel
theorem dL_law_2049 : decode code 2049 = .ok (.daload, 1) := by decide +kernel
theorem dL_law_2050 : decode code 2050 = .ok (.dload 7, 2) := by decide +kernel
theorem dL_law_2052 : decode code 2052 = .ok (.dcmp .l, 1) := by decide +kernel
theorem dL_law_2053 : decode code 2053 = .ok (.ifCond .eq 25, 3) := by decide +kernel
theorem dL_law_2056 : decode code 2056 = .ok (.aload 4, 2) := by decide +kernel
theorem dL_law_2058 : decode code 2058 = .ok (.iconst 0, 1) := by decide +kernel
theorem dL_law_2059 : decode code 2059 = .ok (.daload, 1) := by decide +kernel
theorem dL_law_2060 : decode code 2060 = .ok (.aload 4, 2) := by decide +kernel
theorem dL_law_2062 : decode code 2062 = .ok (.iconst 0, 1) := by decide +kernel
theorem dL_law_2063 : decode code 2063 = .ok (.daload, 1) := by decide +kernel
theorem dL_law_2064 : decode code 2064 = .ok (.dcmp .l, 1) := by decide +kernel
theorem dL_law_2065 : decode code 2065 = .ok (.ifCond .eq 11, 3) := by decide +kernel
theorem dL_law_2068 : decode code 2068 = .ok (.dload 7, 2) := by decide +kernel
theorem dL_law_2070 : decode code 2070 = .ok (.dload 7, 2) := by decide +kernel
theorem dL_law_2072 : decode code 2072 = .ok (.dcmp .l, 1) := by decide +kernel
theorem dL_law_2073 : decode code 2073 = .ok (.ifCond .ne 5, 3) := by decide +kernel
theorem dL_law_2076 : decode code 2076 = .ok (.iconst 0, 1) := by decide +kernel
theorem dL_law_2077 : decode code 2077 = .ok (.ireturn, 1) := by decide +kernel
theorem dL_law_2078 : decode code 2078 = .ok (.goto 226, 3) := by decide +kernel
theorem dL_law_2081 : decode code 2081 = .ok (.aload_n 1, 1) := by decide +kernel
theorem dL_law_2082 : decode code 2082 = .ok (.aload 4, 2) := by decide +kernel
theorem dL_law_2084 : decode code 2084 = .ok (.invokestatic 243, 3) := by decide +kernel
theorem dL_law_2087 : decode code 2087 = .ok (.istore 6, 2) := by decide +kernel
theorem dL_law_2089 : decode code 2089 = .ok (.aload_n 2, 1) := by decide +kernel
theorem dL_law_2090 : decode code 2090 = .ok (.invokevirtual 246, 3) := by decide +kernel
theorem dL_law_2093 : decode code 2093 = .ok (.fstore 7, 2) := by decide +kernel
theorem dL_law_2095 : decode code 2095 = .ok (.aload_n 2, 1) := by decide +kernel
theorem dL_law_2096 : decode code 2096 = .ok (.invokevirtual 139, 3) := by decide +kernel
theorem dL_law_2099 : decode code 2099 = .ok (.iload 6, 2) := by decide +kernel
theorem dL_law_2101 : decode code 2101 = .ok (.if_icmp .eq 5, 3) := by decide +kernel
theorem dL_law_2104 : decode code 2104 = .ok (.iconst 0, 1) := by decide +kernel
theorem dL_law_2105 : decode code 2105 = .ok (.ireturn, 1) := by decide +kernel
theorem dL_law_2106 : decode code 2106 = .ok (.iload 6, 2) := by decide +kernel
theorem dL_law_2108 : decode code 2108 = .ok (.ifCond .ne 36, 3) := by decide +kernel
theorem dL_law_2111 : decode code 2111 = .ok (.aload 4, 2) := by decide +kernel
theorem dL_law_2113 : decode code 2113 = .ok (.iconst 0, 1) := by decide +kernel
theorem dL_law_2114 : decode code 2114 = .ok (.daload, 1) := by decide +kernel
theorem dL_law_2115 : decode code 2115 = .ok (.fload 7, 2) := by decide +kernel
theorem dL_law_2117 : decode code 2117 = .ok (.f2d, 1) := by decide +kernel
theorem dL_law_2118 : decode code 2118 = .ok (.dcmp .l, 1) := by decide +kernel
theorem dL_law_2119 : decode code 2119 = .ok (.ifCond .eq 25, 3) := by decide +kernel
theorem dL_law_2122 : decode code 2122 = .ok (.aload 4, 2) := by decide +kernel
theorem dL_law_2124 : decode code 2124 = .ok (.iconst 0, 1) := by decide +kernel
theorem dL_law_2125 : decode code 2125 = .ok (.daload, 1) := by decide +kernel
theorem dL_law_2126 : decode code 2126 = .ok (.aload 4, 2) := by decide +kernel
theorem dL_law_2128 : decode code 2128 = .ok (.iconst 0, 1) := by decide +kernel
theorem dL_law_2129 : decode code 2129 = .ok (.daload, 1) := by decide +kernel
theorem dL_law_2130 : decode code 2130 = .ok (.dcmp .l, 1) := by decide +kernel
theorem dL_law_2131 : decode code 2131 = .ok (.ifCond .eq 11, 3) := by decide +kernel
theorem dL_law_2134 : decode code 2134 = .ok (.fload 7, 2) := by decide +kernel
theorem dL_law_2136 : decode code 2136 = .ok (.fload 7, 2) := by decide +kernel
theorem dL_law_2138 : decode code 2138 = .ok (.fcmp .l, 1) := by decide +kernel
theorem dL_law_2139 : decode code 2139 = .ok (.ifCond .ne 5, 3) := by decide +kernel
theorem dL_law_2142 : decode code 2142 = .ok (.iconst 0, 1) := by decide +kernel
theorem dL_law_2143 : decode code 2143 = .ok (.ireturn, 1) := by decide +kernel
theorem dL_law_2144 : decode code 2144 = .ok (.goto 160, 3) := by decide +kernel
theorem dL_law_2147 : decode code 2147 = .ok (.aload_n 1, 1) := by decide +kernel
theorem dL_law_2148 : decode code 2148 = .ok (.aload_n 0, 1) := by decide +kernel
theorem dL_law_2149 : decode code 2149 = .ok (.iload 5, 2) := by decide +kernel
theorem dL_law_2151 : decode code 2151 = .ok (.iconst 1, 1) := by decide +kernel
theorem dL_law_2152 : decode code 2152 = .ok (.iadd, 1) := by decide +kernel
theorem dL_law_2153 : decode code 2153 = .ok (.iaload, 1) := by decide +kernel
theorem dL_law_2154 : decode code 2154 = .ok (.aload_n 3, 1) := by decide +kernel
theorem dL_law_2155 : decode code 2155 = .ok (.invokestatic 247, 3) := by decide +kernel
theorem dL_law_2158 : decode code 2158 = .ok (.istore 6, 2) := by decide +kernel
theorem dL_law_2160 : decode code 2160 = .ok (.aload_n 2, 1) := by decide +kernel
theorem dL_law_2161 : decode code 2161 = .ok (.aload_n 0, 1) := by decide +kernel
theorem dL_law_2162 : decode code 2162 = .ok (.iload 5, 2) := by decide +kernel
theorem dL_law_2164 : decode code 2164 = .ok (.iconst 1, 1) := by decide +kernel
theorem dL_law_2165 : decode code 2165 = .ok (.iadd, 1) := by decide +kernel
theorem dL_law_2166 : decode code 2166 = .ok (.iaload, 1) := by decide +kernel
theorem dL_law_2167 : decode code 2167 = .ok (.invokevirtual 249, 3) := by decide +kernel
theorem dL_law_2170 : decode code 2170 = .ok (.istore 7, 2) := by decide +kernel
theorem dL_law_2172 : decode code 2172 = .ok (.aload_n 2, 1) := by decide +kernel
theorem dL_law_2173 : decode code 2173 = .ok (.invokevirtual 139, 3) := by decide +kernel
theorem dL_law_2176 : decode code 2176 = .ok (.iload 6, 2) := by decide +kernel
theorem dL_law_2178 : decode code 2178 = .ok (.if_icmp .eq 5, 3) := by decide +kernel
theorem dL_law_2181 : decode code 2181 = .ok (.iconst 0, 1) := by decide +kernel
theorem dL_law_2182 : decode code 2182 = .ok (.ireturn, 1) := by decide +kernel
theorem dL_law_2183 : decode code 2183 = .ok (.iload 6, 2) := by decide +kernel
theorem dL_law_2185 : decode code 2185 = .ok (.ifCond .ne 15, 3) := by decide +kernel
theorem dL_law_2188 : decode code 2188 = .ok (.aload_n 3, 1) := by decide +kernel
theorem dL_law_2189 : decode code 2189 = .ok (.iconst 0, 1) := by decide +kernel
theorem dL_law_2190 : decode code 2190 = .ok (.laload, 1) := by decide +kernel
theorem dL_law_2191 : decode code 2191 = .ok (.iload 7, 2) := by decide +kernel
theorem dL_law_2193 : decode code 2193 = .ok (.i2l, 1) := by decide +kernel
theorem dL_law_2194 : decode code 2194 = .ok (.lcmp, 1) := by decide +kernel
theorem dL_law_2195 : decode code 2195 = .ok (.ifCond .eq 5, 3) := by decide +kernel
theorem dL_law_2198 : decode code 2198 = .ok (.iconst 0, 1) := by decide +kernel
theorem dL_law_2199 : decode code 2199 = .ok (.ireturn, 1) := by decide +kernel
theorem dL_law_2200 : decode code 2200 = .ok (.goto 104, 3) := by decide +kernel
theorem dL_law_2203 : decode code 2203 = .ok (.aload_n 1, 1) := by decide +kernel
theorem dL_law_2204 : decode code 2204 = .ok (.aload_n 3, 1) := by decide +kernel
theorem dL_law_2205 : decode code 2205 = .ok (.invokestatic 250, 3) := by decide +kernel
theorem dL_law_2208 : decode code 2208 = .ok (.istore 6, 2) := by decide +kernel
theorem dL_law_2210 : decode code 2210 = .ok (.aload_n 2, 1) := by decide +kernel
theorem dL_law_2211 : decode code 2211 = .ok (.invokevirtual 252, 3) := by decide +kernel
theorem dL_law_2214 : decode code 2214 = .ok (.istore 7, 2) := by decide +kernel
theorem dL_law_2216 : decode code 2216 = .ok (.aload_n 2, 1) := by decide +kernel
theorem dL_law_2217 : decode code 2217 = .ok (.invokevirtual 139, 3) := by decide +kernel
theorem dL_law_2220 : decode code 2220 = .ok (.iload 6, 2) := by decide +kernel
theorem dL_law_2222 : decode code 2222 = .ok (.if_icmp .eq 5, 3) := by decide +kernel
theorem dL_law_2225 : decode code 2225 = .ok (.iconst 0, 1) := by decide +kernel
theorem dL_law_2226 : decode code 2226 = .ok (.ireturn, 1) := by decide +kernel
theorem dL_law_2227 : decode code 2227 = .ok (.iload 6, 2) := by decide +kernel
theorem dL_law_2229 : decode code 2229 = .ok (.ifCond .ne 15, 3) := by decide +kernel
theorem dL_law_2232 : decode code 2232 = .ok (.aload_n 3, 1) := by decide +kernel
theorem dL_law_2233 : decode code 2233 = .ok (.iconst 0, 1) := by decide +kernel
theorem dL_law_2234 : decode code 2234 = .ok (.laload, 1) := by decide +kernel
theorem dL_law_2235 : decode code 2235 = .ok (.iload 7, 2) := by decide +kernel
theorem dL_law_2237 : decode code 2237 = .ok (.i2l, 1) := by decide +kernel
theorem dL_law_2238 : decode code 2238 = .ok (.lcmp, 1) := by decide +kernel
theorem dL_law_2239 : decode code 2239 = .ok (.ifCond .eq 5, 3) := by decide +kernel
theorem dL_law_2242 : decode code 2242 = .ok (.iconst 0, 1) := by decide +kernel
theorem dL_law_2243 : decode code 2243 = .ok (.ireturn, 1) := by decide +kernel
theorem dL_law_2244 : decode code 2244 = .ok (.goto 60, 3) := by decide +kernel
theorem dL_law_2247 : decode code 2247 = .ok (.aload_n 1, 1) := by decide +kernel
theorem dL_law_2248 : decode code 2248 = .ok (.invokevirtual 253, 3) := by decide +kernel
theorem dL_law_2251 : decode code 2251 = .ok (.aload_n 2, 1) := by decide +kernel
theorem dL_law_2252 : decode code 2252 = .ok (.invokevirtual 256, 3) := by decide +kernel
theorem dL_law_2255 : decode code 2255 = .ok (.if_icmp .eq 49, 3) := by decide +kernel
theorem dL_law_2258 : decode code 2258 = .ok (.iconst 0, 1) := by decide +kernel
theorem dL_law_2259 : decode code 2259 = .ok (.ireturn, 1) := by decide +kernel
theorem dL_law_2260 : decode code 2260 = .ok (.aload_n 1, 1) := by decide +kernel
theorem dL_law_2261 : decode code 2261 = .ok (.aload_n 3, 1) := by decide +kernel
theorem dL_law_2262 : decode code 2262 = .ok (.invokestatic 257, 3) := by decide +kernel
theorem dL_law_2265 : decode code 2265 = .ok (.istore 6, 2) := by decide +kernel
theorem dL_law_2267 : decode code 2267 = .ok (.aload_n 2, 1) := by decide +kernel
theorem dL_law_2268 : decode code 2268 = .ok (.invokevirtual 259, 3) := by decide +kernel
theorem dL_law_2271 : decode code 2271 = .ok (.istore 7, 2) := by decide +kernel
theorem dL_law_2273 : decode code 2273 = .ok (.aload_n 2, 1) := by decide +kernel
theorem dL_law_2274 : decode code 2274 = .ok (.invokevirtual 139, 3) := by decide +kernel
theorem dL_law_2277 : decode code 2277 = .ok (.iload 6, 2) := by decide +kernel
theorem dL_law_2279 : decode code 2279 = .ok (.if_icmp .eq 5, 3) := by decide +kernel
theorem dL_law_2282 : decode code 2282 = .ok (.iconst 0, 1) := by decide +kernel
theorem dL_law_2283 : decode code 2283 = .ok (.ireturn, 1) := by decide +kernel
theorem dL_law_2284 : decode code 2284 = .ok (.iload 6, 2) := by decide +kernel
theorem dL_law_2286 : decode code 2286 = .ok (.ifCond .ne 15, 3) := by decide +kernel
theorem dL_law_2289 : decode code 2289 = .ok (.aload_n 3, 1) := by decide +kernel
theorem dL_law_2290 : decode code 2290 = .ok (.iconst 0, 1) := by decide +kernel
theorem dL_law_2291 : decode code 2291 = .ok (.laload, 1) := by decide +kernel
theorem dL_law_2292 : decode code 2292 = .ok (.iload 7, 2) := by decide +kernel
theorem dL_law_2294 : decode code 2294 = .ok (.i2l, 1) := by decide +kernel
theorem dL_law_2295 : decode code 2295 = .ok (.lcmp, 1) := by decide +kernel
theorem dL_law_2296 : decode code 2296 = .ok (.ifCond .eq 5, 3) := by decide +kernel
theorem dL_law_2299 : decode code 2299 = .ok (.iconst 0, 1) := by decide +kernel
theorem dL_law_2300 : decode code 2300 = .ok (.ireturn, 1) := by decide +kernel
theorem dL_law_2301 : decode code 2301 = .ok (.goto 3, 3) := by decide +kernel
theorem dL_law_2304 : decode code 2304 = .ok (.iinc 5 4, 3) := by decide +kernel
theorem dL_law_2307 : decode code 2307 = .ok (.goto (-2279), 3) := by decide +kernel
theorem dL_law_2310 : decode code 2310 = .ok (.iconst 1, 1) := by decide +kernel
theorem dL_law_2311 : decode code 2311 = .ok (.ireturn, 1) := by decide +kernel
def yLaw : MethodName := ⟨RL, "law", "([I)Z"⟩
abbrev mL_law : zMI := (yLaw, code, 9, ret, [])
theorem z_wid {Γ : zG} {mi : zMI} {d mc ms pc k n k' n' : Nat} {lv : List (Option Value)} {st : List Value} {G : zH} {Post : zP} (hk : k ≤ k') (hn : n ≤ n') (kk : zX Γ mi d mc ms pc lv st G k' n' Post) : zX Γ mi d mc ms pc lv st G k n Post := fun p e R s m args below meth c H locs ls C hH hS hl T hT X => kk p e R s m args below meth c H locs ls C hH hS hl T hT (stand_widen X hk hn)
def zSep (ax am : Nat → Nat) (bq ou od : Nat) : Prop := (∀ j k, j < 219 → k < 8 → ax j ≠ am k) ∧ (∀ k, k < 8 → bq ≠ am k) ∧ (∀ j, j < 219 → ax j ≠ ou ∧ ax j ≠ od) ∧ (∀ k, k < 8 → am k ≠ ou ∧ am k ≠ od) ∧ (bq ≠ ou ∧ bq ≠ od ∧ ou ≠ od)
/-- the class's world and the reference's in one heap, with the law's two arrays -/
def zLd (G : zH) (ax : Nat → Nat) (bq m : Nat) (ρ : Nat → zSt) (γ : zSt) (am : Nat → Nat) (μ : zSt) (ou od : Nat) : Prop := zCls G ax bq m ρ γ ∧ zMod G am μ ∧ (∃ f : Nat → Int64, G ou = some (.inl (.long, (1, .inr (.inl f))))) ∧ (∃ f : Nat → UInt64, G od = some (.inl (.double, (1, .inr (.inr (.inr (.inl f))))))) ∧ zSep ax am bq ou od
section ZLD
variable {G G1 : zH} {ax : Nat → Nat} {bq m : Nat} {ρ ρ' : Nat → zSt} {γ γ' : zSt} {am : Nat → Nat} {μ μ' : zSt} {ou od : Nat}
theorem zCls.kp (h : zCls G ax bq m ρ γ) (hk : ∀ k, k < 219 → G1 (ax k) = G (ax k)) (hb : G1 bq = G bq) : zCls G1 ax bq m ρ γ := ⟨fun k h9 => (hk k (by omega)).trans (h.1 k h9), fun r hr => (h.2.1 r hr).kp (fun k h9 => hk (10 + 19 * r + k) (by omega)), h.2.2.1, hb.trans h.2.2.2.1, h.2.2.2.2⟩
theorem zMod.kp (h : zMod G am μ) (hk : ∀ k, k < 8 → G1 (am k) = G (am k)) : zMod G1 am μ := ⟨fun k h9 => (hk k h9).trans (h.1 k h9), h.2⟩
theorem zMod.ne (h : zMod G am μ) {k : Nat} (hk : k < 8) : G (am k) ≠ none := by rw [h.1 k hk]; exact Option.some_ne_none _
theorem zLd.cls (h : zLd G ax bq m ρ γ am μ ou od) (hC : zCls G1 ax bq m ρ' γ') (hF : zFC G G1 ax bq) : zLd G1 ax bq m ρ' γ' am μ ou od := by
  obtain ⟨h1, h2, ⟨f, h3⟩, ⟨g, h4⟩, h5⟩ := h
  obtain ⟨s1, s2, s3, s4, s5⟩ := id h5
  refine ⟨hC, h2.kp (fun k hk => hF _ (fun j hj z => s1 j k hj hk z.symm) (fun z => s2 k hk z.symm) (h2.ne hk)), ⟨f, ?_⟩, ⟨g, ?_⟩, h5⟩
  · rw [hF ou (fun j hj z => (s3 j hj).1 z.symm) (fun z => s5.1 z.symm) (by rw [h3]; exact Option.some_ne_none _)]; exact h3
  · rw [hF od (fun j hj z => (s3 j hj).2 z.symm) (fun z => s5.2.1 z.symm) (by rw [h4]; exact Option.some_ne_none _)]; exact h4
theorem zLd.line {q1 m1 : Nat} (h : zLd G ax bq m ρ γ am μ ou od) (hC : zCls G1 ax q1 m1 ρ' γ') (hF : zFC G G1 ax bq) (hq : zQn G bq q1) : zLd G1 ax q1 m1 ρ' γ' am μ ou od := by
  obtain ⟨h1, h2, ⟨f, h3⟩, ⟨g, h4⟩, h5⟩ := h
  obtain ⟨s1, s2, s3, s4, s5⟩ := id h5
  have hne : ∀ a, G a ≠ none → bq ≠ a → q1 ≠ a := fun a ha hb z => by
    rcases hq with e | e
    · exact hb (e.symm.trans z)
    · exact ha (by rw [← z]; exact e)
  have n3 : G ou ≠ none := by rw [h3]; exact Option.some_ne_none _
  have n4 : G od ≠ none := by rw [h4]; exact Option.some_ne_none _
  refine ⟨hC, h2.kp (fun k hk => hF _ (fun j hj z => s1 j k hj hk z.symm) (fun z => s2 k hk z.symm) (h2.ne hk)), ⟨f, ?_⟩, ⟨g, ?_⟩, s1, fun k hk => hne _ (h2.ne hk) (s2 k hk), s3, s4, hne _ n3 s5.1, hne _ n4 s5.2.1, s5.2.2⟩
  · rw [hF ou (fun j hj z => (s3 j hj).1 z.symm) (fun z => s5.1 z.symm) n3]; exact h3
  · rw [hF od (fun j hj z => (s3 j hj).2 z.symm) (fun z => s5.2.1 z.symm) n4]; exact h4
theorem zLd.mod (h : zLd G ax bq m ρ γ am μ ou od) (hM : zMod G1 am μ') (hF : zFrm G G1 am 8) : zLd G1 ax bq m ρ γ am μ' ou od := by
  obtain ⟨h1, h2, ⟨f, h3⟩, ⟨g, h4⟩, h5⟩ := h
  obtain ⟨s1, s2, s3, s4, s5⟩ := id h5
  exact ⟨h1.kp (fun k hk => hF _ (fun j hj => s1 k j hk hj)) (hF _ (fun j hj => s2 j hj)), hM, ⟨f, by rw [hF ou (fun j hj z => (s4 j hj).1 z.symm)]; exact h3⟩, ⟨g, by rw [hF od (fun j hj z => (s4 j hj).2 z.symm)]; exact h4⟩, h5⟩
theorem zLd.out (h : zLd G ax bq m ρ γ am μ ou od) (f : Nat → Int64) : zLd (zset G ou (.inl (.long, (1, .inr (.inl f))))) ax bq m ρ γ am μ ou od := by
  obtain ⟨h1, h2, h3, ⟨g, h4⟩, h5⟩ := h
  obtain ⟨s1, s2, s3, s4, s5⟩ := id h5
  exact ⟨h1.kp (fun k hk => zset_n (s3 k hk).1) (zset_n s5.1), h2.kp (fun k hk => zset_n (s4 k hk).1), ⟨f, zset_s _ _ _⟩, ⟨g, by rw [zset_n (Ne.symm s5.2.2)]; exact h4⟩, h5⟩
theorem zLd.outD (h : zLd G ax bq m ρ γ am μ ou od) (f : Nat → UInt64) : zLd (zset G od (.inl (.double, (1, .inr (.inr (.inr (.inl f))))))) ax bq m ρ γ am μ ou od := by
  obtain ⟨h1, h2, ⟨g, h3⟩, h4, h5⟩ := h
  obtain ⟨s1, s2, s3, s4, s5⟩ := id h5
  exact ⟨h1.kp (fun k hk => zset_n (s3 k hk).2) (zset_n s5.2.1), h2.kp (fun k hk => zset_n (s4 k hk).2), ⟨g, by rw [zset_n s5.2.2]; exact h3⟩, ⟨f, zset_s _ _ _⟩, h5⟩
theorem zLd.seeO (h : zLd G ax bq m ρ γ am μ ou od) (hF : zFrm G G1 am 8) : G1 ou = G ou := hF ou (fun j hj z => (h.2.2.2.2.2.2.2.1 j hj).1 z.symm)
theorem zLd.seeD (h : zLd G ax bq m ρ γ am μ ou od) (hF : zFrm G G1 am 8) : G1 od = G od := hF od (fun j hj z => (h.2.2.2.2.2.2.2.1 j hj).2 z.symm)
end ZLD
theorem zscI {i j L : Nat} (h : i + j < L) (hL : L < 2147483648) : vp_in (nI i + nI j) L := by
  rw [nI_add]
  exact vp_in_nI h hL
/-- an answer: a number, or one of the exceptions that the law catches -/
def zisI (cs : List String) (o : zO) : Prop := (∃ v, o = zvi v) ∨ ∃ E c, o = .inr E ∧ zcd E cs 1 = some c ∧ c ≠ 0
theorem zlcmp (x : Int64) : lg_cmp x x = 0 := by
  unfold lg_cmp
  simp
