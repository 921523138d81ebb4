theorem dl_0 : decode code 0 = .ok (.new 8, 3) := by decide +kernel
theorem dl_3 : decode code 3 = .ok (.dup, 1) := by decide +kernel
theorem dl_4 : decode code 4 = .ok (.invokespecial 22, 3) := by decide +kernel
theorem dl_7 : decode code 7 = .ok (.astore_n 1, 1) := by decide +kernel
theorem dl_8 : decode code 8 = .ok (.new 23, 3) := by decide +kernel
theorem dl_11 : decode code 11 = .ok (.dup, 1) := by decide +kernel
theorem dl_12 : decode code 12 = .ok (.invokespecial 25, 3) := by decide +kernel
theorem dl_15 : decode code 15 = .ok (.astore_n 2, 1) := by decide +kernel
theorem dl_16 : decode code 16 = .ok (.iconst 1, 1) := by decide +kernel
theorem dl_17 : decode code 17 = .ok (.newarray .long, 2) := by decide +kernel
theorem dl_19 : decode code 19 = .ok (.astore_n 3, 1) := by decide +kernel
theorem dl_20 : decode code 20 = .ok (.iconst 0, 1) := by decide +kernel
theorem dl_21 : decode code 21 = .ok (.istore 4, 2) := by decide +kernel
theorem dl_23 : decode code 23 = .ok (.iload 4, 2) := by decide +kernel
theorem dl_25 : decode code 25 = .ok (.aload_n 0, 1) := by decide +kernel
theorem dl_26 : decode code 26 = .ok (.arraylength, 1) := by decide +kernel
theorem dl_27 : decode code 27 = .ok (.iconst 5, 1) := by decide +kernel
theorem dl_28 : decode code 28 = .ok (.isub, 1) := by decide +kernel
theorem dl_29 : decode code 29 = .ok (.if_icmp .gt 1528, 3) := by decide +kernel
theorem dl_32 : decode code 32 = .ok (.aload_n 0, 1) := by decide +kernel
theorem dl_33 : decode code 33 = .ok (.iload 4, 2) := by decide +kernel
theorem dl_35 : decode code 35 = .ok (.iaload, 1) := by decide +kernel
theorem dl_36 : decode code 36 = .ok (.bipush 63, 2) := by decide +kernel
theorem dl_38 : decode code 38 = .ok (.iand, 1) := by decide +kernel
theorem dl_39 : decode code 39 = .ok (.tableswitch 1512 0 38 #[169, 194, 219, 244, 257, 325, 393, 454, 491, 528, 577, 626, 663, 700, 713, 726, 763, 788, 825, 850, 887, 912, 973, 1022, 1059, 1096, 1121, 1158, 1195, 1208, 1233, 1258, 1307, 1332, 1345, 1382, 1407, 1432, 1457], 169) := by decide +kernel
theorem dl_208 : decode code 208 = .ok (.aload_n 1, 1) := by decide +kernel
theorem dl_209 : decode code 209 = .ok (.aload_n 0, 1) := by decide +kernel
theorem dl_210 : decode code 210 = .ok (.iload 4, 2) := by decide +kernel
theorem dl_212 : decode code 212 = .ok (.iconst 1, 1) := by decide +kernel
theorem dl_213 : decode code 213 = .ok (.iadd, 1) := by decide +kernel
theorem dl_214 : decode code 214 = .ok (.iaload, 1) := by decide +kernel
theorem dl_215 : decode code 215 = .ok (.invokevirtual 26, 3) := by decide +kernel
theorem dl_218 : decode code 218 = .ok (.aload_n 2, 1) := by decide +kernel
theorem dl_219 : decode code 219 = .ok (.aload_n 0, 1) := by decide +kernel
theorem dl_220 : decode code 220 = .ok (.iload 4, 2) := by decide +kernel
theorem dl_222 : decode code 222 = .ok (.iconst 1, 1) := by decide +kernel
theorem dl_223 : decode code 223 = .ok (.iadd, 1) := by decide +kernel
theorem dl_224 : decode code 224 = .ok (.iaload, 1) := by decide +kernel
theorem dl_225 : decode code 225 = .ok (.invokevirtual 30, 3) := by decide +kernel
theorem dl_228 : decode code 228 = .ok (.if_icmp .eq 1323, 3) := by decide +kernel
theorem dl_231 : decode code 231 = .ok (.iconst 0, 1) := by decide +kernel
theorem dl_232 : decode code 232 = .ok (.ireturn, 1) := by decide +kernel
theorem dl_233 : decode code 233 = .ok (.aload_n 1, 1) := by decide +kernel
theorem dl_234 : decode code 234 = .ok (.aload_n 0, 1) := by decide +kernel
theorem dl_235 : decode code 235 = .ok (.iload 4, 2) := by decide +kernel
theorem dl_237 : decode code 237 = .ok (.iconst 1, 1) := by decide +kernel
theorem dl_238 : decode code 238 = .ok (.iadd, 1) := by decide +kernel
theorem dl_239 : decode code 239 = .ok (.iaload, 1) := by decide +kernel
theorem dl_240 : decode code 240 = .ok (.invokevirtual 31, 3) := by decide +kernel
theorem dl_243 : decode code 243 = .ok (.aload_n 2, 1) := by decide +kernel
theorem dl_244 : decode code 244 = .ok (.aload_n 0, 1) := by decide +kernel
theorem dl_245 : decode code 245 = .ok (.iload 4, 2) := by decide +kernel
theorem dl_247 : decode code 247 = .ok (.iconst 1, 1) := by decide +kernel
theorem dl_248 : decode code 248 = .ok (.iadd, 1) := by decide +kernel
theorem dl_249 : decode code 249 = .ok (.iaload, 1) := by decide +kernel
theorem dl_250 : decode code 250 = .ok (.invokevirtual 35, 3) := by decide +kernel
theorem dl_253 : decode code 253 = .ok (.if_icmp .eq 1298, 3) := by decide +kernel
theorem dl_256 : decode code 256 = .ok (.iconst 0, 1) := by decide +kernel
theorem dl_257 : decode code 257 = .ok (.ireturn, 1) := by decide +kernel
theorem dl_258 : decode code 258 = .ok (.aload_n 1, 1) := by decide +kernel
theorem dl_259 : decode code 259 = .ok (.aload_n 0, 1) := by decide +kernel
theorem dl_260 : decode code 260 = .ok (.iload 4, 2) := by decide +kernel
theorem dl_262 : decode code 262 = .ok (.iconst 1, 1) := by decide +kernel
theorem dl_263 : decode code 263 = .ok (.iadd, 1) := by decide +kernel
theorem dl_264 : decode code 264 = .ok (.iaload, 1) := by decide +kernel
theorem dl_265 : decode code 265 = .ok (.invokevirtual 36, 3) := by decide +kernel
theorem dl_268 : decode code 268 = .ok (.aload_n 2, 1) := by decide +kernel
theorem dl_269 : decode code 269 = .ok (.aload_n 0, 1) := by decide +kernel
theorem dl_270 : decode code 270 = .ok (.iload 4, 2) := by decide +kernel
theorem dl_272 : decode code 272 = .ok (.iconst 1, 1) := by decide +kernel
theorem dl_273 : decode code 273 = .ok (.iadd, 1) := by decide +kernel
theorem dl_274 : decode code 274 = .ok (.iaload, 1) := by decide +kernel
theorem dl_275 : decode code 275 = .ok (.invokevirtual 39, 3) := by decide +kernel
theorem dl_278 : decode code 278 = .ok (.if_icmp .eq 1273, 3) := by decide +kernel
theorem dl_281 : decode code 281 = .ok (.iconst 0, 1) := by decide +kernel
theorem dl_282 : decode code 282 = .ok (.ireturn, 1) := by decide +kernel
theorem dl_283 : decode code 283 = .ok (.aload_n 1, 1) := by decide +kernel
theorem dl_284 : decode code 284 = .ok (.invokevirtual 40, 3) := by decide +kernel
theorem dl_287 : decode code 287 = .ok (.aload_n 2, 1) := by decide +kernel
theorem dl_288 : decode code 288 = .ok (.invokevirtual 44, 3) := by decide +kernel
theorem dl_291 : decode code 291 = .ok (.if_icmp .eq 1260, 3) := by decide +kernel
theorem dl_294 : decode code 294 = .ok (.iconst 0, 1) := by decide +kernel
theorem dl_295 : decode code 295 = .ok (.ireturn, 1) := by decide +kernel
theorem dl_296 : decode code 296 = .ok (.aload_n 1, 1) := by decide +kernel
theorem dl_297 : decode code 297 = .ok (.aload_n 0, 1) := by decide +kernel
theorem dl_298 : decode code 298 = .ok (.iload 4, 2) := by decide +kernel
theorem dl_300 : decode code 300 = .ok (.iconst 1, 1) := by decide +kernel
theorem dl_301 : decode code 301 = .ok (.iadd, 1) := by decide +kernel
theorem dl_302 : decode code 302 = .ok (.iaload, 1) := by decide +kernel
theorem dl_303 : decode code 303 = .ok (.aload_n 0, 1) := by decide +kernel
theorem dl_304 : decode code 304 = .ok (.iload 4, 2) := by decide +kernel
theorem dl_306 : decode code 306 = .ok (.iconst 2, 1) := by decide +kernel
theorem dl_307 : decode code 307 = .ok (.iadd, 1) := by decide +kernel
theorem dl_308 : decode code 308 = .ok (.iaload, 1) := by decide +kernel
theorem dl_309 : decode code 309 = .ok (.aload_n 3, 1) := by decide +kernel
theorem dl_310 : decode code 310 = .ok (.invokestatic 45, 3) := by decide +kernel
theorem dl_313 : decode code 313 = .ok (.istore 5, 2) := by decide +kernel
theorem dl_315 : decode code 315 = .ok (.aload_n 2, 1) := by decide +kernel
theorem dl_316 : decode code 316 = .ok (.aload_n 0, 1) := by decide +kernel
theorem dl_317 : decode code 317 = .ok (.iload 4, 2) := by decide +kernel
theorem dl_319 : decode code 319 = .ok (.iconst 1, 1) := by decide +kernel
theorem dl_320 : decode code 320 = .ok (.iadd, 1) := by decide +kernel
theorem dl_321 : decode code 321 = .ok (.iaload, 1) := by decide +kernel
theorem dl_322 : decode code 322 = .ok (.aload_n 0, 1) := by decide +kernel
theorem dl_323 : decode code 323 = .ok (.iload 4, 2) := by decide +kernel
theorem dl_325 : decode code 325 = .ok (.iconst 2, 1) := by decide +kernel
theorem dl_326 : decode code 326 = .ok (.iadd, 1) := by decide +kernel
theorem dl_327 : decode code 327 = .ok (.iaload, 1) := by decide +kernel
theorem dl_328 : decode code 328 = .ok (.invokevirtual 50, 3) := by decide +kernel
theorem dl_331 : decode code 331 = .ok (.istore 6, 2) := by decide +kernel
theorem dl_333 : decode code 333 = .ok (.aload_n 2, 1) := by decide +kernel
theorem dl_334 : decode code 334 = .ok (.invokevirtual 51, 3) := by decide +kernel
theorem dl_337 : decode code 337 = .ok (.iload 5, 2) := by decide +kernel
theorem dl_339 : decode code 339 = .ok (.if_icmp .eq 5, 3) := by decide +kernel
theorem dl_342 : decode code 342 = .ok (.iconst 0, 1) := by decide +kernel
theorem dl_343 : decode code 343 = .ok (.ireturn, 1) := by decide +kernel
theorem dl_344 : decode code 344 = .ok (.iload 5, 2) := by decide +kernel
theorem dl_346 : decode code 346 = .ok (.ifCond .ne 15, 3) := by decide +kernel
theorem dl_349 : decode code 349 = .ok (.aload_n 3, 1) := by decide +kernel
theorem dl_350 : decode code 350 = .ok (.iconst 0, 1) := by decide +kernel
theorem dl_351 : decode code 351 = .ok (.laload, 1) := by decide +kernel
theorem dl_352 : decode code 352 = .ok (.iload 6, 2) := by decide +kernel
theorem dl_354 : decode code 354 = .ok (.i2l, 1) := by decide +kernel
theorem dl_355 : decode code 355 = .ok (.lcmp, 1) := by decide +kernel
theorem dl_356 : decode code 356 = .ok (.ifCond .eq 5, 3) := by decide +kernel
theorem dl_359 : decode code 359 = .ok (.iconst 0, 1) := by decide +kernel
theorem dl_360 : decode code 360 = .ok (.ireturn, 1) := by decide +kernel
theorem dl_361 : decode code 361 = .ok (.goto 1190, 3) := by decide +kernel
theorem dl_364 : decode code 364 = .ok (.aload_n 1, 1) := by decide +kernel
theorem dl_365 : decode code 365 = .ok (.aload_n 0, 1) := by decide +kernel
theorem dl_366 : decode code 366 = .ok (.iload 4, 2) := by decide +kernel
theorem dl_368 : decode code 368 = .ok (.iconst 1, 1) := by decide +kernel
theorem dl_369 : decode code 369 = .ok (.iadd, 1) := by decide +kernel
theorem dl_370 : decode code 370 = .ok (.iaload, 1) := by decide +kernel
theorem dl_371 : decode code 371 = .ok (.aload_n 0, 1) := by decide +kernel
theorem dl_372 : decode code 372 = .ok (.iload 4, 2) := by decide +kernel
theorem dl_374 : decode code 374 = .ok (.iconst 2, 1) := by decide +kernel
theorem dl_375 : decode code 375 = .ok (.iadd, 1) := by decide +kernel
theorem dl_376 : decode code 376 = .ok (.iaload, 1) := by decide +kernel
theorem dl_377 : decode code 377 = .ok (.aload_n 3, 1) := by decide +kernel
theorem dl_378 : decode code 378 = .ok (.invokestatic 54, 3) := by decide +kernel
theorem dl_381 : decode code 381 = .ok (.istore 5, 2) := by decide +kernel
theorem dl_383 : decode code 383 = .ok (.aload_n 2, 1) := by decide +kernel
theorem dl_384 : decode code 384 = .ok (.aload_n 0, 1) := by decide +kernel
theorem dl_385 : decode code 385 = .ok (.iload 4, 2) := by decide +kernel
theorem dl_387 : decode code 387 = .ok (.iconst 1, 1) := by decide +kernel
theorem dl_388 : decode code 388 = .ok (.iadd, 1) := by decide +kernel
theorem dl_389 : decode code 389 = .ok (.iaload, 1) := by decide +kernel
theorem dl_390 : decode code 390 = .ok (.aload_n 0, 1) := by decide +kernel
theorem dl_391 : decode code 391 = .ok (.iload 4, 2) := by decide +kernel
theorem dl_393 : decode code 393 = .ok (.iconst 2, 1) := by decide +kernel
theorem dl_394 : decode code 394 = .ok (.iadd, 1) := by decide +kernel
theorem dl_395 : decode code 395 = .ok (.iaload, 1) := by decide +kernel
theorem dl_396 : decode code 396 = .ok (.invokevirtual 56, 3) := by decide +kernel
theorem dl_399 : decode code 399 = .ok (.istore 6, 2) := by decide +kernel
theorem dl_401 : decode code 401 = .ok (.aload_n 2, 1) := by decide +kernel
theorem dl_402 : decode code 402 = .ok (.invokevirtual 51, 3) := by decide +kernel
theorem dl_405 : decode code 405 = .ok (.iload 5, 2) := by decide +kernel
theorem dl_407 : decode code 407 = .ok (.if_icmp .eq 5, 3) := by decide +kernel
theorem dl_410 : decode code 410 = .ok (.iconst 0, 1) := by decide +kernel
theorem dl_411 : decode code 411 = .ok (.ireturn, 1) := by decide +kernel
theorem dl_412 : decode code 412 = .ok (.iload 5, 2) := by decide +kernel
theorem dl_414 : decode code 414 = .ok (.ifCond .ne 15, 3) := by decide +kernel
theorem dl_417 : decode code 417 = .ok (.aload_n 3, 1) := by decide +kernel
theorem dl_418 : decode code 418 = .ok (.iconst 0, 1) := by decide +kernel
theorem dl_419 : decode code 419 = .ok (.laload, 1) := by decide +kernel
theorem dl_420 : decode code 420 = .ok (.iload 6, 2) := by decide +kernel
theorem dl_422 : decode code 422 = .ok (.i2l, 1) := by decide +kernel
theorem dl_423 : decode code 423 = .ok (.lcmp, 1) := by decide +kernel
theorem dl_424 : decode code 424 = .ok (.ifCond .eq 5, 3) := by decide +kernel
theorem dl_427 : decode code 427 = .ok (.iconst 0, 1) := by decide +kernel
theorem dl_428 : decode code 428 = .ok (.ireturn, 1) := by decide +kernel
theorem dl_429 : decode code 429 = .ok (.goto 1122, 3) := by decide +kernel
theorem dl_432 : decode code 432 = .ok (.aload_n 1, 1) := by decide +kernel
theorem dl_433 : decode code 433 = .ok (.aload_n 0, 1) := by decide +kernel
theorem dl_434 : decode code 434 = .ok (.iload 4, 2) := by decide +kernel
theorem dl_436 : decode code 436 = .ok (.iconst 1, 1) := by decide +kernel
theorem dl_437 : decode code 437 = .ok (.iadd, 1) := by decide +kernel
theorem dl_438 : decode code 438 = .ok (.iaload, 1) := by decide +kernel
theorem dl_439 : decode code 439 = .ok (.aload_n 0, 1) := by decide +kernel
theorem dl_440 : decode code 440 = .ok (.iload 4, 2) := by decide +kernel
theorem dl_442 : decode code 442 = .ok (.iconst 2, 1) := by decide +kernel
theorem dl_443 : decode code 443 = .ok (.iadd, 1) := by decide +kernel
theorem dl_444 : decode code 444 = .ok (.iaload, 1) := by decide +kernel
theorem dl_445 : decode code 445 = .ok (.aload_n 0, 1) := by decide +kernel
theorem dl_446 : decode code 446 = .ok (.iload 4, 2) := by decide +kernel
theorem dl_448 : decode code 448 = .ok (.iconst 3, 1) := by decide +kernel
theorem dl_449 : decode code 449 = .ok (.iadd, 1) := by decide +kernel
theorem dl_450 : decode code 450 = .ok (.iaload, 1) := by decide +kernel
theorem dl_451 : decode code 451 = .ok (.aload_n 0, 1) := by decide +kernel
theorem dl_452 : decode code 452 = .ok (.iload 4, 2) := by decide +kernel
theorem dl_454 : decode code 454 = .ok (.iconst 4, 1) := by decide +kernel
theorem dl_455 : decode code 455 = .ok (.iadd, 1) := by decide +kernel
theorem dl_456 : decode code 456 = .ok (.iaload, 1) := by decide +kernel
theorem dl_457 : decode code 457 = .ok (.invokevirtual 57, 3) := by decide +kernel
theorem dl_460 : decode code 460 = .ok (.aload_n 2, 1) := by decide +kernel
theorem dl_461 : decode code 461 = .ok (.aload_n 0, 1) := by decide +kernel
theorem dl_462 : decode code 462 = .ok (.iload 4, 2) := by decide +kernel
theorem dl_464 : decode code 464 = .ok (.iconst 1, 1) := by decide +kernel
theorem dl_465 : decode code 465 = .ok (.iadd, 1) := by decide +kernel
theorem dl_466 : decode code 466 = .ok (.iaload, 1) := by decide +kernel
theorem dl_467 : decode code 467 = .ok (.aload_n 0, 1) := by decide +kernel
theorem dl_468 : decode code 468 = .ok (.iload 4, 2) := by decide +kernel
theorem dl_470 : decode code 470 = .ok (.iconst 2, 1) := by decide +kernel
theorem dl_471 : decode code 471 = .ok (.iadd, 1) := by decide +kernel
theorem dl_472 : decode code 472 = .ok (.iaload, 1) := by decide +kernel
theorem dl_473 : decode code 473 = .ok (.aload_n 0, 1) := by decide +kernel
theorem dl_474 : decode code 474 = .ok (.iload 4, 2) := by decide +kernel
theorem dl_476 : decode code 476 = .ok (.iconst 3, 1) := by decide +kernel
theorem dl_477 : decode code 477 = .ok (.iadd, 1) := by decide +kernel
theorem dl_478 : decode code 478 = .ok (.iaload, 1) := by decide +kernel
theorem dl_479 : decode code 479 = .ok (.aload_n 0, 1) := by decide +kernel
theorem dl_480 : decode code 480 = .ok (.iload 4, 2) := by decide +kernel
theorem dl_482 : decode code 482 = .ok (.iconst 4, 1) := by decide +kernel
theorem dl_483 : decode code 483 = .ok (.iadd, 1) := by decide +kernel
theorem dl_484 : decode code 484 = .ok (.iaload, 1) := by decide +kernel
theorem dl_485 : decode code 485 = .ok (.invokevirtual 61, 3) := by decide +kernel
theorem dl_488 : decode code 488 = .ok (.if_icmp .eq 1063, 3) := by decide +kernel
theorem dl_491 : decode code 491 = .ok (.iconst 0, 1) := by decide +kernel
theorem dl_492 : decode code 492 = .ok (.ireturn, 1) := by decide +kernel
theorem dl_493 : decode code 493 = .ok (.aload_n 1, 1) := by decide +kernel
theorem dl_494 : decode code 494 = .ok (.aload_n 0, 1) := by decide +kernel
theorem dl_495 : decode code 495 = .ok (.iload 4, 2) := by decide +kernel
theorem dl_497 : decode code 497 = .ok (.iconst 1, 1) := by decide +kernel
theorem dl_498 : decode code 498 = .ok (.iadd, 1) := by decide +kernel
theorem dl_499 : decode code 499 = .ok (.iaload, 1) := by decide +kernel
theorem dl_500 : decode code 500 = .ok (.aload_n 0, 1) := by decide +kernel
theorem dl_501 : decode code 501 = .ok (.iload 4, 2) := by decide +kernel
theorem dl_503 : decode code 503 = .ok (.iconst 2, 1) := by decide +kernel
theorem dl_504 : decode code 504 = .ok (.iadd, 1) := by decide +kernel
theorem dl_505 : decode code 505 = .ok (.iaload, 1) := by decide +kernel
theorem dl_506 : decode code 506 = .ok (.invokevirtual 62, 3) := by decide +kernel
theorem dl_509 : decode code 509 = .ok (.aload_n 2, 1) := by decide +kernel
theorem dl_510 : decode code 510 = .ok (.aload_n 0, 1) := by decide +kernel
theorem dl_511 : decode code 511 = .ok (.iload 4, 2) := by decide +kernel
theorem dl_513 : decode code 513 = .ok (.iconst 1, 1) := by decide +kernel
theorem dl_514 : decode code 514 = .ok (.iadd, 1) := by decide +kernel
theorem dl_515 : decode code 515 = .ok (.iaload, 1) := by decide +kernel
theorem dl_516 : decode code 516 = .ok (.aload_n 0, 1) := by decide +kernel
theorem dl_517 : decode code 517 = .ok (.iload 4, 2) := by decide +kernel
theorem dl_519 : decode code 519 = .ok (.iconst 2, 1) := by decide +kernel
theorem dl_520 : decode code 520 = .ok (.iadd, 1) := by decide +kernel
theorem dl_521 : decode code 521 = .ok (.iaload, 1) := by decide +kernel
theorem dl_522 : decode code 522 = .ok (.invokevirtual 65, 3) := by decide +kernel
theorem dl_525 : decode code 525 = .ok (.if_icmp .eq 1026, 3) := by decide +kernel
theorem dl_528 : decode code 528 = .ok (.iconst 0, 1) := by decide +kernel
theorem dl_529 : decode code 529 = .ok (.ireturn, 1) := by decide +kernel
theorem dl_530 : decode code 530 = .ok (.aload_n 1, 1) := by decide +kernel
theorem dl_531 : decode code 531 = .ok (.aload_n 0, 1) := by decide +kernel
theorem dl_532 : decode code 532 = .ok (.iload 4, 2) := by decide +kernel
theorem dl_534 : decode code 534 = .ok (.iconst 1, 1) := by decide +kernel
theorem dl_535 : decode code 535 = .ok (.iadd, 1) := by decide +kernel
theorem dl_536 : decode code 536 = .ok (.iaload, 1) := by decide +kernel
theorem dl_537 : decode code 537 = .ok (.aload_n 0, 1) := by decide +kernel
theorem dl_538 : decode code 538 = .ok (.iload 4, 2) := by decide +kernel
theorem dl_540 : decode code 540 = .ok (.iconst 2, 1) := by decide +kernel
theorem dl_541 : decode code 541 = .ok (.iadd, 1) := by decide +kernel
theorem dl_542 : decode code 542 = .ok (.iaload, 1) := by decide +kernel
theorem dl_543 : decode code 543 = .ok (.invokevirtual 66, 3) := by decide +kernel
theorem dl_546 : decode code 546 = .ok (.aload_n 2, 1) := by decide +kernel
theorem dl_547 : decode code 547 = .ok (.aload_n 0, 1) := by decide +kernel
theorem dl_548 : decode code 548 = .ok (.iload 4, 2) := by decide +kernel
theorem dl_550 : decode code 550 = .ok (.iconst 1, 1) := by decide +kernel
theorem dl_551 : decode code 551 = .ok (.iadd, 1) := by decide +kernel
theorem dl_552 : decode code 552 = .ok (.iaload, 1) := by decide +kernel
theorem dl_553 : decode code 553 = .ok (.aload_n 0, 1) := by decide +kernel
theorem dl_554 : decode code 554 = .ok (.iload 4, 2) := by decide +kernel
theorem dl_556 : decode code 556 = .ok (.iconst 2, 1) := by decide +kernel
theorem dl_557 : decode code 557 = .ok (.iadd, 1) := by decide +kernel
theorem dl_558 : decode code 558 = .ok (.iaload, 1) := by decide +kernel
theorem dl_559 : decode code 559 = .ok (.invokevirtual 69, 3) := by decide +kernel
theorem dl_562 : decode code 562 = .ok (.if_icmp .eq 989, 3) := by decide +kernel
theorem dl_565 : decode code 565 = .ok (.iconst 0, 1) := by decide +kernel
theorem dl_566 : decode code 566 = .ok (.ireturn, 1) := by decide +kernel
theorem dl_567 : decode code 567 = .ok (.aload_n 1, 1) := by decide +kernel
theorem dl_568 : decode code 568 = .ok (.aload_n 0, 1) := by decide +kernel
theorem dl_569 : decode code 569 = .ok (.iload 4, 2) := by decide +kernel
theorem dl_571 : decode code 571 = .ok (.iconst 1, 1) := by decide +kernel
theorem dl_572 : decode code 572 = .ok (.iadd, 1) := by decide +kernel
theorem dl_573 : decode code 573 = .ok (.iaload, 1) := by decide +kernel
theorem dl_574 : decode code 574 = .ok (.aload_n 0, 1) := by decide +kernel
theorem dl_575 : decode code 575 = .ok (.iload 4, 2) := by decide +kernel
theorem dl_577 : decode code 577 = .ok (.iconst 2, 1) := by decide +kernel
theorem dl_578 : decode code 578 = .ok (.iadd, 1) := by decide +kernel
theorem dl_579 : decode code 579 = .ok (.iaload, 1) := by decide +kernel
theorem dl_580 : decode code 580 = .ok (.aload_n 0, 1) := by decide +kernel
theorem dl_581 : decode code 581 = .ok (.iload 4, 2) := by decide +kernel
theorem dl_583 : decode code 583 = .ok (.iconst 3, 1) := by decide +kernel
theorem dl_584 : decode code 584 = .ok (.iadd, 1) := by decide +kernel
theorem dl_585 : decode code 585 = .ok (.iaload, 1) := by decide +kernel
theorem dl_586 : decode code 586 = .ok (.invokevirtual 70, 3) := by decide +kernel
theorem dl_589 : decode code 589 = .ok (.aload_n 2, 1) := by decide +kernel
theorem dl_590 : decode code 590 = .ok (.aload_n 0, 1) := by decide +kernel
theorem dl_591 : decode code 591 = .ok (.iload 4, 2) := by decide +kernel
theorem dl_593 : decode code 593 = .ok (.iconst 1, 1) := by decide +kernel
theorem dl_594 : decode code 594 = .ok (.iadd, 1) := by decide +kernel
theorem dl_595 : decode code 595 = .ok (.iaload, 1) := by decide +kernel
theorem dl_596 : decode code 596 = .ok (.aload_n 0, 1) := by decide +kernel
theorem dl_597 : decode code 597 = .ok (.iload 4, 2) := by decide +kernel
theorem dl_599 : decode code 599 = .ok (.iconst 2, 1) := by decide +kernel
theorem dl_600 : decode code 600 = .ok (.iadd, 1) := by decide +kernel
theorem dl_601 : decode code 601 = .ok (.iaload, 1) := by decide +kernel
theorem dl_602 : decode code 602 = .ok (.aload_n 0, 1) := by decide +kernel
theorem dl_603 : decode code 603 = .ok (.iload 4, 2) := by decide +kernel
theorem dl_605 : decode code 605 = .ok (.iconst 3, 1) := by decide +kernel
theorem dl_606 : decode code 606 = .ok (.iadd, 1) := by decide +kernel
theorem dl_607 : decode code 607 = .ok (.iaload, 1) := by decide +kernel
theorem dl_608 : decode code 608 = .ok (.invokevirtual 74, 3) := by decide +kernel
theorem dl_611 : decode code 611 = .ok (.if_icmp .eq 940, 3) := by decide +kernel
theorem dl_614 : decode code 614 = .ok (.iconst 0, 1) := by decide +kernel
theorem dl_615 : decode code 615 = .ok (.ireturn, 1) := by decide +kernel
theorem dl_616 : decode code 616 = .ok (.aload_n 1, 1) := by decide +kernel
theorem dl_617 : decode code 617 = .ok (.aload_n 0, 1) := by decide +kernel
theorem dl_618 : decode code 618 = .ok (.iload 4, 2) := by decide +kernel
theorem dl_620 : decode code 620 = .ok (.iconst 1, 1) := by decide +kernel
theorem dl_621 : decode code 621 = .ok (.iadd, 1) := by decide +kernel
theorem dl_622 : decode code 622 = .ok (.iaload, 1) := by decide +kernel
theorem dl_623 : decode code 623 = .ok (.aload_n 0, 1) := by decide +kernel
theorem dl_624 : decode code 624 = .ok (.iload 4, 2) := by decide +kernel
theorem dl_626 : decode code 626 = .ok (.iconst 2, 1) := by decide +kernel
theorem dl_627 : decode code 627 = .ok (.iadd, 1) := by decide +kernel
theorem dl_628 : decode code 628 = .ok (.iaload, 1) := by decide +kernel
theorem dl_629 : decode code 629 = .ok (.aload_n 0, 1) := by decide +kernel
theorem dl_630 : decode code 630 = .ok (.iload 4, 2) := by decide +kernel
theorem dl_632 : decode code 632 = .ok (.iconst 3, 1) := by decide +kernel
theorem dl_633 : decode code 633 = .ok (.iadd, 1) := by decide +kernel
theorem dl_634 : decode code 634 = .ok (.iaload, 1) := by decide +kernel
theorem dl_635 : decode code 635 = .ok (.invokevirtual 75, 3) := by decide +kernel
theorem dl_638 : decode code 638 = .ok (.aload_n 2, 1) := by decide +kernel
theorem dl_639 : decode code 639 = .ok (.aload_n 0, 1) := by decide +kernel
theorem dl_640 : decode code 640 = .ok (.iload 4, 2) := by decide +kernel
theorem dl_642 : decode code 642 = .ok (.iconst 1, 1) := by decide +kernel
theorem dl_643 : decode code 643 = .ok (.iadd, 1) := by decide +kernel
theorem dl_644 : decode code 644 = .ok (.iaload, 1) := by decide +kernel
theorem dl_645 : decode code 645 = .ok (.aload_n 0, 1) := by decide +kernel
theorem dl_646 : decode code 646 = .ok (.iload 4, 2) := by decide +kernel
theorem dl_648 : decode code 648 = .ok (.iconst 2, 1) := by decide +kernel
theorem dl_649 : decode code 649 = .ok (.iadd, 1) := by decide +kernel
theorem dl_650 : decode code 650 = .ok (.iaload, 1) := by decide +kernel
theorem dl_651 : decode code 651 = .ok (.aload_n 0, 1) := by decide +kernel
theorem dl_652 : decode code 652 = .ok (.iload 4, 2) := by decide +kernel
theorem dl_654 : decode code 654 = .ok (.iconst 3, 1) := by decide +kernel
theorem dl_655 : decode code 655 = .ok (.iadd, 1) := by decide +kernel
theorem dl_656 : decode code 656 = .ok (.iaload, 1) := by decide +kernel
theorem dl_657 : decode code 657 = .ok (.invokevirtual 78, 3) := by decide +kernel
theorem dl_660 : decode code 660 = .ok (.if_icmp .eq 891, 3) := by decide +kernel
theorem dl_663 : decode code 663 = .ok (.iconst 0, 1) := by decide +kernel
theorem dl_664 : decode code 664 = .ok (.ireturn, 1) := by decide +kernel
theorem dl_665 : decode code 665 = .ok (.aload_n 1, 1) := by decide +kernel
theorem dl_666 : decode code 666 = .ok (.aload_n 0, 1) := by decide +kernel
theorem dl_667 : decode code 667 = .ok (.iload 4, 2) := by decide +kernel
theorem dl_669 : decode code 669 = .ok (.iconst 1, 1) := by decide +kernel
theorem dl_670 : decode code 670 = .ok (.iadd, 1) := by decide +kernel
theorem dl_671 : decode code 671 = .ok (.iaload, 1) := by decide +kernel
theorem dl_672 : decode code 672 = .ok (.aload_n 0, 1) := by decide +kernel
theorem dl_673 : decode code 673 = .ok (.iload 4, 2) := by decide +kernel
theorem dl_675 : decode code 675 = .ok (.iconst 2, 1) := by decide +kernel
theorem dl_676 : decode code 676 = .ok (.iadd, 1) := by decide +kernel
theorem dl_677 : decode code 677 = .ok (.iaload, 1) := by decide +kernel
theorem dl_678 : decode code 678 = .ok (.invokevirtual 79, 3) := by decide +kernel
theorem dl_681 : decode code 681 = .ok (.aload_n 2, 1) := by decide +kernel
theorem dl_682 : decode code 682 = .ok (.aload_n 0, 1) := by decide +kernel
theorem dl_683 : decode code 683 = .ok (.iload 4, 2) := by decide +kernel
theorem dl_685 : decode code 685 = .ok (.iconst 1, 1) := by decide +kernel
theorem dl_686 : decode code 686 = .ok (.iadd, 1) := by decide +kernel
theorem dl_687 : decode code 687 = .ok (.iaload, 1) := by decide +kernel
theorem dl_688 : decode code 688 = .ok (.aload_n 0, 1) := by decide +kernel
theorem dl_689 : decode code 689 = .ok (.iload 4, 2) := by decide +kernel
theorem dl_691 : decode code 691 = .ok (.iconst 2, 1) := by decide +kernel
theorem dl_692 : decode code 692 = .ok (.iadd, 1) := by decide +kernel
theorem dl_693 : decode code 693 = .ok (.iaload, 1) := by decide +kernel
theorem dl_694 : decode code 694 = .ok (.invokevirtual 82, 3) := by decide +kernel
theorem dl_697 : decode code 697 = .ok (.if_icmp .eq 854, 3) := by decide +kernel
theorem dl_700 : decode code 700 = .ok (.iconst 0, 1) := by decide +kernel
theorem dl_701 : decode code 701 = .ok (.ireturn, 1) := by decide +kernel
theorem dl_702 : decode code 702 = .ok (.aload_n 1, 1) := by decide +kernel
theorem dl_703 : decode code 703 = .ok (.aload_n 0, 1) := by decide +kernel
theorem dl_704 : decode code 704 = .ok (.iload 4, 2) := by decide +kernel
theorem dl_706 : decode code 706 = .ok (.iconst 1, 1) := by decide +kernel
theorem dl_707 : decode code 707 = .ok (.iadd, 1) := by decide +kernel
theorem dl_708 : decode code 708 = .ok (.iaload, 1) := by decide +kernel
theorem dl_709 : decode code 709 = .ok (.aload_n 0, 1) := by decide +kernel
theorem dl_710 : decode code 710 = .ok (.iload 4, 2) := by decide +kernel
theorem dl_712 : decode code 712 = .ok (.iconst 2, 1) := by decide +kernel
theorem dl_713 : decode code 713 = .ok (.iadd, 1) := by decide +kernel
theorem dl_714 : decode code 714 = .ok (.iaload, 1) := by decide +kernel
theorem dl_715 : decode code 715 = .ok (.invokevirtual 83, 3) := by decide +kernel
theorem dl_718 : decode code 718 = .ok (.aload_n 2, 1) := by decide +kernel
theorem dl_719 : decode code 719 = .ok (.aload_n 0, 1) := by decide +kernel
theorem dl_720 : decode code 720 = .ok (.iload 4, 2) := by decide +kernel
theorem dl_722 : decode code 722 = .ok (.iconst 1, 1) := by decide +kernel
theorem dl_723 : decode code 723 = .ok (.iadd, 1) := by decide +kernel
theorem dl_724 : decode code 724 = .ok (.iaload, 1) := by decide +kernel
theorem dl_725 : decode code 725 = .ok (.aload_n 0, 1) := by decide +kernel
theorem dl_726 : decode code 726 = .ok (.iload 4, 2) := by decide +kernel
theorem dl_728 : decode code 728 = .ok (.iconst 2, 1) := by decide +kernel
theorem dl_729 : decode code 729 = .ok (.iadd, 1) := by decide +kernel
theorem dl_730 : decode code 730 = .ok (.iaload, 1) := by decide +kernel
theorem dl_731 : decode code 731 = .ok (.invokevirtual 86, 3) := by decide +kernel
theorem dl_734 : decode code 734 = .ok (.if_icmp .eq 817, 3) := by decide +kernel
theorem dl_737 : decode code 737 = .ok (.iconst 0, 1) := by decide +kernel
theorem dl_738 : decode code 738 = .ok (.ireturn, 1) := by decide +kernel
theorem dl_739 : decode code 739 = .ok (.aload_n 1, 1) := by decide +kernel
theorem dl_740 : decode code 740 = .ok (.invokevirtual 87, 3) := by decide +kernel
theorem dl_743 : decode code 743 = .ok (.aload_n 2, 1) := by decide +kernel
theorem dl_744 : decode code 744 = .ok (.invokevirtual 90, 3) := by decide +kernel
theorem dl_747 : decode code 747 = .ok (.if_icmp .eq 804, 3) := by decide +kernel
theorem dl_750 : decode code 750 = .ok (.iconst 0, 1) := by decide +kernel
theorem dl_751 : decode code 751 = .ok (.ireturn, 1) := by decide +kernel
theorem dl_752 : decode code 752 = .ok (.aload_n 1, 1) := by decide +kernel
theorem dl_753 : decode code 753 = .ok (.invokevirtual 91, 3) := by decide +kernel
theorem dl_756 : decode code 756 = .ok (.aload_n 2, 1) := by decide +kernel
theorem dl_757 : decode code 757 = .ok (.invokevirtual 94, 3) := by decide +kernel
theorem dl_760 : decode code 760 = .ok (.if_icmp .eq 791, 3) := by decide +kernel
theorem dl_763 : decode code 763 = .ok (.iconst 0, 1) := by decide +kernel
theorem dl_764 : decode code 764 = .ok (.ireturn, 1) := by decide +kernel
theorem dl_765 : decode code 765 = .ok (.aload_n 1, 1) := by decide +kernel
theorem dl_766 : decode code 766 = .ok (.aload_n 0, 1) := by decide +kernel
theorem dl_767 : decode code 767 = .ok (.iload 4, 2) := by decide +kernel
theorem dl_769 : decode code 769 = .ok (.iconst 1, 1) := by decide +kernel
theorem dl_770 : decode code 770 = .ok (.iadd, 1) := by decide +kernel
theorem dl_771 : decode code 771 = .ok (.iaload, 1) := by decide +kernel
theorem dl_772 : decode code 772 = .ok (.aload_n 0, 1) := by decide +kernel
theorem dl_773 : decode code 773 = .ok (.iload 4, 2) := by decide +kernel
theorem dl_775 : decode code 775 = .ok (.iconst 2, 1) := by decide +kernel
theorem dl_776 : decode code 776 = .ok (.iadd, 1) := by decide +kernel
theorem dl_777 : decode code 777 = .ok (.iaload, 1) := by decide +kernel
theorem dl_778 : decode code 778 = .ok (.invokevirtual 95, 3) := by decide +kernel
theorem dl_781 : decode code 781 = .ok (.aload_n 2, 1) := by decide +kernel
theorem dl_782 : decode code 782 = .ok (.aload_n 0, 1) := by decide +kernel
theorem dl_783 : decode code 783 = .ok (.iload 4, 2) := by decide +kernel
theorem dl_785 : decode code 785 = .ok (.iconst 1, 1) := by decide +kernel
theorem dl_786 : decode code 786 = .ok (.iadd, 1) := by decide +kernel
theorem dl_787 : decode code 787 = .ok (.iaload, 1) := by decide +kernel
theorem dl_788 : decode code 788 = .ok (.aload_n 0, 1) := by decide +kernel
theorem dl_789 : decode code 789 = .ok (.iload 4, 2) := by decide +kernel
theorem dl_791 : decode code 791 = .ok (.iconst 2, 1) := by decide +kernel
theorem dl_792 : decode code 792 = .ok (.iadd, 1) := by decide +kernel
theorem dl_793 : decode code 793 = .ok (.iaload, 1) := by decide +kernel
theorem dl_794 : decode code 794 = .ok (.invokevirtual 98, 3) := by decide +kernel
theorem dl_797 : decode code 797 = .ok (.if_icmp .eq 754, 3) := by decide +kernel
theorem dl_800 : decode code 800 = .ok (.iconst 0, 1) := by decide +kernel
theorem dl_801 : decode code 801 = .ok (.ireturn, 1) := by decide +kernel
theorem dl_802 : decode code 802 = .ok (.aload_n 1, 1) := by decide +kernel
theorem dl_803 : decode code 803 = .ok (.aload_n 0, 1) := by decide +kernel
theorem dl_804 : decode code 804 = .ok (.iload 4, 2) := by decide +kernel
theorem dl_806 : decode code 806 = .ok (.iconst 1, 1) := by decide +kernel
theorem dl_807 : decode code 807 = .ok (.iadd, 1) := by decide +kernel
theorem dl_808 : decode code 808 = .ok (.iaload, 1) := by decide +kernel
theorem dl_809 : decode code 809 = .ok (.invokevirtual 99, 3) := by decide +kernel
theorem dl_812 : decode code 812 = .ok (.aload_n 2, 1) := by decide +kernel
theorem dl_813 : decode code 813 = .ok (.aload_n 0, 1) := by decide +kernel
theorem dl_814 : decode code 814 = .ok (.iload 4, 2) := by decide +kernel
theorem dl_816 : decode code 816 = .ok (.iconst 1, 1) := by decide +kernel
theorem dl_817 : decode code 817 = .ok (.iadd, 1) := by decide +kernel
theorem dl_818 : decode code 818 = .ok (.iaload, 1) := by decide +kernel
theorem dl_819 : decode code 819 = .ok (.invokevirtual 102, 3) := by decide +kernel
theorem dl_822 : decode code 822 = .ok (.if_icmp .eq 729, 3) := by decide +kernel
theorem dl_825 : decode code 825 = .ok (.iconst 0, 1) := by decide +kernel
theorem dl_826 : decode code 826 = .ok (.ireturn, 1) := by decide +kernel
theorem dl_827 : decode code 827 = .ok (.aload_n 1, 1) := by decide +kernel
theorem dl_828 : decode code 828 = .ok (.aload_n 0, 1) := by decide +kernel
theorem dl_829 : decode code 829 = .ok (.iload 4, 2) := by decide +kernel
theorem dl_831 : decode code 831 = .ok (.iconst 1, 1) := by decide +kernel
theorem dl_832 : decode code 832 = .ok (.iadd, 1) := by decide +kernel
theorem dl_833 : decode code 833 = .ok (.iaload, 1) := by decide +kernel
theorem dl_834 : decode code 834 = .ok (.aload_n 0, 1) := by decide +kernel
theorem dl_835 : decode code 835 = .ok (.iload 4, 2) := by decide +kernel
theorem dl_837 : decode code 837 = .ok (.iconst 2, 1) := by decide +kernel
theorem dl_838 : decode code 838 = .ok (.iadd, 1) := by decide +kernel
theorem dl_839 : decode code 839 = .ok (.iaload, 1) := by decide +kernel
theorem dl_840 : decode code 840 = .ok (.invokevirtual 103, 3) := by decide +kernel
theorem dl_843 : decode code 843 = .ok (.aload_n 2, 1) := by decide +kernel
theorem dl_844 : decode code 844 = .ok (.aload_n 0, 1) := by decide +kernel
theorem dl_845 : decode code 845 = .ok (.iload 4, 2) := by decide +kernel
theorem dl_847 : decode code 847 = .ok (.iconst 1, 1) := by decide +kernel
theorem dl_848 : decode code 848 = .ok (.iadd, 1) := by decide +kernel
theorem dl_849 : decode code 849 = .ok (.iaload, 1) := by decide +kernel
theorem dl_850 : decode code 850 = .ok (.aload_n 0, 1) := by decide +kernel
theorem dl_851 : decode code 851 = .ok (.iload 4, 2) := by decide +kernel
theorem dl_853 : decode code 853 = .ok (.iconst 2, 1) := by decide +kernel
theorem dl_854 : decode code 854 = .ok (.iadd, 1) := by decide +kernel
theorem dl_855 : decode code 855 = .ok (.iaload, 1) := by decide +kernel
theorem dl_856 : decode code 856 = .ok (.invokevirtual 106, 3) := by decide +kernel
theorem dl_859 : decode code 859 = .ok (.if_icmp .eq 692, 3) := by decide +kernel
theorem dl_862 : decode code 862 = .ok (.iconst 0, 1) := by decide +kernel
theorem dl_863 : decode code 863 = .ok (.ireturn, 1) := by decide +kernel
theorem dl_864 : decode code 864 = .ok (.aload_n 1, 1) := by decide +kernel
theorem dl_865 : decode code 865 = .ok (.aload_n 0, 1) := by decide +kernel
theorem dl_866 : decode code 866 = .ok (.iload 4, 2) := by decide +kernel
theorem dl_868 : decode code 868 = .ok (.iconst 1, 1) := by decide +kernel
theorem dl_869 : decode code 869 = .ok (.iadd, 1) := by decide +kernel
theorem dl_870 : decode code 870 = .ok (.iaload, 1) := by decide +kernel
theorem dl_871 : decode code 871 = .ok (.invokevirtual 107, 3) := by decide +kernel
theorem dl_874 : decode code 874 = .ok (.aload_n 2, 1) := by decide +kernel
theorem dl_875 : decode code 875 = .ok (.aload_n 0, 1) := by decide +kernel
theorem dl_876 : decode code 876 = .ok (.iload 4, 2) := by decide +kernel
theorem dl_878 : decode code 878 = .ok (.iconst 1, 1) := by decide +kernel
theorem dl_879 : decode code 879 = .ok (.iadd, 1) := by decide +kernel
theorem dl_880 : decode code 880 = .ok (.iaload, 1) := by decide +kernel
theorem dl_881 : decode code 881 = .ok (.invokevirtual 110, 3) := by decide +kernel
theorem dl_884 : decode code 884 = .ok (.if_icmp .eq 667, 3) := by decide +kernel
theorem dl_887 : decode code 887 = .ok (.iconst 0, 1) := by decide +kernel
theorem dl_888 : decode code 888 = .ok (.ireturn, 1) := by decide +kernel
theorem dl_889 : decode code 889 = .ok (.aload_n 1, 1) := by decide +kernel
theorem dl_890 : decode code 890 = .ok (.aload_n 0, 1) := by decide +kernel
theorem dl_891 : decode code 891 = .ok (.iload 4, 2) := by decide +kernel
theorem dl_893 : decode code 893 = .ok (.iconst 1, 1) := by decide +kernel
theorem dl_894 : decode code 894 = .ok (.iadd, 1) := by decide +kernel
theorem dl_895 : decode code 895 = .ok (.iaload, 1) := by decide +kernel
theorem dl_896 : decode code 896 = .ok (.aload_n 0, 1) := by decide +kernel
theorem dl_897 : decode code 897 = .ok (.iload 4, 2) := by decide +kernel
theorem dl_899 : decode code 899 = .ok (.iconst 2, 1) := by decide +kernel
theorem dl_900 : decode code 900 = .ok (.iadd, 1) := by decide +kernel
theorem dl_901 : decode code 901 = .ok (.iaload, 1) := by decide +kernel
theorem dl_902 : decode code 902 = .ok (.invokevirtual 111, 3) := by decide +kernel
theorem dl_905 : decode code 905 = .ok (.aload_n 2, 1) := by decide +kernel
theorem dl_906 : decode code 906 = .ok (.aload_n 0, 1) := by decide +kernel
theorem dl_907 : decode code 907 = .ok (.iload 4, 2) := by decide +kernel
theorem dl_909 : decode code 909 = .ok (.iconst 1, 1) := by decide +kernel
theorem dl_910 : decode code 910 = .ok (.iadd, 1) := by decide +kernel
theorem dl_911 : decode code 911 = .ok (.iaload, 1) := by decide +kernel
theorem dl_912 : decode code 912 = .ok (.aload_n 0, 1) := by decide +kernel
theorem dl_913 : decode code 913 = .ok (.iload 4, 2) := by decide +kernel
theorem dl_915 : decode code 915 = .ok (.iconst 2, 1) := by decide +kernel
theorem dl_916 : decode code 916 = .ok (.iadd, 1) := by decide +kernel
theorem dl_917 : decode code 917 = .ok (.iaload, 1) := by decide +kernel
theorem dl_918 : decode code 918 = .ok (.invokevirtual 114, 3) := by decide +kernel
theorem dl_921 : decode code 921 = .ok (.if_icmp .eq 630, 3) := by decide +kernel
theorem dl_924 : decode code 924 = .ok (.iconst 0, 1) := by decide +kernel
theorem dl_925 : decode code 925 = .ok (.ireturn, 1) := by decide +kernel
theorem dl_926 : decode code 926 = .ok (.aload_n 1, 1) := by decide +kernel
theorem dl_927 : decode code 927 = .ok (.aload_n 0, 1) := by decide +kernel
theorem dl_928 : decode code 928 = .ok (.iload 4, 2) := by decide +kernel
theorem dl_930 : decode code 930 = .ok (.iconst 1, 1) := by decide +kernel
theorem dl_931 : decode code 931 = .ok (.iadd, 1) := by decide +kernel
theorem dl_932 : decode code 932 = .ok (.iaload, 1) := by decide +kernel
theorem dl_933 : decode code 933 = .ok (.invokevirtual 115, 3) := by decide +kernel
theorem dl_936 : decode code 936 = .ok (.aload_n 2, 1) := by decide +kernel
theorem dl_937 : decode code 937 = .ok (.aload_n 0, 1) := by decide +kernel
theorem dl_938 : decode code 938 = .ok (.iload 4, 2) := by decide +kernel
theorem dl_940 : decode code 940 = .ok (.iconst 1, 1) := by decide +kernel
theorem dl_941 : decode code 941 = .ok (.iadd, 1) := by decide +kernel
theorem dl_942 : decode code 942 = .ok (.iaload, 1) := by decide +kernel
theorem dl_943 : decode code 943 = .ok (.invokevirtual 118, 3) := by decide +kernel
theorem dl_946 : decode code 946 = .ok (.if_icmp .eq 605, 3) := by decide +kernel
theorem dl_949 : decode code 949 = .ok (.iconst 0, 1) := by decide +kernel
theorem dl_950 : decode code 950 = .ok (.ireturn, 1) := by decide +kernel
theorem dl_951 : decode code 951 = .ok (.aload_n 1, 1) := by decide +kernel
theorem dl_952 : decode code 952 = .ok (.aload_n 0, 1) := by decide +kernel
theorem dl_953 : decode code 953 = .ok (.iload 4, 2) := by decide +kernel
theorem dl_955 : decode code 955 = .ok (.iconst 1, 1) := by decide +kernel
theorem dl_956 : decode code 956 = .ok (.iadd, 1) := by decide +kernel
theorem dl_957 : decode code 957 = .ok (.iaload, 1) := by decide +kernel
theorem dl_958 : decode code 958 = .ok (.aload_n 0, 1) := by decide +kernel
theorem dl_959 : decode code 959 = .ok (.iload 4, 2) := by decide +kernel
theorem dl_961 : decode code 961 = .ok (.iconst 2, 1) := by decide +kernel
theorem dl_962 : decode code 962 = .ok (.iadd, 1) := by decide +kernel
theorem dl_963 : decode code 963 = .ok (.iaload, 1) := by decide +kernel
theorem dl_964 : decode code 964 = .ok (.aload_n 0, 1) := by decide +kernel
theorem dl_965 : decode code 965 = .ok (.iload 4, 2) := by decide +kernel
theorem dl_967 : decode code 967 = .ok (.iconst 3, 1) := by decide +kernel
theorem dl_968 : decode code 968 = .ok (.iadd, 1) := by decide +kernel
theorem dl_969 : decode code 969 = .ok (.iaload, 1) := by decide +kernel
theorem dl_970 : decode code 970 = .ok (.aload_n 0, 1) := by decide +kernel
theorem dl_971 : decode code 971 = .ok (.iload 4, 2) := by decide +kernel
theorem dl_973 : decode code 973 = .ok (.iconst 4, 1) := by decide +kernel
theorem dl_974 : decode code 974 = .ok (.iadd, 1) := by decide +kernel
theorem dl_975 : decode code 975 = .ok (.iaload, 1) := by decide +kernel
theorem dl_976 : decode code 976 = .ok (.invokevirtual 119, 3) := by decide +kernel
theorem dl_979 : decode code 979 = .ok (.aload_n 2, 1) := by decide +kernel
theorem dl_980 : decode code 980 = .ok (.aload_n 0, 1) := by decide +kernel
theorem dl_981 : decode code 981 = .ok (.iload 4, 2) := by decide +kernel
theorem dl_983 : decode code 983 = .ok (.iconst 1, 1) := by decide +kernel
theorem dl_984 : decode code 984 = .ok (.iadd, 1) := by decide +kernel
theorem dl_985 : decode code 985 = .ok (.iaload, 1) := by decide +kernel
theorem dl_986 : decode code 986 = .ok (.aload_n 0, 1) := by decide +kernel
theorem dl_987 : decode code 987 = .ok (.iload 4, 2) := by decide +kernel
theorem dl_989 : decode code 989 = .ok (.iconst 2, 1) := by decide +kernel
theorem dl_990 : decode code 990 = .ok (.iadd, 1) := by decide +kernel
theorem dl_991 : decode code 991 = .ok (.iaload, 1) := by decide +kernel
theorem dl_992 : decode code 992 = .ok (.aload_n 0, 1) := by decide +kernel
theorem dl_993 : decode code 993 = .ok (.iload 4, 2) := by decide +kernel
theorem dl_995 : decode code 995 = .ok (.iconst 3, 1) := by decide +kernel
theorem dl_996 : decode code 996 = .ok (.iadd, 1) := by decide +kernel
theorem dl_997 : decode code 997 = .ok (.iaload, 1) := by decide +kernel
theorem dl_998 : decode code 998 = .ok (.aload_n 0, 1) := by decide +kernel
theorem dl_999 : decode code 999 = .ok (.iload 4, 2) := by decide +kernel
theorem dl_1001 : decode code 1001 = .ok (.iconst 4, 1) := by decide +kernel
theorem dl_1002 : decode code 1002 = .ok (.iadd, 1) := by decide +kernel
theorem dl_1003 : decode code 1003 = .ok (.iaload, 1) := by decide +kernel
theorem dl_1004 : decode code 1004 = .ok (.invokevirtual 122, 3) := by decide +kernel
theorem dl_1007 : decode code 1007 = .ok (.if_icmp .eq 544, 3) := by decide +kernel
theorem dl_1010 : decode code 1010 = .ok (.iconst 0, 1) := by decide +kernel
theorem dl_1011 : decode code 1011 = .ok (.ireturn, 1) := by decide +kernel
theorem dl_1012 : decode code 1012 = .ok (.aload_n 1, 1) := by decide +kernel
theorem dl_1013 : decode code 1013 = .ok (.aload_n 0, 1) := by decide +kernel
theorem dl_1014 : decode code 1014 = .ok (.iload 4, 2) := by decide +kernel
theorem dl_1016 : decode code 1016 = .ok (.iconst 1, 1) := by decide +kernel
theorem dl_1017 : decode code 1017 = .ok (.iadd, 1) := by decide +kernel
theorem dl_1018 : decode code 1018 = .ok (.iaload, 1) := by decide +kernel
theorem dl_1019 : decode code 1019 = .ok (.aload_n 0, 1) := by decide +kernel
theorem dl_1020 : decode code 1020 = .ok (.iload 4, 2) := by decide +kernel
theorem dl_1022 : decode code 1022 = .ok (.iconst 2, 1) := by decide +kernel
theorem dl_1023 : decode code 1023 = .ok (.iadd, 1) := by decide +kernel
theorem dl_1024 : decode code 1024 = .ok (.iaload, 1) := by decide +kernel
theorem dl_1025 : decode code 1025 = .ok (.aload_n 0, 1) := by decide +kernel
theorem dl_1026 : decode code 1026 = .ok (.iload 4, 2) := by decide +kernel
theorem dl_1028 : decode code 1028 = .ok (.iconst 3, 1) := by decide +kernel
theorem dl_1029 : decode code 1029 = .ok (.iadd, 1) := by decide +kernel
theorem dl_1030 : decode code 1030 = .ok (.iaload, 1) := by decide +kernel
theorem dl_1031 : decode code 1031 = .ok (.invokevirtual 123, 3) := by decide +kernel
theorem dl_1034 : decode code 1034 = .ok (.aload_n 2, 1) := by decide +kernel
theorem dl_1035 : decode code 1035 = .ok (.aload_n 0, 1) := by decide +kernel
theorem dl_1036 : decode code 1036 = .ok (.iload 4, 2) := by decide +kernel
theorem dl_1038 : decode code 1038 = .ok (.iconst 1, 1) := by decide +kernel
theorem dl_1039 : decode code 1039 = .ok (.iadd, 1) := by decide +kernel
theorem dl_1040 : decode code 1040 = .ok (.iaload, 1) := by decide +kernel
theorem dl_1041 : decode code 1041 = .ok (.aload_n 0, 1) := by decide +kernel
theorem dl_1042 : decode code 1042 = .ok (.iload 4, 2) := by decide +kernel
theorem dl_1044 : decode code 1044 = .ok (.iconst 2, 1) := by decide +kernel
theorem dl_1045 : decode code 1045 = .ok (.iadd, 1) := by decide +kernel
theorem dl_1046 : decode code 1046 = .ok (.iaload, 1) := by decide +kernel
theorem dl_1047 : decode code 1047 = .ok (.aload_n 0, 1) := by decide +kernel
theorem dl_1048 : decode code 1048 = .ok (.iload 4, 2) := by decide +kernel
theorem dl_1050 : decode code 1050 = .ok (.iconst 3, 1) := by decide +kernel
theorem dl_1051 : decode code 1051 = .ok (.iadd, 1) := by decide +kernel
theorem dl_1052 : decode code 1052 = .ok (.iaload, 1) := by decide +kernel
theorem dl_1053 : decode code 1053 = .ok (.invokevirtual 126, 3) := by decide +kernel
theorem dl_1056 : decode code 1056 = .ok (.if_icmp .eq 495, 3) := by decide +kernel
theorem dl_1059 : decode code 1059 = .ok (.iconst 0, 1) := by decide +kernel
theorem dl_1060 : decode code 1060 = .ok (.ireturn, 1) := by decide +kernel
theorem dl_1061 : decode code 1061 = .ok (.aload_n 1, 1) := by decide +kernel
theorem dl_1062 : decode code 1062 = .ok (.aload_n 0, 1) := by decide +kernel
theorem dl_1063 : decode code 1063 = .ok (.iload 4, 2) := by decide +kernel
theorem dl_1065 : decode code 1065 = .ok (.iconst 1, 1) := by decide +kernel
theorem dl_1066 : decode code 1066 = .ok (.iadd, 1) := by decide +kernel
theorem dl_1067 : decode code 1067 = .ok (.iaload, 1) := by decide +kernel
theorem dl_1068 : decode code 1068 = .ok (.aload_n 0, 1) := by decide +kernel
theorem dl_1069 : decode code 1069 = .ok (.iload 4, 2) := by decide +kernel
theorem dl_1071 : decode code 1071 = .ok (.iconst 2, 1) := by decide +kernel
theorem dl_1072 : decode code 1072 = .ok (.iadd, 1) := by decide +kernel
theorem dl_1073 : decode code 1073 = .ok (.iaload, 1) := by decide +kernel
theorem dl_1074 : decode code 1074 = .ok (.invokevirtual 127, 3) := by decide +kernel
theorem dl_1077 : decode code 1077 = .ok (.aload_n 2, 1) := by decide +kernel
theorem dl_1078 : decode code 1078 = .ok (.aload_n 0, 1) := by decide +kernel
theorem dl_1079 : decode code 1079 = .ok (.iload 4, 2) := by decide +kernel
theorem dl_1081 : decode code 1081 = .ok (.iconst 1, 1) := by decide +kernel
theorem dl_1082 : decode code 1082 = .ok (.iadd, 1) := by decide +kernel
theorem dl_1083 : decode code 1083 = .ok (.iaload, 1) := by decide +kernel
theorem dl_1084 : decode code 1084 = .ok (.aload_n 0, 1) := by decide +kernel
theorem dl_1085 : decode code 1085 = .ok (.iload 4, 2) := by decide +kernel
theorem dl_1087 : decode code 1087 = .ok (.iconst 2, 1) := by decide +kernel
theorem dl_1088 : decode code 1088 = .ok (.iadd, 1) := by decide +kernel
theorem dl_1089 : decode code 1089 = .ok (.iaload, 1) := by decide +kernel
theorem dl_1090 : decode code 1090 = .ok (.invokevirtual 130, 3) := by decide +kernel
theorem dl_1093 : decode code 1093 = .ok (.if_icmp .eq 458, 3) := by decide +kernel
theorem dl_1096 : decode code 1096 = .ok (.iconst 0, 1) := by decide +kernel
theorem dl_1097 : decode code 1097 = .ok (.ireturn, 1) := by decide +kernel
theorem dl_1098 : decode code 1098 = .ok (.aload_n 1, 1) := by decide +kernel
theorem dl_1099 : decode code 1099 = .ok (.aload_n 0, 1) := by decide +kernel
theorem dl_1100 : decode code 1100 = .ok (.iload 4, 2) := by decide +kernel
theorem dl_1102 : decode code 1102 = .ok (.iconst 1, 1) := by decide +kernel
theorem dl_1103 : decode code 1103 = .ok (.iadd, 1) := by decide +kernel
theorem dl_1104 : decode code 1104 = .ok (.iaload, 1) := by decide +kernel
theorem dl_1105 : decode code 1105 = .ok (.aload_n 0, 1) := by decide +kernel
theorem dl_1106 : decode code 1106 = .ok (.iload 4, 2) := by decide +kernel
theorem dl_1108 : decode code 1108 = .ok (.iconst 2, 1) := by decide +kernel
theorem dl_1109 : decode code 1109 = .ok (.iadd, 1) := by decide +kernel
theorem dl_1110 : decode code 1110 = .ok (.iaload, 1) := by decide +kernel
theorem dl_1111 : decode code 1111 = .ok (.invokevirtual 131, 3) := by decide +kernel
theorem dl_1114 : decode code 1114 = .ok (.aload_n 2, 1) := by decide +kernel
theorem dl_1115 : decode code 1115 = .ok (.aload_n 0, 1) := by decide +kernel
theorem dl_1116 : decode code 1116 = .ok (.iload 4, 2) := by decide +kernel
theorem dl_1118 : decode code 1118 = .ok (.iconst 1, 1) := by decide +kernel
theorem dl_1119 : decode code 1119 = .ok (.iadd, 1) := by decide +kernel
theorem dl_1120 : decode code 1120 = .ok (.iaload, 1) := by decide +kernel
theorem dl_1121 : decode code 1121 = .ok (.aload_n 0, 1) := by decide +kernel
theorem dl_1122 : decode code 1122 = .ok (.iload 4, 2) := by decide +kernel
theorem dl_1124 : decode code 1124 = .ok (.iconst 2, 1) := by decide +kernel
theorem dl_1125 : decode code 1125 = .ok (.iadd, 1) := by decide +kernel
theorem dl_1126 : decode code 1126 = .ok (.iaload, 1) := by decide +kernel
theorem dl_1127 : decode code 1127 = .ok (.invokevirtual 134, 3) := by decide +kernel
theorem dl_1130 : decode code 1130 = .ok (.if_icmp .eq 421, 3) := by decide +kernel
theorem dl_1133 : decode code 1133 = .ok (.iconst 0, 1) := by decide +kernel
theorem dl_1134 : decode code 1134 = .ok (.ireturn, 1) := by decide +kernel
theorem dl_1135 : decode code 1135 = .ok (.aload_n 1, 1) := by decide +kernel
theorem dl_1136 : decode code 1136 = .ok (.aload_n 0, 1) := by decide +kernel
theorem dl_1137 : decode code 1137 = .ok (.iload 4, 2) := by decide +kernel
theorem dl_1139 : decode code 1139 = .ok (.iconst 1, 1) := by decide +kernel
theorem dl_1140 : decode code 1140 = .ok (.iadd, 1) := by decide +kernel
theorem dl_1141 : decode code 1141 = .ok (.iaload, 1) := by decide +kernel
theorem dl_1142 : decode code 1142 = .ok (.invokevirtual 135, 3) := by decide +kernel
theorem dl_1145 : decode code 1145 = .ok (.aload_n 2, 1) := by decide +kernel
theorem dl_1146 : decode code 1146 = .ok (.aload_n 0, 1) := by decide +kernel
theorem dl_1147 : decode code 1147 = .ok (.iload 4, 2) := by decide +kernel
theorem dl_1149 : decode code 1149 = .ok (.iconst 1, 1) := by decide +kernel
theorem dl_1150 : decode code 1150 = .ok (.iadd, 1) := by decide +kernel
theorem dl_1151 : decode code 1151 = .ok (.iaload, 1) := by decide +kernel
theorem dl_1152 : decode code 1152 = .ok (.invokevirtual 138, 3) := by decide +kernel
theorem dl_1155 : decode code 1155 = .ok (.if_icmp .eq 396, 3) := by decide +kernel
theorem dl_1158 : decode code 1158 = .ok (.iconst 0, 1) := by decide +kernel
theorem dl_1159 : decode code 1159 = .ok (.ireturn, 1) := by decide +kernel
theorem dl_1160 : decode code 1160 = .ok (.aload_n 1, 1) := by decide +kernel
theorem dl_1161 : decode code 1161 = .ok (.aload_n 0, 1) := by decide +kernel
theorem dl_1162 : decode code 1162 = .ok (.iload 4, 2) := by decide +kernel
theorem dl_1164 : decode code 1164 = .ok (.iconst 1, 1) := by decide +kernel
theorem dl_1165 : decode code 1165 = .ok (.iadd, 1) := by decide +kernel
theorem dl_1166 : decode code 1166 = .ok (.iaload, 1) := by decide +kernel
theorem dl_1167 : decode code 1167 = .ok (.aload_n 0, 1) := by decide +kernel
theorem dl_1168 : decode code 1168 = .ok (.iload 4, 2) := by decide +kernel
theorem dl_1170 : decode code 1170 = .ok (.iconst 2, 1) := by decide +kernel
theorem dl_1171 : decode code 1171 = .ok (.iadd, 1) := by decide +kernel
theorem dl_1172 : decode code 1172 = .ok (.iaload, 1) := by decide +kernel
theorem dl_1173 : decode code 1173 = .ok (.invokevirtual 139, 3) := by decide +kernel
theorem dl_1176 : decode code 1176 = .ok (.aload_n 2, 1) := by decide +kernel
theorem dl_1177 : decode code 1177 = .ok (.aload_n 0, 1) := by decide +kernel
theorem dl_1178 : decode code 1178 = .ok (.iload 4, 2) := by decide +kernel
theorem dl_1180 : decode code 1180 = .ok (.iconst 1, 1) := by decide +kernel
theorem dl_1181 : decode code 1181 = .ok (.iadd, 1) := by decide +kernel
theorem dl_1182 : decode code 1182 = .ok (.iaload, 1) := by decide +kernel
theorem dl_1183 : decode code 1183 = .ok (.aload_n 0, 1) := by decide +kernel
theorem dl_1184 : decode code 1184 = .ok (.iload 4, 2) := by decide +kernel
theorem dl_1186 : decode code 1186 = .ok (.iconst 2, 1) := by decide +kernel
theorem dl_1187 : decode code 1187 = .ok (.iadd, 1) := by decide +kernel
theorem dl_1188 : decode code 1188 = .ok (.iaload, 1) := by decide +kernel
theorem dl_1189 : decode code 1189 = .ok (.invokevirtual 142, 3) := by decide +kernel
theorem dl_1192 : decode code 1192 = .ok (.if_icmp .eq 359, 3) := by decide +kernel
theorem dl_1195 : decode code 1195 = .ok (.iconst 0, 1) := by decide +kernel
theorem dl_1196 : decode code 1196 = .ok (.ireturn, 1) := by decide +kernel
theorem dl_1197 : decode code 1197 = .ok (.aload_n 1, 1) := by decide +kernel
theorem dl_1198 : decode code 1198 = .ok (.aload_n 0, 1) := by decide +kernel
theorem dl_1199 : decode code 1199 = .ok (.iload 4, 2) := by decide +kernel
theorem dl_1201 : decode code 1201 = .ok (.iconst 1, 1) := by decide +kernel
theorem dl_1202 : decode code 1202 = .ok (.iadd, 1) := by decide +kernel
theorem dl_1203 : decode code 1203 = .ok (.iaload, 1) := by decide +kernel
theorem dl_1204 : decode code 1204 = .ok (.aload_n 0, 1) := by decide +kernel
theorem dl_1205 : decode code 1205 = .ok (.iload 4, 2) := by decide +kernel
theorem dl_1207 : decode code 1207 = .ok (.iconst 2, 1) := by decide +kernel
theorem dl_1208 : decode code 1208 = .ok (.iadd, 1) := by decide +kernel
theorem dl_1209 : decode code 1209 = .ok (.iaload, 1) := by decide +kernel
theorem dl_1210 : decode code 1210 = .ok (.invokevirtual 143, 3) := by decide +kernel
theorem dl_1213 : decode code 1213 = .ok (.aload_n 2, 1) := by decide +kernel
theorem dl_1214 : decode code 1214 = .ok (.aload_n 0, 1) := by decide +kernel
theorem dl_1215 : decode code 1215 = .ok (.iload 4, 2) := by decide +kernel
theorem dl_1217 : decode code 1217 = .ok (.iconst 1, 1) := by decide +kernel
theorem dl_1218 : decode code 1218 = .ok (.iadd, 1) := by decide +kernel
theorem dl_1219 : decode code 1219 = .ok (.iaload, 1) := by decide +kernel
theorem dl_1220 : decode code 1220 = .ok (.aload_n 0, 1) := by decide +kernel
theorem dl_1221 : decode code 1221 = .ok (.iload 4, 2) := by decide +kernel
theorem dl_1223 : decode code 1223 = .ok (.iconst 2, 1) := by decide +kernel
theorem dl_1224 : decode code 1224 = .ok (.iadd, 1) := by decide +kernel
theorem dl_1225 : decode code 1225 = .ok (.iaload, 1) := by decide +kernel
theorem dl_1226 : decode code 1226 = .ok (.invokevirtual 146, 3) := by decide +kernel
theorem dl_1229 : decode code 1229 = .ok (.if_icmp .eq 322, 3) := by decide +kernel
theorem dl_1232 : decode code 1232 = .ok (.iconst 0, 1) := by decide +kernel
theorem dl_1233 : decode code 1233 = .ok (.ireturn, 1) := by decide +kernel
theorem dl_1234 : decode code 1234 = .ok (.aload_n 1, 1) := by decide +kernel
theorem dl_1235 : decode code 1235 = .ok (.invokevirtual 147, 3) := by decide +kernel
theorem dl_1238 : decode code 1238 = .ok (.aload_n 2, 1) := by decide +kernel
theorem dl_1239 : decode code 1239 = .ok (.invokevirtual 150, 3) := by decide +kernel
theorem dl_1242 : decode code 1242 = .ok (.if_icmp .eq 309, 3) := by decide +kernel
theorem dl_1245 : decode code 1245 = .ok (.iconst 0, 1) := by decide +kernel
theorem dl_1246 : decode code 1246 = .ok (.ireturn, 1) := by decide +kernel
theorem dl_1247 : decode code 1247 = .ok (.aload_n 1, 1) := by decide +kernel
theorem dl_1248 : decode code 1248 = .ok (.aload_n 0, 1) := by decide +kernel
theorem dl_1249 : decode code 1249 = .ok (.iload 4, 2) := by decide +kernel
theorem dl_1251 : decode code 1251 = .ok (.iconst 1, 1) := by decide +kernel
theorem dl_1252 : decode code 1252 = .ok (.iadd, 1) := by decide +kernel
theorem dl_1253 : decode code 1253 = .ok (.iaload, 1) := by decide +kernel
theorem dl_1254 : decode code 1254 = .ok (.invokevirtual 151, 3) := by decide +kernel
theorem dl_1257 : decode code 1257 = .ok (.aload_n 2, 1) := by decide +kernel
theorem dl_1258 : decode code 1258 = .ok (.aload_n 0, 1) := by decide +kernel
theorem dl_1259 : decode code 1259 = .ok (.iload 4, 2) := by decide +kernel
theorem dl_1261 : decode code 1261 = .ok (.iconst 1, 1) := by decide +kernel
theorem dl_1262 : decode code 1262 = .ok (.iadd, 1) := by decide +kernel
theorem dl_1263 : decode code 1263 = .ok (.iaload, 1) := by decide +kernel
theorem dl_1264 : decode code 1264 = .ok (.invokevirtual 154, 3) := by decide +kernel
theorem dl_1267 : decode code 1267 = .ok (.if_icmp .eq 284, 3) := by decide +kernel
theorem dl_1270 : decode code 1270 = .ok (.iconst 0, 1) := by decide +kernel
theorem dl_1271 : decode code 1271 = .ok (.ireturn, 1) := by decide +kernel
theorem dl_1272 : decode code 1272 = .ok (.aload_n 1, 1) := by decide +kernel
theorem dl_1273 : decode code 1273 = .ok (.aload_n 0, 1) := by decide +kernel
theorem dl_1274 : decode code 1274 = .ok (.iload 4, 2) := by decide +kernel
theorem dl_1276 : decode code 1276 = .ok (.iconst 1, 1) := by decide +kernel
theorem dl_1277 : decode code 1277 = .ok (.iadd, 1) := by decide +kernel
theorem dl_1278 : decode code 1278 = .ok (.iaload, 1) := by decide +kernel
theorem dl_1279 : decode code 1279 = .ok (.invokevirtual 155, 3) := by decide +kernel
theorem dl_1282 : decode code 1282 = .ok (.aload_n 2, 1) := by decide +kernel
theorem dl_1283 : decode code 1283 = .ok (.aload_n 0, 1) := by decide +kernel
theorem dl_1284 : decode code 1284 = .ok (.iload 4, 2) := by decide +kernel
theorem dl_1286 : decode code 1286 = .ok (.iconst 1, 1) := by decide +kernel
theorem dl_1287 : decode code 1287 = .ok (.iadd, 1) := by decide +kernel
theorem dl_1288 : decode code 1288 = .ok (.iaload, 1) := by decide +kernel
theorem dl_1289 : decode code 1289 = .ok (.invokevirtual 158, 3) := by decide +kernel
theorem dl_1292 : decode code 1292 = .ok (.if_icmp .eq 259, 3) := by decide +kernel
theorem dl_1295 : decode code 1295 = .ok (.iconst 0, 1) := by decide +kernel
theorem dl_1296 : decode code 1296 = .ok (.ireturn, 1) := by decide +kernel
theorem dl_1297 : decode code 1297 = .ok (.aload_n 1, 1) := by decide +kernel
theorem dl_1298 : decode code 1298 = .ok (.aload_n 0, 1) := by decide +kernel
theorem dl_1299 : decode code 1299 = .ok (.iload 4, 2) := by decide +kernel
theorem dl_1301 : decode code 1301 = .ok (.iconst 1, 1) := by decide +kernel
theorem dl_1302 : decode code 1302 = .ok (.iadd, 1) := by decide +kernel
theorem dl_1303 : decode code 1303 = .ok (.iaload, 1) := by decide +kernel
theorem dl_1304 : decode code 1304 = .ok (.aload_n 0, 1) := by decide +kernel
theorem dl_1305 : decode code 1305 = .ok (.iload 4, 2) := by decide +kernel
theorem dl_1307 : decode code 1307 = .ok (.iconst 2, 1) := by decide +kernel
theorem dl_1308 : decode code 1308 = .ok (.iadd, 1) := by decide +kernel
theorem dl_1309 : decode code 1309 = .ok (.iaload, 1) := by decide +kernel
theorem dl_1310 : decode code 1310 = .ok (.aload_n 0, 1) := by decide +kernel
theorem dl_1311 : decode code 1311 = .ok (.iload 4, 2) := by decide +kernel
theorem dl_1313 : decode code 1313 = .ok (.iconst 3, 1) := by decide +kernel
theorem dl_1314 : decode code 1314 = .ok (.iadd, 1) := by decide +kernel
theorem dl_1315 : decode code 1315 = .ok (.iaload, 1) := by decide +kernel
theorem dl_1316 : decode code 1316 = .ok (.invokevirtual 159, 3) := by decide +kernel
theorem dl_1319 : decode code 1319 = .ok (.aload_n 2, 1) := by decide +kernel
theorem dl_1320 : decode code 1320 = .ok (.aload_n 0, 1) := by decide +kernel
theorem dl_1321 : decode code 1321 = .ok (.iload 4, 2) := by decide +kernel
theorem dl_1323 : decode code 1323 = .ok (.iconst 1, 1) := by decide +kernel
theorem dl_1324 : decode code 1324 = .ok (.iadd, 1) := by decide +kernel
theorem dl_1325 : decode code 1325 = .ok (.iaload, 1) := by decide +kernel
theorem dl_1326 : decode code 1326 = .ok (.aload_n 0, 1) := by decide +kernel
theorem dl_1327 : decode code 1327 = .ok (.iload 4, 2) := by decide +kernel
theorem dl_1329 : decode code 1329 = .ok (.iconst 2, 1) := by decide +kernel
theorem dl_1330 : decode code 1330 = .ok (.iadd, 1) := by decide +kernel
theorem dl_1331 : decode code 1331 = .ok (.iaload, 1) := by decide +kernel
theorem dl_1332 : decode code 1332 = .ok (.aload_n 0, 1) := by decide +kernel
theorem dl_1333 : decode code 1333 = .ok (.iload 4, 2) := by decide +kernel
theorem dl_1335 : decode code 1335 = .ok (.iconst 3, 1) := by decide +kernel
theorem dl_1336 : decode code 1336 = .ok (.iadd, 1) := by decide +kernel
theorem dl_1337 : decode code 1337 = .ok (.iaload, 1) := by decide +kernel
theorem dl_1338 : decode code 1338 = .ok (.invokevirtual 162, 3) := by decide +kernel
theorem dl_1341 : decode code 1341 = .ok (.if_icmp .eq 210, 3) := by decide +kernel
theorem dl_1344 : decode code 1344 = .ok (.iconst 0, 1) := by decide +kernel
theorem dl_1345 : decode code 1345 = .ok (.ireturn, 1) := by decide +kernel
theorem dl_1346 : decode code 1346 = .ok (.aload_n 1, 1) := by decide +kernel
theorem dl_1347 : decode code 1347 = .ok (.aload_n 0, 1) := by decide +kernel
theorem dl_1348 : decode code 1348 = .ok (.iload 4, 2) := by decide +kernel
theorem dl_1350 : decode code 1350 = .ok (.iconst 1, 1) := by decide +kernel
theorem dl_1351 : decode code 1351 = .ok (.iadd, 1) := by decide +kernel
theorem dl_1352 : decode code 1352 = .ok (.iaload, 1) := by decide +kernel
theorem dl_1353 : decode code 1353 = .ok (.invokevirtual 163, 3) := by decide +kernel
theorem dl_1356 : decode code 1356 = .ok (.aload_n 2, 1) := by decide +kernel
theorem dl_1357 : decode code 1357 = .ok (.aload_n 0, 1) := by decide +kernel
theorem dl_1358 : decode code 1358 = .ok (.iload 4, 2) := by decide +kernel
theorem dl_1360 : decode code 1360 = .ok (.iconst 1, 1) := by decide +kernel
theorem dl_1361 : decode code 1361 = .ok (.iadd, 1) := by decide +kernel
theorem dl_1362 : decode code 1362 = .ok (.iaload, 1) := by decide +kernel
theorem dl_1363 : decode code 1363 = .ok (.invokevirtual 166, 3) := by decide +kernel
theorem dl_1366 : decode code 1366 = .ok (.if_icmp .eq 185, 3) := by decide +kernel
theorem dl_1369 : decode code 1369 = .ok (.iconst 0, 1) := by decide +kernel
theorem dl_1370 : decode code 1370 = .ok (.ireturn, 1) := by decide +kernel
theorem dl_1371 : decode code 1371 = .ok (.aload_n 1, 1) := by decide +kernel
theorem dl_1372 : decode code 1372 = .ok (.invokevirtual 167, 3) := by decide +kernel
theorem dl_1375 : decode code 1375 = .ok (.aload_n 2, 1) := by decide +kernel
theorem dl_1376 : decode code 1376 = .ok (.invokevirtual 170, 3) := by decide +kernel
theorem dl_1379 : decode code 1379 = .ok (.if_icmp .eq 172, 3) := by decide +kernel
theorem dl_1382 : decode code 1382 = .ok (.iconst 0, 1) := by decide +kernel
theorem dl_1383 : decode code 1383 = .ok (.ireturn, 1) := by decide +kernel
theorem dl_1384 : decode code 1384 = .ok (.aload_n 1, 1) := by decide +kernel
theorem dl_1385 : decode code 1385 = .ok (.aload_n 0, 1) := by decide +kernel
theorem dl_1386 : decode code 1386 = .ok (.iload 4, 2) := by decide +kernel
theorem dl_1388 : decode code 1388 = .ok (.iconst 1, 1) := by decide +kernel
theorem dl_1389 : decode code 1389 = .ok (.iadd, 1) := by decide +kernel
theorem dl_1390 : decode code 1390 = .ok (.iaload, 1) := by decide +kernel
theorem dl_1391 : decode code 1391 = .ok (.aload_n 0, 1) := by decide +kernel
theorem dl_1392 : decode code 1392 = .ok (.iload 4, 2) := by decide +kernel
theorem dl_1394 : decode code 1394 = .ok (.iconst 2, 1) := by decide +kernel
theorem dl_1395 : decode code 1395 = .ok (.iadd, 1) := by decide +kernel
theorem dl_1396 : decode code 1396 = .ok (.iaload, 1) := by decide +kernel
theorem dl_1397 : decode code 1397 = .ok (.invokevirtual 171, 3) := by decide +kernel
theorem dl_1400 : decode code 1400 = .ok (.aload_n 2, 1) := by decide +kernel
theorem dl_1401 : decode code 1401 = .ok (.aload_n 0, 1) := by decide +kernel
theorem dl_1402 : decode code 1402 = .ok (.iload 4, 2) := by decide +kernel
theorem dl_1404 : decode code 1404 = .ok (.iconst 1, 1) := by decide +kernel
theorem dl_1405 : decode code 1405 = .ok (.iadd, 1) := by decide +kernel
theorem dl_1406 : decode code 1406 = .ok (.iaload, 1) := by decide +kernel
theorem dl_1407 : decode code 1407 = .ok (.aload_n 0, 1) := by decide +kernel
theorem dl_1408 : decode code 1408 = .ok (.iload 4, 2) := by decide +kernel
theorem dl_1410 : decode code 1410 = .ok (.iconst 2, 1) := by decide +kernel
theorem dl_1411 : decode code 1411 = .ok (.iadd, 1) := by decide +kernel
theorem dl_1412 : decode code 1412 = .ok (.iaload, 1) := by decide +kernel
theorem dl_1413 : decode code 1413 = .ok (.invokevirtual 174, 3) := by decide +kernel
theorem dl_1416 : decode code 1416 = .ok (.if_icmp .eq 135, 3) := by decide +kernel
theorem dl_1419 : decode code 1419 = .ok (.iconst 0, 1) := by decide +kernel
theorem dl_1420 : decode code 1420 = .ok (.ireturn, 1) := by decide +kernel
theorem dl_1421 : decode code 1421 = .ok (.aload_n 1, 1) := by decide +kernel
theorem dl_1422 : decode code 1422 = .ok (.aload_n 0, 1) := by decide +kernel
theorem dl_1423 : decode code 1423 = .ok (.iload 4, 2) := by decide +kernel
theorem dl_1425 : decode code 1425 = .ok (.iconst 1, 1) := by decide +kernel
theorem dl_1426 : decode code 1426 = .ok (.iadd, 1) := by decide +kernel
theorem dl_1427 : decode code 1427 = .ok (.iaload, 1) := by decide +kernel
theorem dl_1428 : decode code 1428 = .ok (.invokevirtual 175, 3) := by decide +kernel
theorem dl_1431 : decode code 1431 = .ok (.aload_n 2, 1) := by decide +kernel
theorem dl_1432 : decode code 1432 = .ok (.aload_n 0, 1) := by decide +kernel
theorem dl_1433 : decode code 1433 = .ok (.iload 4, 2) := by decide +kernel
theorem dl_1435 : decode code 1435 = .ok (.iconst 1, 1) := by decide +kernel
theorem dl_1436 : decode code 1436 = .ok (.iadd, 1) := by decide +kernel
theorem dl_1437 : decode code 1437 = .ok (.iaload, 1) := by decide +kernel
theorem dl_1438 : decode code 1438 = .ok (.invokevirtual 178, 3) := by decide +kernel
theorem dl_1441 : decode code 1441 = .ok (.if_icmp .eq 110, 3) := by decide +kernel
theorem dl_1444 : decode code 1444 = .ok (.iconst 0, 1) := by decide +kernel
theorem dl_1445 : decode code 1445 = .ok (.ireturn, 1) := by decide +kernel
theorem dl_1446 : decode code 1446 = .ok (.aload_n 1, 1) := by decide +kernel
theorem dl_1447 : decode code 1447 = .ok (.aload_n 0, 1) := by decide +kernel
theorem dl_1448 : decode code 1448 = .ok (.iload 4, 2) := by decide +kernel
theorem dl_1450 : decode code 1450 = .ok (.iconst 1, 1) := by decide +kernel
theorem dl_1451 : decode code 1451 = .ok (.iadd, 1) := by decide +kernel
theorem dl_1452 : decode code 1452 = .ok (.iaload, 1) := by decide +kernel
theorem dl_1453 : decode code 1453 = .ok (.invokevirtual 179, 3) := by decide +kernel
theorem dl_1456 : decode code 1456 = .ok (.aload_n 2, 1) := by decide +kernel
theorem dl_1457 : decode code 1457 = .ok (.aload_n 0, 1) := by decide +kernel
theorem dl_1458 : decode code 1458 = .ok (.iload 4, 2) := by decide +kernel
theorem dl_1460 : decode code 1460 = .ok (.iconst 1, 1) := by decide +kernel
theorem dl_1461 : decode code 1461 = .ok (.iadd, 1) := by decide +kernel
theorem dl_1462 : decode code 1462 = .ok (.iaload, 1) := by decide +kernel
theorem dl_1463 : decode code 1463 = .ok (.invokevirtual 182, 3) := by decide +kernel
theorem dl_1466 : decode code 1466 = .ok (.if_icmp .eq 85, 3) := by decide +kernel
theorem dl_1469 : decode code 1469 = .ok (.iconst 0, 1) := by decide +kernel
theorem dl_1470 : decode code 1470 = .ok (.ireturn, 1) := by decide +kernel
theorem dl_1471 : decode code 1471 = .ok (.aload_n 1, 1) := by decide +kernel
theorem dl_1472 : decode code 1472 = .ok (.aload_n 0, 1) := by decide +kernel
theorem dl_1473 : decode code 1473 = .ok (.iload 4, 2) := by decide +kernel
theorem dl_1475 : decode code 1475 = .ok (.iconst 1, 1) := by decide +kernel
theorem dl_1476 : decode code 1476 = .ok (.iadd, 1) := by decide +kernel
theorem dl_1477 : decode code 1477 = .ok (.iaload, 1) := by decide +kernel
theorem dl_1478 : decode code 1478 = .ok (.invokevirtual 183, 3) := by decide +kernel
theorem dl_1481 : decode code 1481 = .ok (.aload_n 2, 1) := by decide +kernel
theorem dl_1482 : decode code 1482 = .ok (.aload_n 0, 1) := by decide +kernel
theorem dl_1483 : decode code 1483 = .ok (.iload 4, 2) := by decide +kernel
theorem dl_1485 : decode code 1485 = .ok (.iconst 1, 1) := by decide +kernel
theorem dl_1486 : decode code 1486 = .ok (.iadd, 1) := by decide +kernel
theorem dl_1487 : decode code 1487 = .ok (.iaload, 1) := by decide +kernel
theorem dl_1488 : decode code 1488 = .ok (.invokevirtual 186, 3) := by decide +kernel
theorem dl_1491 : decode code 1491 = .ok (.if_icmp .eq 60, 3) := by decide +kernel
theorem dl_1494 : decode code 1494 = .ok (.iconst 0, 1) := by decide +kernel
theorem dl_1495 : decode code 1495 = .ok (.ireturn, 1) := by decide +kernel
theorem dl_1496 : decode code 1496 = .ok (.aload_n 1, 1) := by decide +kernel
theorem dl_1497 : decode code 1497 = .ok (.aload_n 0, 1) := by decide +kernel
theorem dl_1498 : decode code 1498 = .ok (.iload 4, 2) := by decide +kernel
theorem dl_1500 : decode code 1500 = .ok (.iconst 1, 1) := by decide +kernel
theorem dl_1501 : decode code 1501 = .ok (.iadd, 1) := by decide +kernel
theorem dl_1502 : decode code 1502 = .ok (.iaload, 1) := by decide +kernel
theorem dl_1503 : decode code 1503 = .ok (.aload_n 3, 1) := by decide +kernel
theorem dl_1504 : decode code 1504 = .ok (.invokestatic 187, 3) := by decide +kernel
theorem dl_1507 : decode code 1507 = .ok (.istore 5, 2) := by decide +kernel
theorem dl_1509 : decode code 1509 = .ok (.aload_n 2, 1) := by decide +kernel
theorem dl_1510 : decode code 1510 = .ok (.aload_n 0, 1) := by decide +kernel
theorem dl_1511 : decode code 1511 = .ok (.iload 4, 2) := by decide +kernel
theorem dl_1513 : decode code 1513 = .ok (.iconst 1, 1) := by decide +kernel
theorem dl_1514 : decode code 1514 = .ok (.iadd, 1) := by decide +kernel
theorem dl_1515 : decode code 1515 = .ok (.iaload, 1) := by decide +kernel
theorem dl_1516 : decode code 1516 = .ok (.invokevirtual 190, 3) := by decide +kernel
theorem dl_1519 : decode code 1519 = .ok (.lstore 6, 2) := by decide +kernel
theorem dl_1521 : decode code 1521 = .ok (.aload_n 2, 1) := by decide +kernel
theorem dl_1522 : decode code 1522 = .ok (.invokevirtual 51, 3) := by decide +kernel
theorem dl_1525 : decode code 1525 = .ok (.iload 5, 2) := by decide +kernel
theorem dl_1527 : decode code 1527 = .ok (.if_icmp .eq 5, 3) := by decide +kernel
theorem dl_1530 : decode code 1530 = .ok (.iconst 0, 1) := by decide +kernel
theorem dl_1531 : decode code 1531 = .ok (.ireturn, 1) := by decide +kernel
theorem dl_1532 : decode code 1532 = .ok (.iload 5, 2) := by decide +kernel
theorem dl_1534 : decode code 1534 = .ok (.ifCond .ne 14, 3) := by decide +kernel
theorem dl_1537 : decode code 1537 = .ok (.aload_n 3, 1) := by decide +kernel
theorem dl_1538 : decode code 1538 = .ok (.iconst 0, 1) := by decide +kernel
theorem dl_1539 : decode code 1539 = .ok (.laload, 1) := by decide +kernel
theorem dl_1540 : decode code 1540 = .ok (.lload 6, 2) := by decide +kernel
theorem dl_1542 : decode code 1542 = .ok (.lcmp, 1) := by decide +kernel
theorem dl_1543 : decode code 1543 = .ok (.ifCond .eq 5, 3) := by decide +kernel
theorem dl_1546 : decode code 1546 = .ok (.iconst 0, 1) := by decide +kernel
theorem dl_1547 : decode code 1547 = .ok (.ireturn, 1) := by decide +kernel
theorem dl_1548 : decode code 1548 = .ok (.goto 3, 3) := by decide +kernel
theorem dl_1551 : decode code 1551 = .ok (.iinc 4 5, 3) := by decide +kernel
theorem dl_1554 : decode code 1554 = .ok (.goto (-1531), 3) := by decide +kernel
theorem dl_1557 : decode code 1557 = .ok (.iconst 1, 1) := by decide +kernel
theorem dl_1558 : decode code 1558 = .ok (.ireturn, 1) := by decide +kernel
