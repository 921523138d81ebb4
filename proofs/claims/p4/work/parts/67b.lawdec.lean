theorem dl_0 : decode code 0 = .ok (.new 8, 3) := by decide +kernel
theorem dl_3 : decode code 3 = .ok (.dup, 1) := by decide +kernel
theorem dl_4 : decode code 4 = .ok (.invokespecial 22, 3) := by decide +kernel
theorem dl_7 : decode code 7 = .ok (.astore_n 1, 1) := by decide +kernel
theorem dl_8 : decode code 8 = .ok (.new 23, 3) := by decide +kernel
theorem dl_11 : decode code 11 = .ok (.dup, 1) := by decide +kernel
theorem dl_12 : decode code 12 = .ok (.invokespecial 25, 3) := by decide +kernel
theorem dl_15 : decode code 15 = .ok (.astore_n 2, 1) := by decide +kernel
theorem dl_16 : decode code 16 = .ok (.iconst 1, 1) := by decide +kernel
theorem dl_17 : decode code 17 = .ok (.newarray .long, 2) := by decide +kernel
theorem dl_19 : decode code 19 = .ok (.astore_n 3, 1) := by decide +kernel
theorem dl_20 : decode code 20 = .ok (.iconst 0, 1) := by decide +kernel
theorem dl_21 : decode code 21 = .ok (.istore 4, 2) := by decide +kernel
theorem dl_23 : decode code 23 = .ok (.iload 4, 2) := by decide +kernel
theorem dl_25 : decode code 25 = .ok (.aload_n 0, 1) := by decide +kernel
theorem dl_26 : decode code 26 = .ok (.arraylength, 1) := by decide +kernel
theorem dl_27 : decode code 27 = .ok (.iconst 5, 1) := by decide +kernel
theorem dl_28 : decode code 28 = .ok (.isub, 1) := by decide +kernel
theorem dl_29 : decode code 29 = .ok (.if_icmp .gt 1445, 3) := by decide +kernel
theorem dl_32 : decode code 32 = .ok (.aload_n 0, 1) := by decide +kernel
theorem dl_33 : decode code 33 = .ok (.iload 4, 2) := by decide +kernel
theorem dl_35 : decode code 35 = .ok (.iaload, 1) := by decide +kernel
theorem dl_36 : decode code 36 = .ok (.bipush 63, 2) := by decide +kernel
theorem dl_38 : decode code 38 = .ok (.iand, 1) := by decide +kernel
theorem dl_39 : decode code 39 = .ok (.tableswitch 1429 0 38 #[169, 194, 219, 244, 257, 297, 337, 398, 435, 472, 521, 570, 607, 644, 657, 670, 707, 732, 769, 794, 831, 856, 917, 966, 1003, 1040, 1065, 1102, 1139, 1152, 1177, 1202, 1251, 1276, 1289, 1326, 1351, 1376, 1401], 169) := by decide +kernel
theorem dl_208 : decode code 208 = .ok (.aload_n 1, 1) := by decide +kernel
theorem dl_209 : decode code 209 = .ok (.aload_n 0, 1) := by decide +kernel
theorem dl_210 : decode code 210 = .ok (.iload 4, 2) := by decide +kernel
theorem dl_212 : decode code 212 = .ok (.iconst 1, 1) := by decide +kernel
theorem dl_213 : decode code 213 = .ok (.iadd, 1) := by decide +kernel
theorem dl_214 : decode code 214 = .ok (.iaload, 1) := by decide +kernel
theorem dl_215 : decode code 215 = .ok (.invokevirtual 26, 3) := by decide +kernel
theorem dl_218 : decode code 218 = .ok (.pop, 1) := by decide +kernel
theorem dl_219 : decode code 219 = .ok (.aload_n 2, 1) := by decide +kernel
theorem dl_220 : decode code 220 = .ok (.aload_n 0, 1) := by decide +kernel
theorem dl_221 : decode code 221 = .ok (.iload 4, 2) := by decide +kernel
theorem dl_223 : decode code 223 = .ok (.iconst 1, 1) := by decide +kernel
theorem dl_224 : decode code 224 = .ok (.iadd, 1) := by decide +kernel
theorem dl_225 : decode code 225 = .ok (.iaload, 1) := by decide +kernel
theorem dl_226 : decode code 226 = .ok (.invokevirtual 30, 3) := by decide +kernel
theorem dl_229 : decode code 229 = .ok (.pop, 1) := by decide +kernel
theorem dl_230 : decode code 230 = .ok (.goto 1238, 3) := by decide +kernel
theorem dl_233 : decode code 233 = .ok (.aload_n 1, 1) := by decide +kernel
theorem dl_234 : decode code 234 = .ok (.aload_n 0, 1) := by decide +kernel
theorem dl_235 : decode code 235 = .ok (.iload 4, 2) := by decide +kernel
theorem dl_237 : decode code 237 = .ok (.iconst 1, 1) := by decide +kernel
theorem dl_238 : decode code 238 = .ok (.iadd, 1) := by decide +kernel
theorem dl_239 : decode code 239 = .ok (.iaload, 1) := by decide +kernel
theorem dl_240 : decode code 240 = .ok (.invokevirtual 31, 3) := by decide +kernel
theorem dl_243 : decode code 243 = .ok (.pop, 1) := by decide +kernel
theorem dl_244 : decode code 244 = .ok (.aload_n 2, 1) := by decide +kernel
theorem dl_245 : decode code 245 = .ok (.aload_n 0, 1) := by decide +kernel
theorem dl_246 : decode code 246 = .ok (.iload 4, 2) := by decide +kernel
theorem dl_248 : decode code 248 = .ok (.iconst 1, 1) := by decide +kernel
theorem dl_249 : decode code 249 = .ok (.iadd, 1) := by decide +kernel
theorem dl_250 : decode code 250 = .ok (.iaload, 1) := by decide +kernel
theorem dl_251 : decode code 251 = .ok (.invokevirtual 35, 3) := by decide +kernel
theorem dl_254 : decode code 254 = .ok (.pop, 1) := by decide +kernel
theorem dl_255 : decode code 255 = .ok (.goto 1213, 3) := by decide +kernel
theorem dl_258 : decode code 258 = .ok (.aload_n 1, 1) := by decide +kernel
theorem dl_259 : decode code 259 = .ok (.aload_n 0, 1) := by decide +kernel
theorem dl_260 : decode code 260 = .ok (.iload 4, 2) := by decide +kernel
theorem dl_262 : decode code 262 = .ok (.iconst 1, 1) := by decide +kernel
theorem dl_263 : decode code 263 = .ok (.iadd, 1) := by decide +kernel
theorem dl_264 : decode code 264 = .ok (.iaload, 1) := by decide +kernel
theorem dl_265 : decode code 265 = .ok (.invokevirtual 36, 3) := by decide +kernel
theorem dl_268 : decode code 268 = .ok (.aload_n 2, 1) := by decide +kernel
theorem dl_269 : decode code 269 = .ok (.aload_n 0, 1) := by decide +kernel
theorem dl_270 : decode code 270 = .ok (.iload 4, 2) := by decide +kernel
theorem dl_272 : decode code 272 = .ok (.iconst 1, 1) := by decide +kernel
theorem dl_273 : decode code 273 = .ok (.iadd, 1) := by decide +kernel
theorem dl_274 : decode code 274 = .ok (.iaload, 1) := by decide +kernel
theorem dl_275 : decode code 275 = .ok (.invokevirtual 39, 3) := by decide +kernel
theorem dl_278 : decode code 278 = .ok (.if_icmp .eq 1190, 3) := by decide +kernel
theorem dl_281 : decode code 281 = .ok (.iconst 0, 1) := by decide +kernel
theorem dl_282 : decode code 282 = .ok (.ireturn, 1) := by decide +kernel
theorem dl_283 : decode code 283 = .ok (.aload_n 1, 1) := by decide +kernel
theorem dl_284 : decode code 284 = .ok (.invokevirtual 40, 3) := by decide +kernel
theorem dl_287 : decode code 287 = .ok (.pop, 1) := by decide +kernel
theorem dl_288 : decode code 288 = .ok (.aload_n 2, 1) := by decide +kernel
theorem dl_289 : decode code 289 = .ok (.invokevirtual 44, 3) := by decide +kernel
theorem dl_292 : decode code 292 = .ok (.pop, 1) := by decide +kernel
theorem dl_293 : decode code 293 = .ok (.goto 1175, 3) := by decide +kernel
theorem dl_296 : decode code 296 = .ok (.aload_n 1, 1) := by decide +kernel
theorem dl_297 : decode code 297 = .ok (.aload_n 0, 1) := by decide +kernel
theorem dl_298 : decode code 298 = .ok (.iload 4, 2) := by decide +kernel
theorem dl_300 : decode code 300 = .ok (.iconst 1, 1) := by decide +kernel
theorem dl_301 : decode code 301 = .ok (.iadd, 1) := by decide +kernel
theorem dl_302 : decode code 302 = .ok (.iaload, 1) := by decide +kernel
theorem dl_303 : decode code 303 = .ok (.aload_n 0, 1) := by decide +kernel
theorem dl_304 : decode code 304 = .ok (.iload 4, 2) := by decide +kernel
theorem dl_306 : decode code 306 = .ok (.iconst 2, 1) := by decide +kernel
theorem dl_307 : decode code 307 = .ok (.iadd, 1) := by decide +kernel
theorem dl_308 : decode code 308 = .ok (.iaload, 1) := by decide +kernel
theorem dl_309 : decode code 309 = .ok (.aload_n 3, 1) := by decide +kernel
theorem dl_310 : decode code 310 = .ok (.invokestatic 45, 3) := by decide +kernel
theorem dl_313 : decode code 313 = .ok (.istore 5, 2) := by decide +kernel
theorem dl_315 : decode code 315 = .ok (.aload_n 2, 1) := by decide +kernel
theorem dl_316 : decode code 316 = .ok (.aload_n 0, 1) := by decide +kernel
theorem dl_317 : decode code 317 = .ok (.iload 4, 2) := by decide +kernel
theorem dl_319 : decode code 319 = .ok (.iconst 1, 1) := by decide +kernel
theorem dl_320 : decode code 320 = .ok (.iadd, 1) := by decide +kernel
theorem dl_321 : decode code 321 = .ok (.iaload, 1) := by decide +kernel
theorem dl_322 : decode code 322 = .ok (.aload_n 0, 1) := by decide +kernel
theorem dl_323 : decode code 323 = .ok (.iload 4, 2) := by decide +kernel
theorem dl_325 : decode code 325 = .ok (.iconst 2, 1) := by decide +kernel
theorem dl_326 : decode code 326 = .ok (.iadd, 1) := by decide +kernel
theorem dl_327 : decode code 327 = .ok (.iaload, 1) := by decide +kernel
theorem dl_328 : decode code 328 = .ok (.invokevirtual 50, 3) := by decide +kernel
theorem dl_331 : decode code 331 = .ok (.istore 6, 2) := by decide +kernel
theorem dl_333 : decode code 333 = .ok (.goto 1135, 3) := by decide +kernel
theorem dl_336 : decode code 336 = .ok (.aload_n 1, 1) := by decide +kernel
theorem dl_337 : decode code 337 = .ok (.aload_n 0, 1) := by decide +kernel
theorem dl_338 : decode code 338 = .ok (.iload 4, 2) := by decide +kernel
theorem dl_340 : decode code 340 = .ok (.iconst 1, 1) := by decide +kernel
theorem dl_341 : decode code 341 = .ok (.iadd, 1) := by decide +kernel
theorem dl_342 : decode code 342 = .ok (.iaload, 1) := by decide +kernel
theorem dl_343 : decode code 343 = .ok (.aload_n 0, 1) := by decide +kernel
theorem dl_344 : decode code 344 = .ok (.iload 4, 2) := by decide +kernel
theorem dl_346 : decode code 346 = .ok (.iconst 2, 1) := by decide +kernel
theorem dl_347 : decode code 347 = .ok (.iadd, 1) := by decide +kernel
theorem dl_348 : decode code 348 = .ok (.iaload, 1) := by decide +kernel
theorem dl_349 : decode code 349 = .ok (.aload_n 3, 1) := by decide +kernel
theorem dl_350 : decode code 350 = .ok (.invokestatic 51, 3) := by decide +kernel
theorem dl_353 : decode code 353 = .ok (.istore 5, 2) := by decide +kernel
theorem dl_355 : decode code 355 = .ok (.aload_n 2, 1) := by decide +kernel
theorem dl_356 : decode code 356 = .ok (.aload_n 0, 1) := by decide +kernel
theorem dl_357 : decode code 357 = .ok (.iload 4, 2) := by decide +kernel
theorem dl_359 : decode code 359 = .ok (.iconst 1, 1) := by decide +kernel
theorem dl_360 : decode code 360 = .ok (.iadd, 1) := by decide +kernel
theorem dl_361 : decode code 361 = .ok (.iaload, 1) := by decide +kernel
theorem dl_362 : decode code 362 = .ok (.aload_n 0, 1) := by decide +kernel
theorem dl_363 : decode code 363 = .ok (.iload 4, 2) := by decide +kernel
theorem dl_365 : decode code 365 = .ok (.iconst 2, 1) := by decide +kernel
theorem dl_366 : decode code 366 = .ok (.iadd, 1) := by decide +kernel
theorem dl_367 : decode code 367 = .ok (.iaload, 1) := by decide +kernel
theorem dl_368 : decode code 368 = .ok (.invokevirtual 53, 3) := by decide +kernel
theorem dl_371 : decode code 371 = .ok (.istore 6, 2) := by decide +kernel
theorem dl_373 : decode code 373 = .ok (.goto 1095, 3) := by decide +kernel
theorem dl_376 : decode code 376 = .ok (.aload_n 1, 1) := by decide +kernel
theorem dl_377 : decode code 377 = .ok (.aload_n 0, 1) := by decide +kernel
theorem dl_378 : decode code 378 = .ok (.iload 4, 2) := by decide +kernel
theorem dl_380 : decode code 380 = .ok (.iconst 1, 1) := by decide +kernel
theorem dl_381 : decode code 381 = .ok (.iadd, 1) := by decide +kernel
theorem dl_382 : decode code 382 = .ok (.iaload, 1) := by decide +kernel
theorem dl_383 : decode code 383 = .ok (.aload_n 0, 1) := by decide +kernel
theorem dl_384 : decode code 384 = .ok (.iload 4, 2) := by decide +kernel
theorem dl_386 : decode code 386 = .ok (.iconst 2, 1) := by decide +kernel
theorem dl_387 : decode code 387 = .ok (.iadd, 1) := by decide +kernel
theorem dl_388 : decode code 388 = .ok (.iaload, 1) := by decide +kernel
theorem dl_389 : decode code 389 = .ok (.aload_n 0, 1) := by decide +kernel
theorem dl_390 : decode code 390 = .ok (.iload 4, 2) := by decide +kernel
theorem dl_392 : decode code 392 = .ok (.iconst 3, 1) := by decide +kernel
theorem dl_393 : decode code 393 = .ok (.iadd, 1) := by decide +kernel
theorem dl_394 : decode code 394 = .ok (.iaload, 1) := by decide +kernel
theorem dl_395 : decode code 395 = .ok (.aload_n 0, 1) := by decide +kernel
theorem dl_396 : decode code 396 = .ok (.iload 4, 2) := by decide +kernel
theorem dl_398 : decode code 398 = .ok (.iconst 4, 1) := by decide +kernel
theorem dl_399 : decode code 399 = .ok (.iadd, 1) := by decide +kernel
theorem dl_400 : decode code 400 = .ok (.iaload, 1) := by decide +kernel
theorem dl_401 : decode code 401 = .ok (.invokevirtual 54, 3) := by decide +kernel
theorem dl_404 : decode code 404 = .ok (.pop, 1) := by decide +kernel
theorem dl_405 : decode code 405 = .ok (.aload_n 2, 1) := by decide +kernel
theorem dl_406 : decode code 406 = .ok (.aload_n 0, 1) := by decide +kernel
theorem dl_407 : decode code 407 = .ok (.iload 4, 2) := by decide +kernel
theorem dl_409 : decode code 409 = .ok (.iconst 1, 1) := by decide +kernel
theorem dl_410 : decode code 410 = .ok (.iadd, 1) := by decide +kernel
theorem dl_411 : decode code 411 = .ok (.iaload, 1) := by decide +kernel
theorem dl_412 : decode code 412 = .ok (.aload_n 0, 1) := by decide +kernel
theorem dl_413 : decode code 413 = .ok (.iload 4, 2) := by decide +kernel
theorem dl_415 : decode code 415 = .ok (.iconst 2, 1) := by decide +kernel
theorem dl_416 : decode code 416 = .ok (.iadd, 1) := by decide +kernel
theorem dl_417 : decode code 417 = .ok (.iaload, 1) := by decide +kernel
theorem dl_418 : decode code 418 = .ok (.aload_n 0, 1) := by decide +kernel
theorem dl_419 : decode code 419 = .ok (.iload 4, 2) := by decide +kernel
theorem dl_421 : decode code 421 = .ok (.iconst 3, 1) := by decide +kernel
theorem dl_422 : decode code 422 = .ok (.iadd, 1) := by decide +kernel
theorem dl_423 : decode code 423 = .ok (.iaload, 1) := by decide +kernel
theorem dl_424 : decode code 424 = .ok (.aload_n 0, 1) := by decide +kernel
theorem dl_425 : decode code 425 = .ok (.iload 4, 2) := by decide +kernel
theorem dl_427 : decode code 427 = .ok (.iconst 4, 1) := by decide +kernel
theorem dl_428 : decode code 428 = .ok (.iadd, 1) := by decide +kernel
theorem dl_429 : decode code 429 = .ok (.iaload, 1) := by decide +kernel
theorem dl_430 : decode code 430 = .ok (.invokevirtual 58, 3) := by decide +kernel
theorem dl_433 : decode code 433 = .ok (.pop, 1) := by decide +kernel
theorem dl_434 : decode code 434 = .ok (.goto 1034, 3) := by decide +kernel
theorem dl_437 : decode code 437 = .ok (.aload_n 1, 1) := by decide +kernel
theorem dl_438 : decode code 438 = .ok (.aload_n 0, 1) := by decide +kernel
theorem dl_439 : decode code 439 = .ok (.iload 4, 2) := by decide +kernel
theorem dl_441 : decode code 441 = .ok (.iconst 1, 1) := by decide +kernel
theorem dl_442 : decode code 442 = .ok (.iadd, 1) := by decide +kernel
theorem dl_443 : decode code 443 = .ok (.iaload, 1) := by decide +kernel
theorem dl_444 : decode code 444 = .ok (.aload_n 0, 1) := by decide +kernel
theorem dl_445 : decode code 445 = .ok (.iload 4, 2) := by decide +kernel
theorem dl_447 : decode code 447 = .ok (.iconst 2, 1) := by decide +kernel
theorem dl_448 : decode code 448 = .ok (.iadd, 1) := by decide +kernel
theorem dl_449 : decode code 449 = .ok (.iaload, 1) := by decide +kernel
theorem dl_450 : decode code 450 = .ok (.invokevirtual 59, 3) := by decide +kernel
theorem dl_453 : decode code 453 = .ok (.pop, 1) := by decide +kernel
theorem dl_454 : decode code 454 = .ok (.aload_n 2, 1) := by decide +kernel
theorem dl_455 : decode code 455 = .ok (.aload_n 0, 1) := by decide +kernel
theorem dl_456 : decode code 456 = .ok (.iload 4, 2) := by decide +kernel
theorem dl_458 : decode code 458 = .ok (.iconst 1, 1) := by decide +kernel
theorem dl_459 : decode code 459 = .ok (.iadd, 1) := by decide +kernel
theorem dl_460 : decode code 460 = .ok (.iaload, 1) := by decide +kernel
theorem dl_461 : decode code 461 = .ok (.aload_n 0, 1) := by decide +kernel
theorem dl_462 : decode code 462 = .ok (.iload 4, 2) := by decide +kernel
theorem dl_464 : decode code 464 = .ok (.iconst 2, 1) := by decide +kernel
theorem dl_465 : decode code 465 = .ok (.iadd, 1) := by decide +kernel
theorem dl_466 : decode code 466 = .ok (.iaload, 1) := by decide +kernel
theorem dl_467 : decode code 467 = .ok (.invokevirtual 62, 3) := by decide +kernel
theorem dl_470 : decode code 470 = .ok (.pop, 1) := by decide +kernel
theorem dl_471 : decode code 471 = .ok (.goto 997, 3) := by decide +kernel
theorem dl_474 : decode code 474 = .ok (.aload_n 1, 1) := by decide +kernel
theorem dl_475 : decode code 475 = .ok (.aload_n 0, 1) := by decide +kernel
theorem dl_476 : decode code 476 = .ok (.iload 4, 2) := by decide +kernel
theorem dl_478 : decode code 478 = .ok (.iconst 1, 1) := by decide +kernel
theorem dl_479 : decode code 479 = .ok (.iadd, 1) := by decide +kernel
theorem dl_480 : decode code 480 = .ok (.iaload, 1) := by decide +kernel
theorem dl_481 : decode code 481 = .ok (.aload_n 0, 1) := by decide +kernel
theorem dl_482 : decode code 482 = .ok (.iload 4, 2) := by decide +kernel
theorem dl_484 : decode code 484 = .ok (.iconst 2, 1) := by decide +kernel
theorem dl_485 : decode code 485 = .ok (.iadd, 1) := by decide +kernel
theorem dl_486 : decode code 486 = .ok (.iaload, 1) := by decide +kernel
theorem dl_487 : decode code 487 = .ok (.invokevirtual 63, 3) := by decide +kernel
theorem dl_490 : decode code 490 = .ok (.pop, 1) := by decide +kernel
theorem dl_491 : decode code 491 = .ok (.aload_n 2, 1) := by decide +kernel
theorem dl_492 : decode code 492 = .ok (.aload_n 0, 1) := by decide +kernel
theorem dl_493 : decode code 493 = .ok (.iload 4, 2) := by decide +kernel
theorem dl_495 : decode code 495 = .ok (.iconst 1, 1) := by decide +kernel
theorem dl_496 : decode code 496 = .ok (.iadd, 1) := by decide +kernel
theorem dl_497 : decode code 497 = .ok (.iaload, 1) := by decide +kernel
theorem dl_498 : decode code 498 = .ok (.aload_n 0, 1) := by decide +kernel
theorem dl_499 : decode code 499 = .ok (.iload 4, 2) := by decide +kernel
theorem dl_501 : decode code 501 = .ok (.iconst 2, 1) := by decide +kernel
theorem dl_502 : decode code 502 = .ok (.iadd, 1) := by decide +kernel
theorem dl_503 : decode code 503 = .ok (.iaload, 1) := by decide +kernel
theorem dl_504 : decode code 504 = .ok (.invokevirtual 66, 3) := by decide +kernel
theorem dl_507 : decode code 507 = .ok (.pop, 1) := by decide +kernel
theorem dl_508 : decode code 508 = .ok (.goto 960, 3) := by decide +kernel
theorem dl_511 : decode code 511 = .ok (.aload_n 1, 1) := by decide +kernel
theorem dl_512 : decode code 512 = .ok (.aload_n 0, 1) := by decide +kernel
theorem dl_513 : decode code 513 = .ok (.iload 4, 2) := by decide +kernel
theorem dl_515 : decode code 515 = .ok (.iconst 1, 1) := by decide +kernel
theorem dl_516 : decode code 516 = .ok (.iadd, 1) := by decide +kernel
theorem dl_517 : decode code 517 = .ok (.iaload, 1) := by decide +kernel
theorem dl_518 : decode code 518 = .ok (.aload_n 0, 1) := by decide +kernel
theorem dl_519 : decode code 519 = .ok (.iload 4, 2) := by decide +kernel
theorem dl_521 : decode code 521 = .ok (.iconst 2, 1) := by decide +kernel
theorem dl_522 : decode code 522 = .ok (.iadd, 1) := by decide +kernel
theorem dl_523 : decode code 523 = .ok (.iaload, 1) := by decide +kernel
theorem dl_524 : decode code 524 = .ok (.aload_n 0, 1) := by decide +kernel
theorem dl_525 : decode code 525 = .ok (.iload 4, 2) := by decide +kernel
theorem dl_527 : decode code 527 = .ok (.iconst 3, 1) := by decide +kernel
theorem dl_528 : decode code 528 = .ok (.iadd, 1) := by decide +kernel
theorem dl_529 : decode code 529 = .ok (.iaload, 1) := by decide +kernel
theorem dl_530 : decode code 530 = .ok (.invokevirtual 67, 3) := by decide +kernel
theorem dl_533 : decode code 533 = .ok (.pop, 1) := by decide +kernel
theorem dl_534 : decode code 534 = .ok (.aload_n 2, 1) := by decide +kernel
theorem dl_535 : decode code 535 = .ok (.aload_n 0, 1) := by decide +kernel
theorem dl_536 : decode code 536 = .ok (.iload 4, 2) := by decide +kernel
theorem dl_538 : decode code 538 = .ok (.iconst 1, 1) := by decide +kernel
theorem dl_539 : decode code 539 = .ok (.iadd, 1) := by decide +kernel
theorem dl_540 : decode code 540 = .ok (.iaload, 1) := by decide +kernel
theorem dl_541 : decode code 541 = .ok (.aload_n 0, 1) := by decide +kernel
theorem dl_542 : decode code 542 = .ok (.iload 4, 2) := by decide +kernel
theorem dl_544 : decode code 544 = .ok (.iconst 2, 1) := by decide +kernel
theorem dl_545 : decode code 545 = .ok (.iadd, 1) := by decide +kernel
theorem dl_546 : decode code 546 = .ok (.iaload, 1) := by decide +kernel
theorem dl_547 : decode code 547 = .ok (.aload_n 0, 1) := by decide +kernel
theorem dl_548 : decode code 548 = .ok (.iload 4, 2) := by decide +kernel
theorem dl_550 : decode code 550 = .ok (.iconst 3, 1) := by decide +kernel
theorem dl_551 : decode code 551 = .ok (.iadd, 1) := by decide +kernel
theorem dl_552 : decode code 552 = .ok (.iaload, 1) := by decide +kernel
theorem dl_553 : decode code 553 = .ok (.invokevirtual 71, 3) := by decide +kernel
theorem dl_556 : decode code 556 = .ok (.pop, 1) := by decide +kernel
theorem dl_557 : decode code 557 = .ok (.goto 911, 3) := by decide +kernel
theorem dl_560 : decode code 560 = .ok (.aload_n 1, 1) := by decide +kernel
theorem dl_561 : decode code 561 = .ok (.aload_n 0, 1) := by decide +kernel
theorem dl_562 : decode code 562 = .ok (.iload 4, 2) := by decide +kernel
theorem dl_564 : decode code 564 = .ok (.iconst 1, 1) := by decide +kernel
theorem dl_565 : decode code 565 = .ok (.iadd, 1) := by decide +kernel
theorem dl_566 : decode code 566 = .ok (.iaload, 1) := by decide +kernel
theorem dl_567 : decode code 567 = .ok (.aload_n 0, 1) := by decide +kernel
theorem dl_568 : decode code 568 = .ok (.iload 4, 2) := by decide +kernel
theorem dl_570 : decode code 570 = .ok (.iconst 2, 1) := by decide +kernel
theorem dl_571 : decode code 571 = .ok (.iadd, 1) := by decide +kernel
theorem dl_572 : decode code 572 = .ok (.iaload, 1) := by decide +kernel
theorem dl_573 : decode code 573 = .ok (.aload_n 0, 1) := by decide +kernel
theorem dl_574 : decode code 574 = .ok (.iload 4, 2) := by decide +kernel
theorem dl_576 : decode code 576 = .ok (.iconst 3, 1) := by decide +kernel
theorem dl_577 : decode code 577 = .ok (.iadd, 1) := by decide +kernel
theorem dl_578 : decode code 578 = .ok (.iaload, 1) := by decide +kernel
theorem dl_579 : decode code 579 = .ok (.invokevirtual 72, 3) := by decide +kernel
theorem dl_582 : decode code 582 = .ok (.pop, 1) := by decide +kernel
theorem dl_583 : decode code 583 = .ok (.aload_n 2, 1) := by decide +kernel
theorem dl_584 : decode code 584 = .ok (.aload_n 0, 1) := by decide +kernel
theorem dl_585 : decode code 585 = .ok (.iload 4, 2) := by decide +kernel
theorem dl_587 : decode code 587 = .ok (.iconst 1, 1) := by decide +kernel
theorem dl_588 : decode code 588 = .ok (.iadd, 1) := by decide +kernel
theorem dl_589 : decode code 589 = .ok (.iaload, 1) := by decide +kernel
theorem dl_590 : decode code 590 = .ok (.aload_n 0, 1) := by decide +kernel
theorem dl_591 : decode code 591 = .ok (.iload 4, 2) := by decide +kernel
theorem dl_593 : decode code 593 = .ok (.iconst 2, 1) := by decide +kernel
theorem dl_594 : decode code 594 = .ok (.iadd, 1) := by decide +kernel
theorem dl_595 : decode code 595 = .ok (.iaload, 1) := by decide +kernel
theorem dl_596 : decode code 596 = .ok (.aload_n 0, 1) := by decide +kernel
theorem dl_597 : decode code 597 = .ok (.iload 4, 2) := by decide +kernel
theorem dl_599 : decode code 599 = .ok (.iconst 3, 1) := by decide +kernel
theorem dl_600 : decode code 600 = .ok (.iadd, 1) := by decide +kernel
theorem dl_601 : decode code 601 = .ok (.iaload, 1) := by decide +kernel
theorem dl_602 : decode code 602 = .ok (.invokevirtual 75, 3) := by decide +kernel
theorem dl_605 : decode code 605 = .ok (.pop, 1) := by decide +kernel
theorem dl_606 : decode code 606 = .ok (.goto 862, 3) := by decide +kernel
theorem dl_609 : decode code 609 = .ok (.aload_n 1, 1) := by decide +kernel
theorem dl_610 : decode code 610 = .ok (.aload_n 0, 1) := by decide +kernel
theorem dl_611 : decode code 611 = .ok (.iload 4, 2) := by decide +kernel
theorem dl_613 : decode code 613 = .ok (.iconst 1, 1) := by decide +kernel
theorem dl_614 : decode code 614 = .ok (.iadd, 1) := by decide +kernel
theorem dl_615 : decode code 615 = .ok (.iaload, 1) := by decide +kernel
theorem dl_616 : decode code 616 = .ok (.aload_n 0, 1) := by decide +kernel
theorem dl_617 : decode code 617 = .ok (.iload 4, 2) := by decide +kernel
theorem dl_619 : decode code 619 = .ok (.iconst 2, 1) := by decide +kernel
theorem dl_620 : decode code 620 = .ok (.iadd, 1) := by decide +kernel
theorem dl_621 : decode code 621 = .ok (.iaload, 1) := by decide +kernel
theorem dl_622 : decode code 622 = .ok (.invokevirtual 76, 3) := by decide +kernel
theorem dl_625 : decode code 625 = .ok (.pop, 1) := by decide +kernel
theorem dl_626 : decode code 626 = .ok (.aload_n 2, 1) := by decide +kernel
theorem dl_627 : decode code 627 = .ok (.aload_n 0, 1) := by decide +kernel
theorem dl_628 : decode code 628 = .ok (.iload 4, 2) := by decide +kernel
theorem dl_630 : decode code 630 = .ok (.iconst 1, 1) := by decide +kernel
theorem dl_631 : decode code 631 = .ok (.iadd, 1) := by decide +kernel
theorem dl_632 : decode code 632 = .ok (.iaload, 1) := by decide +kernel
theorem dl_633 : decode code 633 = .ok (.aload_n 0, 1) := by decide +kernel
theorem dl_634 : decode code 634 = .ok (.iload 4, 2) := by decide +kernel
theorem dl_636 : decode code 636 = .ok (.iconst 2, 1) := by decide +kernel
theorem dl_637 : decode code 637 = .ok (.iadd, 1) := by decide +kernel
theorem dl_638 : decode code 638 = .ok (.iaload, 1) := by decide +kernel
theorem dl_639 : decode code 639 = .ok (.invokevirtual 79, 3) := by decide +kernel
theorem dl_642 : decode code 642 = .ok (.pop, 1) := by decide +kernel
theorem dl_643 : decode code 643 = .ok (.goto 825, 3) := by decide +kernel
theorem dl_646 : decode code 646 = .ok (.aload_n 1, 1) := by decide +kernel
theorem dl_647 : decode code 647 = .ok (.aload_n 0, 1) := by decide +kernel
theorem dl_648 : decode code 648 = .ok (.iload 4, 2) := by decide +kernel
theorem dl_650 : decode code 650 = .ok (.iconst 1, 1) := by decide +kernel
theorem dl_651 : decode code 651 = .ok (.iadd, 1) := by decide +kernel
theorem dl_652 : decode code 652 = .ok (.iaload, 1) := by decide +kernel
theorem dl_653 : decode code 653 = .ok (.aload_n 0, 1) := by decide +kernel
theorem dl_654 : decode code 654 = .ok (.iload 4, 2) := by decide +kernel
theorem dl_656 : decode code 656 = .ok (.iconst 2, 1) := by decide +kernel
theorem dl_657 : decode code 657 = .ok (.iadd, 1) := by decide +kernel
theorem dl_658 : decode code 658 = .ok (.iaload, 1) := by decide +kernel
theorem dl_659 : decode code 659 = .ok (.invokevirtual 80, 3) := by decide +kernel
theorem dl_662 : decode code 662 = .ok (.pop, 1) := by decide +kernel
theorem dl_663 : decode code 663 = .ok (.aload_n 2, 1) := by decide +kernel
theorem dl_664 : decode code 664 = .ok (.aload_n 0, 1) := by decide +kernel
theorem dl_665 : decode code 665 = .ok (.iload 4, 2) := by decide +kernel
theorem dl_667 : decode code 667 = .ok (.iconst 1, 1) := by decide +kernel
theorem dl_668 : decode code 668 = .ok (.iadd, 1) := by decide +kernel
theorem dl_669 : decode code 669 = .ok (.iaload, 1) := by decide +kernel
theorem dl_670 : decode code 670 = .ok (.aload_n 0, 1) := by decide +kernel
theorem dl_671 : decode code 671 = .ok (.iload 4, 2) := by decide +kernel
theorem dl_673 : decode code 673 = .ok (.iconst 2, 1) := by decide +kernel
theorem dl_674 : decode code 674 = .ok (.iadd, 1) := by decide +kernel
theorem dl_675 : decode code 675 = .ok (.iaload, 1) := by decide +kernel
theorem dl_676 : decode code 676 = .ok (.invokevirtual 83, 3) := by decide +kernel
theorem dl_679 : decode code 679 = .ok (.pop, 1) := by decide +kernel
theorem dl_680 : decode code 680 = .ok (.goto 788, 3) := by decide +kernel
theorem dl_683 : decode code 683 = .ok (.aload_n 1, 1) := by decide +kernel
theorem dl_684 : decode code 684 = .ok (.invokevirtual 84, 3) := by decide +kernel
theorem dl_687 : decode code 687 = .ok (.pop, 1) := by decide +kernel
theorem dl_688 : decode code 688 = .ok (.aload_n 2, 1) := by decide +kernel
theorem dl_689 : decode code 689 = .ok (.invokevirtual 87, 3) := by decide +kernel
theorem dl_692 : decode code 692 = .ok (.pop, 1) := by decide +kernel
theorem dl_693 : decode code 693 = .ok (.goto 775, 3) := by decide +kernel
theorem dl_696 : decode code 696 = .ok (.aload_n 1, 1) := by decide +kernel
theorem dl_697 : decode code 697 = .ok (.invokevirtual 88, 3) := by decide +kernel
theorem dl_700 : decode code 700 = .ok (.pop, 1) := by decide +kernel
theorem dl_701 : decode code 701 = .ok (.aload_n 2, 1) := by decide +kernel
theorem dl_702 : decode code 702 = .ok (.invokevirtual 91, 3) := by decide +kernel
theorem dl_705 : decode code 705 = .ok (.pop, 1) := by decide +kernel
theorem dl_706 : decode code 706 = .ok (.goto 762, 3) := by decide +kernel
theorem dl_709 : decode code 709 = .ok (.aload_n 1, 1) := by decide +kernel
theorem dl_710 : decode code 710 = .ok (.aload_n 0, 1) := by decide +kernel
theorem dl_711 : decode code 711 = .ok (.iload 4, 2) := by decide +kernel
theorem dl_713 : decode code 713 = .ok (.iconst 1, 1) := by decide +kernel
theorem dl_714 : decode code 714 = .ok (.iadd, 1) := by decide +kernel
theorem dl_715 : decode code 715 = .ok (.iaload, 1) := by decide +kernel
theorem dl_716 : decode code 716 = .ok (.aload_n 0, 1) := by decide +kernel
theorem dl_717 : decode code 717 = .ok (.iload 4, 2) := by decide +kernel
theorem dl_719 : decode code 719 = .ok (.iconst 2, 1) := by decide +kernel
theorem dl_720 : decode code 720 = .ok (.iadd, 1) := by decide +kernel
theorem dl_721 : decode code 721 = .ok (.iaload, 1) := by decide +kernel
theorem dl_722 : decode code 722 = .ok (.invokevirtual 92, 3) := by decide +kernel
theorem dl_725 : decode code 725 = .ok (.pop, 1) := by decide +kernel
theorem dl_726 : decode code 726 = .ok (.aload_n 2, 1) := by decide +kernel
theorem dl_727 : decode code 727 = .ok (.aload_n 0, 1) := by decide +kernel
theorem dl_728 : decode code 728 = .ok (.iload 4, 2) := by decide +kernel
theorem dl_730 : decode code 730 = .ok (.iconst 1, 1) := by decide +kernel
theorem dl_731 : decode code 731 = .ok (.iadd, 1) := by decide +kernel
theorem dl_732 : decode code 732 = .ok (.iaload, 1) := by decide +kernel
theorem dl_733 : decode code 733 = .ok (.aload_n 0, 1) := by decide +kernel
theorem dl_734 : decode code 734 = .ok (.iload 4, 2) := by decide +kernel
theorem dl_736 : decode code 736 = .ok (.iconst 2, 1) := by decide +kernel
theorem dl_737 : decode code 737 = .ok (.iadd, 1) := by decide +kernel
theorem dl_738 : decode code 738 = .ok (.iaload, 1) := by decide +kernel
theorem dl_739 : decode code 739 = .ok (.invokevirtual 95, 3) := by decide +kernel
theorem dl_742 : decode code 742 = .ok (.pop, 1) := by decide +kernel
theorem dl_743 : decode code 743 = .ok (.goto 725, 3) := by decide +kernel
theorem dl_746 : decode code 746 = .ok (.aload_n 1, 1) := by decide +kernel
theorem dl_747 : decode code 747 = .ok (.aload_n 0, 1) := by decide +kernel
theorem dl_748 : decode code 748 = .ok (.iload 4, 2) := by decide +kernel
theorem dl_750 : decode code 750 = .ok (.iconst 1, 1) := by decide +kernel
theorem dl_751 : decode code 751 = .ok (.iadd, 1) := by decide +kernel
theorem dl_752 : decode code 752 = .ok (.iaload, 1) := by decide +kernel
theorem dl_753 : decode code 753 = .ok (.invokevirtual 96, 3) := by decide +kernel
theorem dl_756 : decode code 756 = .ok (.pop, 1) := by decide +kernel
theorem dl_757 : decode code 757 = .ok (.aload_n 2, 1) := by decide +kernel
theorem dl_758 : decode code 758 = .ok (.aload_n 0, 1) := by decide +kernel
theorem dl_759 : decode code 759 = .ok (.iload 4, 2) := by decide +kernel
theorem dl_761 : decode code 761 = .ok (.iconst 1, 1) := by decide +kernel
theorem dl_762 : decode code 762 = .ok (.iadd, 1) := by decide +kernel
theorem dl_763 : decode code 763 = .ok (.iaload, 1) := by decide +kernel
theorem dl_764 : decode code 764 = .ok (.invokevirtual 99, 3) := by decide +kernel
theorem dl_767 : decode code 767 = .ok (.pop, 1) := by decide +kernel
theorem dl_768 : decode code 768 = .ok (.goto 700, 3) := by decide +kernel
theorem dl_771 : decode code 771 = .ok (.aload_n 1, 1) := by decide +kernel
theorem dl_772 : decode code 772 = .ok (.aload_n 0, 1) := by decide +kernel
theorem dl_773 : decode code 773 = .ok (.iload 4, 2) := by decide +kernel
theorem dl_775 : decode code 775 = .ok (.iconst 1, 1) := by decide +kernel
theorem dl_776 : decode code 776 = .ok (.iadd, 1) := by decide +kernel
theorem dl_777 : decode code 777 = .ok (.iaload, 1) := by decide +kernel
theorem dl_778 : decode code 778 = .ok (.aload_n 0, 1) := by decide +kernel
theorem dl_779 : decode code 779 = .ok (.iload 4, 2) := by decide +kernel
theorem dl_781 : decode code 781 = .ok (.iconst 2, 1) := by decide +kernel
theorem dl_782 : decode code 782 = .ok (.iadd, 1) := by decide +kernel
theorem dl_783 : decode code 783 = .ok (.iaload, 1) := by decide +kernel
theorem dl_784 : decode code 784 = .ok (.invokevirtual 100, 3) := by decide +kernel
theorem dl_787 : decode code 787 = .ok (.pop, 1) := by decide +kernel
theorem dl_788 : decode code 788 = .ok (.aload_n 2, 1) := by decide +kernel
theorem dl_789 : decode code 789 = .ok (.aload_n 0, 1) := by decide +kernel
theorem dl_790 : decode code 790 = .ok (.iload 4, 2) := by decide +kernel
theorem dl_792 : decode code 792 = .ok (.iconst 1, 1) := by decide +kernel
theorem dl_793 : decode code 793 = .ok (.iadd, 1) := by decide +kernel
theorem dl_794 : decode code 794 = .ok (.iaload, 1) := by decide +kernel
theorem dl_795 : decode code 795 = .ok (.aload_n 0, 1) := by decide +kernel
theorem dl_796 : decode code 796 = .ok (.iload 4, 2) := by decide +kernel
theorem dl_798 : decode code 798 = .ok (.iconst 2, 1) := by decide +kernel
theorem dl_799 : decode code 799 = .ok (.iadd, 1) := by decide +kernel
theorem dl_800 : decode code 800 = .ok (.iaload, 1) := by decide +kernel
theorem dl_801 : decode code 801 = .ok (.invokevirtual 103, 3) := by decide +kernel
theorem dl_804 : decode code 804 = .ok (.pop, 1) := by decide +kernel
theorem dl_805 : decode code 805 = .ok (.goto 663, 3) := by decide +kernel
theorem dl_808 : decode code 808 = .ok (.aload_n 1, 1) := by decide +kernel
theorem dl_809 : decode code 809 = .ok (.aload_n 0, 1) := by decide +kernel
theorem dl_810 : decode code 810 = .ok (.iload 4, 2) := by decide +kernel
theorem dl_812 : decode code 812 = .ok (.iconst 1, 1) := by decide +kernel
theorem dl_813 : decode code 813 = .ok (.iadd, 1) := by decide +kernel
theorem dl_814 : decode code 814 = .ok (.iaload, 1) := by decide +kernel
theorem dl_815 : decode code 815 = .ok (.invokevirtual 104, 3) := by decide +kernel
theorem dl_818 : decode code 818 = .ok (.pop, 1) := by decide +kernel
theorem dl_819 : decode code 819 = .ok (.aload_n 2, 1) := by decide +kernel
theorem dl_820 : decode code 820 = .ok (.aload_n 0, 1) := by decide +kernel
theorem dl_821 : decode code 821 = .ok (.iload 4, 2) := by decide +kernel
theorem dl_823 : decode code 823 = .ok (.iconst 1, 1) := by decide +kernel
theorem dl_824 : decode code 824 = .ok (.iadd, 1) := by decide +kernel
theorem dl_825 : decode code 825 = .ok (.iaload, 1) := by decide +kernel
theorem dl_826 : decode code 826 = .ok (.invokevirtual 107, 3) := by decide +kernel
theorem dl_829 : decode code 829 = .ok (.pop, 1) := by decide +kernel
theorem dl_830 : decode code 830 = .ok (.goto 638, 3) := by decide +kernel
theorem dl_833 : decode code 833 = .ok (.aload_n 1, 1) := by decide +kernel
theorem dl_834 : decode code 834 = .ok (.aload_n 0, 1) := by decide +kernel
theorem dl_835 : decode code 835 = .ok (.iload 4, 2) := by decide +kernel
theorem dl_837 : decode code 837 = .ok (.iconst 1, 1) := by decide +kernel
theorem dl_838 : decode code 838 = .ok (.iadd, 1) := by decide +kernel
theorem dl_839 : decode code 839 = .ok (.iaload, 1) := by decide +kernel
theorem dl_840 : decode code 840 = .ok (.aload_n 0, 1) := by decide +kernel
theorem dl_841 : decode code 841 = .ok (.iload 4, 2) := by decide +kernel
theorem dl_843 : decode code 843 = .ok (.iconst 2, 1) := by decide +kernel
theorem dl_844 : decode code 844 = .ok (.iadd, 1) := by decide +kernel
theorem dl_845 : decode code 845 = .ok (.iaload, 1) := by decide +kernel
theorem dl_846 : decode code 846 = .ok (.invokevirtual 108, 3) := by decide +kernel
theorem dl_849 : decode code 849 = .ok (.pop, 1) := by decide +kernel
theorem dl_850 : decode code 850 = .ok (.aload_n 2, 1) := by decide +kernel
theorem dl_851 : decode code 851 = .ok (.aload_n 0, 1) := by decide +kernel
theorem dl_852 : decode code 852 = .ok (.iload 4, 2) := by decide +kernel
theorem dl_854 : decode code 854 = .ok (.iconst 1, 1) := by decide +kernel
theorem dl_855 : decode code 855 = .ok (.iadd, 1) := by decide +kernel
theorem dl_856 : decode code 856 = .ok (.iaload, 1) := by decide +kernel
theorem dl_857 : decode code 857 = .ok (.aload_n 0, 1) := by decide +kernel
theorem dl_858 : decode code 858 = .ok (.iload 4, 2) := by decide +kernel
theorem dl_860 : decode code 860 = .ok (.iconst 2, 1) := by decide +kernel
theorem dl_861 : decode code 861 = .ok (.iadd, 1) := by decide +kernel
theorem dl_862 : decode code 862 = .ok (.iaload, 1) := by decide +kernel
theorem dl_863 : decode code 863 = .ok (.invokevirtual 111, 3) := by decide +kernel
theorem dl_866 : decode code 866 = .ok (.pop, 1) := by decide +kernel
theorem dl_867 : decode code 867 = .ok (.goto 601, 3) := by decide +kernel
theorem dl_870 : decode code 870 = .ok (.aload_n 1, 1) := by decide +kernel
theorem dl_871 : decode code 871 = .ok (.aload_n 0, 1) := by decide +kernel
theorem dl_872 : decode code 872 = .ok (.iload 4, 2) := by decide +kernel
theorem dl_874 : decode code 874 = .ok (.iconst 1, 1) := by decide +kernel
theorem dl_875 : decode code 875 = .ok (.iadd, 1) := by decide +kernel
theorem dl_876 : decode code 876 = .ok (.iaload, 1) := by decide +kernel
theorem dl_877 : decode code 877 = .ok (.invokevirtual 112, 3) := by decide +kernel
theorem dl_880 : decode code 880 = .ok (.pop, 1) := by decide +kernel
theorem dl_881 : decode code 881 = .ok (.aload_n 2, 1) := by decide +kernel
theorem dl_882 : decode code 882 = .ok (.aload_n 0, 1) := by decide +kernel
theorem dl_883 : decode code 883 = .ok (.iload 4, 2) := by decide +kernel
theorem dl_885 : decode code 885 = .ok (.iconst 1, 1) := by decide +kernel
theorem dl_886 : decode code 886 = .ok (.iadd, 1) := by decide +kernel
theorem dl_887 : decode code 887 = .ok (.iaload, 1) := by decide +kernel
theorem dl_888 : decode code 888 = .ok (.invokevirtual 115, 3) := by decide +kernel
theorem dl_891 : decode code 891 = .ok (.pop, 1) := by decide +kernel
theorem dl_892 : decode code 892 = .ok (.goto 576, 3) := by decide +kernel
theorem dl_895 : decode code 895 = .ok (.aload_n 1, 1) := by decide +kernel
theorem dl_896 : decode code 896 = .ok (.aload_n 0, 1) := by decide +kernel
theorem dl_897 : decode code 897 = .ok (.iload 4, 2) := by decide +kernel
theorem dl_899 : decode code 899 = .ok (.iconst 1, 1) := by decide +kernel
theorem dl_900 : decode code 900 = .ok (.iadd, 1) := by decide +kernel
theorem dl_901 : decode code 901 = .ok (.iaload, 1) := by decide +kernel
theorem dl_902 : decode code 902 = .ok (.aload_n 0, 1) := by decide +kernel
theorem dl_903 : decode code 903 = .ok (.iload 4, 2) := by decide +kernel
theorem dl_905 : decode code 905 = .ok (.iconst 2, 1) := by decide +kernel
theorem dl_906 : decode code 906 = .ok (.iadd, 1) := by decide +kernel
theorem dl_907 : decode code 907 = .ok (.iaload, 1) := by decide +kernel
theorem dl_908 : decode code 908 = .ok (.aload_n 0, 1) := by decide +kernel
theorem dl_909 : decode code 909 = .ok (.iload 4, 2) := by decide +kernel
theorem dl_911 : decode code 911 = .ok (.iconst 3, 1) := by decide +kernel
theorem dl_912 : decode code 912 = .ok (.iadd, 1) := by decide +kernel
theorem dl_913 : decode code 913 = .ok (.iaload, 1) := by decide +kernel
theorem dl_914 : decode code 914 = .ok (.aload_n 0, 1) := by decide +kernel
theorem dl_915 : decode code 915 = .ok (.iload 4, 2) := by decide +kernel
theorem dl_917 : decode code 917 = .ok (.iconst 4, 1) := by decide +kernel
theorem dl_918 : decode code 918 = .ok (.iadd, 1) := by decide +kernel
theorem dl_919 : decode code 919 = .ok (.iaload, 1) := by decide +kernel
theorem dl_920 : decode code 920 = .ok (.invokevirtual 116, 3) := by decide +kernel
theorem dl_923 : decode code 923 = .ok (.pop, 1) := by decide +kernel
theorem dl_924 : decode code 924 = .ok (.aload_n 2, 1) := by decide +kernel
theorem dl_925 : decode code 925 = .ok (.aload_n 0, 1) := by decide +kernel
theorem dl_926 : decode code 926 = .ok (.iload 4, 2) := by decide +kernel
theorem dl_928 : decode code 928 = .ok (.iconst 1, 1) := by decide +kernel
theorem dl_929 : decode code 929 = .ok (.iadd, 1) := by decide +kernel
theorem dl_930 : decode code 930 = .ok (.iaload, 1) := by decide +kernel
theorem dl_931 : decode code 931 = .ok (.aload_n 0, 1) := by decide +kernel
theorem dl_932 : decode code 932 = .ok (.iload 4, 2) := by decide +kernel
theorem dl_934 : decode code 934 = .ok (.iconst 2, 1) := by decide +kernel
theorem dl_935 : decode code 935 = .ok (.iadd, 1) := by decide +kernel
theorem dl_936 : decode code 936 = .ok (.iaload, 1) := by decide +kernel
theorem dl_937 : decode code 937 = .ok (.aload_n 0, 1) := by decide +kernel
theorem dl_938 : decode code 938 = .ok (.iload 4, 2) := by decide +kernel
theorem dl_940 : decode code 940 = .ok (.iconst 3, 1) := by decide +kernel
theorem dl_941 : decode code 941 = .ok (.iadd, 1) := by decide +kernel
theorem dl_942 : decode code 942 = .ok (.iaload, 1) := by decide +kernel
theorem dl_943 : decode code 943 = .ok (.aload_n 0, 1) := by decide +kernel
theorem dl_944 : decode code 944 = .ok (.iload 4, 2) := by decide +kernel
theorem dl_946 : decode code 946 = .ok (.iconst 4, 1) := by decide +kernel
theorem dl_947 : decode code 947 = .ok (.iadd, 1) := by decide +kernel
theorem dl_948 : decode code 948 = .ok (.iaload, 1) := by decide +kernel
theorem dl_949 : decode code 949 = .ok (.invokevirtual 119, 3) := by decide +kernel
theorem dl_952 : decode code 952 = .ok (.pop, 1) := by decide +kernel
theorem dl_953 : decode code 953 = .ok (.goto 515, 3) := by decide +kernel
theorem dl_956 : decode code 956 = .ok (.aload_n 1, 1) := by decide +kernel
theorem dl_957 : decode code 957 = .ok (.aload_n 0, 1) := by decide +kernel
theorem dl_958 : decode code 958 = .ok (.iload 4, 2) := by decide +kernel
theorem dl_960 : decode code 960 = .ok (.iconst 1, 1) := by decide +kernel
theorem dl_961 : decode code 961 = .ok (.iadd, 1) := by decide +kernel
theorem dl_962 : decode code 962 = .ok (.iaload, 1) := by decide +kernel
theorem dl_963 : decode code 963 = .ok (.aload_n 0, 1) := by decide +kernel
theorem dl_964 : decode code 964 = .ok (.iload 4, 2) := by decide +kernel
theorem dl_966 : decode code 966 = .ok (.iconst 2, 1) := by decide +kernel
theorem dl_967 : decode code 967 = .ok (.iadd, 1) := by decide +kernel
theorem dl_968 : decode code 968 = .ok (.iaload, 1) := by decide +kernel
theorem dl_969 : decode code 969 = .ok (.aload_n 0, 1) := by decide +kernel
theorem dl_970 : decode code 970 = .ok (.iload 4, 2) := by decide +kernel
theorem dl_972 : decode code 972 = .ok (.iconst 3, 1) := by decide +kernel
theorem dl_973 : decode code 973 = .ok (.iadd, 1) := by decide +kernel
theorem dl_974 : decode code 974 = .ok (.iaload, 1) := by decide +kernel
theorem dl_975 : decode code 975 = .ok (.invokevirtual 120, 3) := by decide +kernel
theorem dl_978 : decode code 978 = .ok (.pop, 1) := by decide +kernel
theorem dl_979 : decode code 979 = .ok (.aload_n 2, 1) := by decide +kernel
theorem dl_980 : decode code 980 = .ok (.aload_n 0, 1) := by decide +kernel
theorem dl_981 : decode code 981 = .ok (.iload 4, 2) := by decide +kernel
theorem dl_983 : decode code 983 = .ok (.iconst 1, 1) := by decide +kernel
theorem dl_984 : decode code 984 = .ok (.iadd, 1) := by decide +kernel
theorem dl_985 : decode code 985 = .ok (.iaload, 1) := by decide +kernel
theorem dl_986 : decode code 986 = .ok (.aload_n 0, 1) := by decide +kernel
theorem dl_987 : decode code 987 = .ok (.iload 4, 2) := by decide +kernel
theorem dl_989 : decode code 989 = .ok (.iconst 2, 1) := by decide +kernel
theorem dl_990 : decode code 990 = .ok (.iadd, 1) := by decide +kernel
theorem dl_991 : decode code 991 = .ok (.iaload, 1) := by decide +kernel
theorem dl_992 : decode code 992 = .ok (.aload_n 0, 1) := by decide +kernel
theorem dl_993 : decode code 993 = .ok (.iload 4, 2) := by decide +kernel
theorem dl_995 : decode code 995 = .ok (.iconst 3, 1) := by decide +kernel
theorem dl_996 : decode code 996 = .ok (.iadd, 1) := by decide +kernel
theorem dl_997 : decode code 997 = .ok (.iaload, 1) := by decide +kernel
theorem dl_998 : decode code 998 = .ok (.invokevirtual 123, 3) := by decide +kernel
theorem dl_1001 : decode code 1001 = .ok (.pop, 1) := by decide +kernel
theorem dl_1002 : decode code 1002 = .ok (.goto 466, 3) := by decide +kernel
theorem dl_1005 : decode code 1005 = .ok (.aload_n 1, 1) := by decide +kernel
theorem dl_1006 : decode code 1006 = .ok (.aload_n 0, 1) := by decide +kernel
theorem dl_1007 : decode code 1007 = .ok (.iload 4, 2) := by decide +kernel
theorem dl_1009 : decode code 1009 = .ok (.iconst 1, 1) := by decide +kernel
theorem dl_1010 : decode code 1010 = .ok (.iadd, 1) := by decide +kernel
theorem dl_1011 : decode code 1011 = .ok (.iaload, 1) := by decide +kernel
theorem dl_1012 : decode code 1012 = .ok (.aload_n 0, 1) := by decide +kernel
theorem dl_1013 : decode code 1013 = .ok (.iload 4, 2) := by decide +kernel
theorem dl_1015 : decode code 1015 = .ok (.iconst 2, 1) := by decide +kernel
theorem dl_1016 : decode code 1016 = .ok (.iadd, 1) := by decide +kernel
theorem dl_1017 : decode code 1017 = .ok (.iaload, 1) := by decide +kernel
theorem dl_1018 : decode code 1018 = .ok (.invokevirtual 124, 3) := by decide +kernel
theorem dl_1021 : decode code 1021 = .ok (.pop, 1) := by decide +kernel
theorem dl_1022 : decode code 1022 = .ok (.aload_n 2, 1) := by decide +kernel
theorem dl_1023 : decode code 1023 = .ok (.aload_n 0, 1) := by decide +kernel
theorem dl_1024 : decode code 1024 = .ok (.iload 4, 2) := by decide +kernel
theorem dl_1026 : decode code 1026 = .ok (.iconst 1, 1) := by decide +kernel
theorem dl_1027 : decode code 1027 = .ok (.iadd, 1) := by decide +kernel
theorem dl_1028 : decode code 1028 = .ok (.iaload, 1) := by decide +kernel
theorem dl_1029 : decode code 1029 = .ok (.aload_n 0, 1) := by decide +kernel
theorem dl_1030 : decode code 1030 = .ok (.iload 4, 2) := by decide +kernel
theorem dl_1032 : decode code 1032 = .ok (.iconst 2, 1) := by decide +kernel
theorem dl_1033 : decode code 1033 = .ok (.iadd, 1) := by decide +kernel
theorem dl_1034 : decode code 1034 = .ok (.iaload, 1) := by decide +kernel
theorem dl_1035 : decode code 1035 = .ok (.invokevirtual 127, 3) := by decide +kernel
theorem dl_1038 : decode code 1038 = .ok (.pop, 1) := by decide +kernel
theorem dl_1039 : decode code 1039 = .ok (.goto 429, 3) := by decide +kernel
theorem dl_1042 : decode code 1042 = .ok (.aload_n 1, 1) := by decide +kernel
theorem dl_1043 : decode code 1043 = .ok (.aload_n 0, 1) := by decide +kernel
theorem dl_1044 : decode code 1044 = .ok (.iload 4, 2) := by decide +kernel
theorem dl_1046 : decode code 1046 = .ok (.iconst 1, 1) := by decide +kernel
theorem dl_1047 : decode code 1047 = .ok (.iadd, 1) := by decide +kernel
theorem dl_1048 : decode code 1048 = .ok (.iaload, 1) := by decide +kernel
theorem dl_1049 : decode code 1049 = .ok (.aload_n 0, 1) := by decide +kernel
theorem dl_1050 : decode code 1050 = .ok (.iload 4, 2) := by decide +kernel
theorem dl_1052 : decode code 1052 = .ok (.iconst 2, 1) := by decide +kernel
theorem dl_1053 : decode code 1053 = .ok (.iadd, 1) := by decide +kernel
theorem dl_1054 : decode code 1054 = .ok (.iaload, 1) := by decide +kernel
theorem dl_1055 : decode code 1055 = .ok (.invokevirtual 128, 3) := by decide +kernel
theorem dl_1058 : decode code 1058 = .ok (.pop, 1) := by decide +kernel
theorem dl_1059 : decode code 1059 = .ok (.aload_n 2, 1) := by decide +kernel
theorem dl_1060 : decode code 1060 = .ok (.aload_n 0, 1) := by decide +kernel
theorem dl_1061 : decode code 1061 = .ok (.iload 4, 2) := by decide +kernel
theorem dl_1063 : decode code 1063 = .ok (.iconst 1, 1) := by decide +kernel
theorem dl_1064 : decode code 1064 = .ok (.iadd, 1) := by decide +kernel
theorem dl_1065 : decode code 1065 = .ok (.iaload, 1) := by decide +kernel
theorem dl_1066 : decode code 1066 = .ok (.aload_n 0, 1) := by decide +kernel
theorem dl_1067 : decode code 1067 = .ok (.iload 4, 2) := by decide +kernel
theorem dl_1069 : decode code 1069 = .ok (.iconst 2, 1) := by decide +kernel
theorem dl_1070 : decode code 1070 = .ok (.iadd, 1) := by decide +kernel
theorem dl_1071 : decode code 1071 = .ok (.iaload, 1) := by decide +kernel
theorem dl_1072 : decode code 1072 = .ok (.invokevirtual 131, 3) := by decide +kernel
theorem dl_1075 : decode code 1075 = .ok (.pop, 1) := by decide +kernel
theorem dl_1076 : decode code 1076 = .ok (.goto 392, 3) := by decide +kernel
theorem dl_1079 : decode code 1079 = .ok (.aload_n 1, 1) := by decide +kernel
theorem dl_1080 : decode code 1080 = .ok (.aload_n 0, 1) := by decide +kernel
theorem dl_1081 : decode code 1081 = .ok (.iload 4, 2) := by decide +kernel
theorem dl_1083 : decode code 1083 = .ok (.iconst 1, 1) := by decide +kernel
theorem dl_1084 : decode code 1084 = .ok (.iadd, 1) := by decide +kernel
theorem dl_1085 : decode code 1085 = .ok (.iaload, 1) := by decide +kernel
theorem dl_1086 : decode code 1086 = .ok (.invokevirtual 132, 3) := by decide +kernel
theorem dl_1089 : decode code 1089 = .ok (.pop, 1) := by decide +kernel
theorem dl_1090 : decode code 1090 = .ok (.aload_n 2, 1) := by decide +kernel
theorem dl_1091 : decode code 1091 = .ok (.aload_n 0, 1) := by decide +kernel
theorem dl_1092 : decode code 1092 = .ok (.iload 4, 2) := by decide +kernel
theorem dl_1094 : decode code 1094 = .ok (.iconst 1, 1) := by decide +kernel
theorem dl_1095 : decode code 1095 = .ok (.iadd, 1) := by decide +kernel
theorem dl_1096 : decode code 1096 = .ok (.iaload, 1) := by decide +kernel
theorem dl_1097 : decode code 1097 = .ok (.invokevirtual 135, 3) := by decide +kernel
theorem dl_1100 : decode code 1100 = .ok (.pop, 1) := by decide +kernel
theorem dl_1101 : decode code 1101 = .ok (.goto 367, 3) := by decide +kernel
theorem dl_1104 : decode code 1104 = .ok (.aload_n 1, 1) := by decide +kernel
theorem dl_1105 : decode code 1105 = .ok (.aload_n 0, 1) := by decide +kernel
theorem dl_1106 : decode code 1106 = .ok (.iload 4, 2) := by decide +kernel
theorem dl_1108 : decode code 1108 = .ok (.iconst 1, 1) := by decide +kernel
theorem dl_1109 : decode code 1109 = .ok (.iadd, 1) := by decide +kernel
theorem dl_1110 : decode code 1110 = .ok (.iaload, 1) := by decide +kernel
theorem dl_1111 : decode code 1111 = .ok (.aload_n 0, 1) := by decide +kernel
theorem dl_1112 : decode code 1112 = .ok (.iload 4, 2) := by decide +kernel
theorem dl_1114 : decode code 1114 = .ok (.iconst 2, 1) := by decide +kernel
theorem dl_1115 : decode code 1115 = .ok (.iadd, 1) := by decide +kernel
theorem dl_1116 : decode code 1116 = .ok (.iaload, 1) := by decide +kernel
theorem dl_1117 : decode code 1117 = .ok (.invokevirtual 136, 3) := by decide +kernel
theorem dl_1120 : decode code 1120 = .ok (.pop, 1) := by decide +kernel
theorem dl_1121 : decode code 1121 = .ok (.aload_n 2, 1) := by decide +kernel
theorem dl_1122 : decode code 1122 = .ok (.aload_n 0, 1) := by decide +kernel
theorem dl_1123 : decode code 1123 = .ok (.iload 4, 2) := by decide +kernel
theorem dl_1125 : decode code 1125 = .ok (.iconst 1, 1) := by decide +kernel
theorem dl_1126 : decode code 1126 = .ok (.iadd, 1) := by decide +kernel
theorem dl_1127 : decode code 1127 = .ok (.iaload, 1) := by decide +kernel
theorem dl_1128 : decode code 1128 = .ok (.aload_n 0, 1) := by decide +kernel
theorem dl_1129 : decode code 1129 = .ok (.iload 4, 2) := by decide +kernel
theorem dl_1131 : decode code 1131 = .ok (.iconst 2, 1) := by decide +kernel
theorem dl_1132 : decode code 1132 = .ok (.iadd, 1) := by decide +kernel
theorem dl_1133 : decode code 1133 = .ok (.iaload, 1) := by decide +kernel
theorem dl_1134 : decode code 1134 = .ok (.invokevirtual 139, 3) := by decide +kernel
theorem dl_1137 : decode code 1137 = .ok (.pop, 1) := by decide +kernel
theorem dl_1138 : decode code 1138 = .ok (.goto 330, 3) := by decide +kernel
theorem dl_1141 : decode code 1141 = .ok (.aload_n 1, 1) := by decide +kernel
theorem dl_1142 : decode code 1142 = .ok (.aload_n 0, 1) := by decide +kernel
theorem dl_1143 : decode code 1143 = .ok (.iload 4, 2) := by decide +kernel
theorem dl_1145 : decode code 1145 = .ok (.iconst 1, 1) := by decide +kernel
theorem dl_1146 : decode code 1146 = .ok (.iadd, 1) := by decide +kernel
theorem dl_1147 : decode code 1147 = .ok (.iaload, 1) := by decide +kernel
theorem dl_1148 : decode code 1148 = .ok (.aload_n 0, 1) := by decide +kernel
theorem dl_1149 : decode code 1149 = .ok (.iload 4, 2) := by decide +kernel
theorem dl_1151 : decode code 1151 = .ok (.iconst 2, 1) := by decide +kernel
theorem dl_1152 : decode code 1152 = .ok (.iadd, 1) := by decide +kernel
theorem dl_1153 : decode code 1153 = .ok (.iaload, 1) := by decide +kernel
theorem dl_1154 : decode code 1154 = .ok (.invokevirtual 140, 3) := by decide +kernel
theorem dl_1157 : decode code 1157 = .ok (.pop, 1) := by decide +kernel
theorem dl_1158 : decode code 1158 = .ok (.aload_n 2, 1) := by decide +kernel
theorem dl_1159 : decode code 1159 = .ok (.aload_n 0, 1) := by decide +kernel
theorem dl_1160 : decode code 1160 = .ok (.iload 4, 2) := by decide +kernel
theorem dl_1162 : decode code 1162 = .ok (.iconst 1, 1) := by decide +kernel
theorem dl_1163 : decode code 1163 = .ok (.iadd, 1) := by decide +kernel
theorem dl_1164 : decode code 1164 = .ok (.iaload, 1) := by decide +kernel
theorem dl_1165 : decode code 1165 = .ok (.aload_n 0, 1) := by decide +kernel
theorem dl_1166 : decode code 1166 = .ok (.iload 4, 2) := by decide +kernel
theorem dl_1168 : decode code 1168 = .ok (.iconst 2, 1) := by decide +kernel
theorem dl_1169 : decode code 1169 = .ok (.iadd, 1) := by decide +kernel
theorem dl_1170 : decode code 1170 = .ok (.iaload, 1) := by decide +kernel
theorem dl_1171 : decode code 1171 = .ok (.invokevirtual 143, 3) := by decide +kernel
theorem dl_1174 : decode code 1174 = .ok (.pop, 1) := by decide +kernel
theorem dl_1175 : decode code 1175 = .ok (.goto 293, 3) := by decide +kernel
theorem dl_1178 : decode code 1178 = .ok (.aload_n 1, 1) := by decide +kernel
theorem dl_1179 : decode code 1179 = .ok (.invokevirtual 144, 3) := by decide +kernel
theorem dl_1182 : decode code 1182 = .ok (.pop, 1) := by decide +kernel
theorem dl_1183 : decode code 1183 = .ok (.aload_n 2, 1) := by decide +kernel
theorem dl_1184 : decode code 1184 = .ok (.invokevirtual 147, 3) := by decide +kernel
theorem dl_1187 : decode code 1187 = .ok (.pop, 1) := by decide +kernel
theorem dl_1188 : decode code 1188 = .ok (.goto 280, 3) := by decide +kernel
theorem dl_1191 : decode code 1191 = .ok (.aload_n 1, 1) := by decide +kernel
theorem dl_1192 : decode code 1192 = .ok (.aload_n 0, 1) := by decide +kernel
theorem dl_1193 : decode code 1193 = .ok (.iload 4, 2) := by decide +kernel
theorem dl_1195 : decode code 1195 = .ok (.iconst 1, 1) := by decide +kernel
theorem dl_1196 : decode code 1196 = .ok (.iadd, 1) := by decide +kernel
theorem dl_1197 : decode code 1197 = .ok (.iaload, 1) := by decide +kernel
theorem dl_1198 : decode code 1198 = .ok (.invokevirtual 148, 3) := by decide +kernel
theorem dl_1201 : decode code 1201 = .ok (.pop, 1) := by decide +kernel
theorem dl_1202 : decode code 1202 = .ok (.aload_n 2, 1) := by decide +kernel
theorem dl_1203 : decode code 1203 = .ok (.aload_n 0, 1) := by decide +kernel
theorem dl_1204 : decode code 1204 = .ok (.iload 4, 2) := by decide +kernel
theorem dl_1206 : decode code 1206 = .ok (.iconst 1, 1) := by decide +kernel
theorem dl_1207 : decode code 1207 = .ok (.iadd, 1) := by decide +kernel
theorem dl_1208 : decode code 1208 = .ok (.iaload, 1) := by decide +kernel
theorem dl_1209 : decode code 1209 = .ok (.invokevirtual 151, 3) := by decide +kernel
theorem dl_1212 : decode code 1212 = .ok (.pop, 1) := by decide +kernel
theorem dl_1213 : decode code 1213 = .ok (.goto 255, 3) := by decide +kernel
theorem dl_1216 : decode code 1216 = .ok (.aload_n 1, 1) := by decide +kernel
theorem dl_1217 : decode code 1217 = .ok (.aload_n 0, 1) := by decide +kernel
theorem dl_1218 : decode code 1218 = .ok (.iload 4, 2) := by decide +kernel
theorem dl_1220 : decode code 1220 = .ok (.iconst 1, 1) := by decide +kernel
theorem dl_1221 : decode code 1221 = .ok (.iadd, 1) := by decide +kernel
theorem dl_1222 : decode code 1222 = .ok (.iaload, 1) := by decide +kernel
theorem dl_1223 : decode code 1223 = .ok (.invokevirtual 152, 3) := by decide +kernel
theorem dl_1226 : decode code 1226 = .ok (.pop, 1) := by decide +kernel
theorem dl_1227 : decode code 1227 = .ok (.aload_n 2, 1) := by decide +kernel
theorem dl_1228 : decode code 1228 = .ok (.aload_n 0, 1) := by decide +kernel
theorem dl_1229 : decode code 1229 = .ok (.iload 4, 2) := by decide +kernel
theorem dl_1231 : decode code 1231 = .ok (.iconst 1, 1) := by decide +kernel
theorem dl_1232 : decode code 1232 = .ok (.iadd, 1) := by decide +kernel
theorem dl_1233 : decode code 1233 = .ok (.iaload, 1) := by decide +kernel
theorem dl_1234 : decode code 1234 = .ok (.invokevirtual 155, 3) := by decide +kernel
theorem dl_1237 : decode code 1237 = .ok (.pop, 1) := by decide +kernel
theorem dl_1238 : decode code 1238 = .ok (.goto 230, 3) := by decide +kernel
theorem dl_1241 : decode code 1241 = .ok (.aload_n 1, 1) := by decide +kernel
theorem dl_1242 : decode code 1242 = .ok (.aload_n 0, 1) := by decide +kernel
theorem dl_1243 : decode code 1243 = .ok (.iload 4, 2) := by decide +kernel
theorem dl_1245 : decode code 1245 = .ok (.iconst 1, 1) := by decide +kernel
theorem dl_1246 : decode code 1246 = .ok (.iadd, 1) := by decide +kernel
theorem dl_1247 : decode code 1247 = .ok (.iaload, 1) := by decide +kernel
theorem dl_1248 : decode code 1248 = .ok (.aload_n 0, 1) := by decide +kernel
theorem dl_1249 : decode code 1249 = .ok (.iload 4, 2) := by decide +kernel
theorem dl_1251 : decode code 1251 = .ok (.iconst 2, 1) := by decide +kernel
theorem dl_1252 : decode code 1252 = .ok (.iadd, 1) := by decide +kernel
theorem dl_1253 : decode code 1253 = .ok (.iaload, 1) := by decide +kernel
theorem dl_1254 : decode code 1254 = .ok (.aload_n 0, 1) := by decide +kernel
theorem dl_1255 : decode code 1255 = .ok (.iload 4, 2) := by decide +kernel
theorem dl_1257 : decode code 1257 = .ok (.iconst 3, 1) := by decide +kernel
theorem dl_1258 : decode code 1258 = .ok (.iadd, 1) := by decide +kernel
theorem dl_1259 : decode code 1259 = .ok (.iaload, 1) := by decide +kernel
theorem dl_1260 : decode code 1260 = .ok (.invokevirtual 156, 3) := by decide +kernel
theorem dl_1263 : decode code 1263 = .ok (.pop, 1) := by decide +kernel
theorem dl_1264 : decode code 1264 = .ok (.aload_n 2, 1) := by decide +kernel
theorem dl_1265 : decode code 1265 = .ok (.aload_n 0, 1) := by decide +kernel
theorem dl_1266 : decode code 1266 = .ok (.iload 4, 2) := by decide +kernel
theorem dl_1268 : decode code 1268 = .ok (.iconst 1, 1) := by decide +kernel
theorem dl_1269 : decode code 1269 = .ok (.iadd, 1) := by decide +kernel
theorem dl_1270 : decode code 1270 = .ok (.iaload, 1) := by decide +kernel
theorem dl_1271 : decode code 1271 = .ok (.aload_n 0, 1) := by decide +kernel
theorem dl_1272 : decode code 1272 = .ok (.iload 4, 2) := by decide +kernel
theorem dl_1274 : decode code 1274 = .ok (.iconst 2, 1) := by decide +kernel
theorem dl_1275 : decode code 1275 = .ok (.iadd, 1) := by decide +kernel
theorem dl_1276 : decode code 1276 = .ok (.iaload, 1) := by decide +kernel
theorem dl_1277 : decode code 1277 = .ok (.aload_n 0, 1) := by decide +kernel
theorem dl_1278 : decode code 1278 = .ok (.iload 4, 2) := by decide +kernel
theorem dl_1280 : decode code 1280 = .ok (.iconst 3, 1) := by decide +kernel
theorem dl_1281 : decode code 1281 = .ok (.iadd, 1) := by decide +kernel
theorem dl_1282 : decode code 1282 = .ok (.iaload, 1) := by decide +kernel
theorem dl_1283 : decode code 1283 = .ok (.invokevirtual 159, 3) := by decide +kernel
theorem dl_1286 : decode code 1286 = .ok (.pop, 1) := by decide +kernel
theorem dl_1287 : decode code 1287 = .ok (.goto 181, 3) := by decide +kernel
theorem dl_1290 : decode code 1290 = .ok (.aload_n 1, 1) := by decide +kernel
theorem dl_1291 : decode code 1291 = .ok (.aload_n 0, 1) := by decide +kernel
theorem dl_1292 : decode code 1292 = .ok (.iload 4, 2) := by decide +kernel
theorem dl_1294 : decode code 1294 = .ok (.iconst 1, 1) := by decide +kernel
theorem dl_1295 : decode code 1295 = .ok (.iadd, 1) := by decide +kernel
theorem dl_1296 : decode code 1296 = .ok (.iaload, 1) := by decide +kernel
theorem dl_1297 : decode code 1297 = .ok (.invokevirtual 160, 3) := by decide +kernel
theorem dl_1300 : decode code 1300 = .ok (.pop, 1) := by decide +kernel
theorem dl_1301 : decode code 1301 = .ok (.aload_n 2, 1) := by decide +kernel
theorem dl_1302 : decode code 1302 = .ok (.aload_n 0, 1) := by decide +kernel
theorem dl_1303 : decode code 1303 = .ok (.iload 4, 2) := by decide +kernel
theorem dl_1305 : decode code 1305 = .ok (.iconst 1, 1) := by decide +kernel
theorem dl_1306 : decode code 1306 = .ok (.iadd, 1) := by decide +kernel
theorem dl_1307 : decode code 1307 = .ok (.iaload, 1) := by decide +kernel
theorem dl_1308 : decode code 1308 = .ok (.invokevirtual 163, 3) := by decide +kernel
theorem dl_1311 : decode code 1311 = .ok (.pop, 1) := by decide +kernel
theorem dl_1312 : decode code 1312 = .ok (.goto 156, 3) := by decide +kernel
theorem dl_1315 : decode code 1315 = .ok (.aload_n 1, 1) := by decide +kernel
theorem dl_1316 : decode code 1316 = .ok (.invokevirtual 164, 3) := by decide +kernel
theorem dl_1319 : decode code 1319 = .ok (.pop, 1) := by decide +kernel
theorem dl_1320 : decode code 1320 = .ok (.aload_n 2, 1) := by decide +kernel
theorem dl_1321 : decode code 1321 = .ok (.invokevirtual 167, 3) := by decide +kernel
theorem dl_1324 : decode code 1324 = .ok (.pop, 1) := by decide +kernel
theorem dl_1325 : decode code 1325 = .ok (.goto 143, 3) := by decide +kernel
theorem dl_1328 : decode code 1328 = .ok (.aload_n 1, 1) := by decide +kernel
theorem dl_1329 : decode code 1329 = .ok (.aload_n 0, 1) := by decide +kernel
theorem dl_1330 : decode code 1330 = .ok (.iload 4, 2) := by decide +kernel
theorem dl_1332 : decode code 1332 = .ok (.iconst 1, 1) := by decide +kernel
theorem dl_1333 : decode code 1333 = .ok (.iadd, 1) := by decide +kernel
theorem dl_1334 : decode code 1334 = .ok (.iaload, 1) := by decide +kernel
theorem dl_1335 : decode code 1335 = .ok (.aload_n 0, 1) := by decide +kernel
theorem dl_1336 : decode code 1336 = .ok (.iload 4, 2) := by decide +kernel
theorem dl_1338 : decode code 1338 = .ok (.iconst 2, 1) := by decide +kernel
theorem dl_1339 : decode code 1339 = .ok (.iadd, 1) := by decide +kernel
theorem dl_1340 : decode code 1340 = .ok (.iaload, 1) := by decide +kernel
theorem dl_1341 : decode code 1341 = .ok (.invokevirtual 168, 3) := by decide +kernel
theorem dl_1344 : decode code 1344 = .ok (.pop, 1) := by decide +kernel
theorem dl_1345 : decode code 1345 = .ok (.aload_n 2, 1) := by decide +kernel
theorem dl_1346 : decode code 1346 = .ok (.aload_n 0, 1) := by decide +kernel
theorem dl_1347 : decode code 1347 = .ok (.iload 4, 2) := by decide +kernel
theorem dl_1349 : decode code 1349 = .ok (.iconst 1, 1) := by decide +kernel
theorem dl_1350 : decode code 1350 = .ok (.iadd, 1) := by decide +kernel
theorem dl_1351 : decode code 1351 = .ok (.iaload, 1) := by decide +kernel
theorem dl_1352 : decode code 1352 = .ok (.aload_n 0, 1) := by decide +kernel
theorem dl_1353 : decode code 1353 = .ok (.iload 4, 2) := by decide +kernel
theorem dl_1355 : decode code 1355 = .ok (.iconst 2, 1) := by decide +kernel
theorem dl_1356 : decode code 1356 = .ok (.iadd, 1) := by decide +kernel
theorem dl_1357 : decode code 1357 = .ok (.iaload, 1) := by decide +kernel
theorem dl_1358 : decode code 1358 = .ok (.invokevirtual 171, 3) := by decide +kernel
theorem dl_1361 : decode code 1361 = .ok (.pop, 1) := by decide +kernel
theorem dl_1362 : decode code 1362 = .ok (.goto 106, 3) := by decide +kernel
theorem dl_1365 : decode code 1365 = .ok (.aload_n 1, 1) := by decide +kernel
theorem dl_1366 : decode code 1366 = .ok (.aload_n 0, 1) := by decide +kernel
theorem dl_1367 : decode code 1367 = .ok (.iload 4, 2) := by decide +kernel
theorem dl_1369 : decode code 1369 = .ok (.iconst 1, 1) := by decide +kernel
theorem dl_1370 : decode code 1370 = .ok (.iadd, 1) := by decide +kernel
theorem dl_1371 : decode code 1371 = .ok (.iaload, 1) := by decide +kernel
theorem dl_1372 : decode code 1372 = .ok (.invokevirtual 172, 3) := by decide +kernel
theorem dl_1375 : decode code 1375 = .ok (.pop, 1) := by decide +kernel
theorem dl_1376 : decode code 1376 = .ok (.aload_n 2, 1) := by decide +kernel
theorem dl_1377 : decode code 1377 = .ok (.aload_n 0, 1) := by decide +kernel
theorem dl_1378 : decode code 1378 = .ok (.iload 4, 2) := by decide +kernel
theorem dl_1380 : decode code 1380 = .ok (.iconst 1, 1) := by decide +kernel
theorem dl_1381 : decode code 1381 = .ok (.iadd, 1) := by decide +kernel
theorem dl_1382 : decode code 1382 = .ok (.iaload, 1) := by decide +kernel
theorem dl_1383 : decode code 1383 = .ok (.invokevirtual 175, 3) := by decide +kernel
theorem dl_1386 : decode code 1386 = .ok (.pop, 1) := by decide +kernel
theorem dl_1387 : decode code 1387 = .ok (.goto 81, 3) := by decide +kernel
theorem dl_1390 : decode code 1390 = .ok (.aload_n 1, 1) := by decide +kernel
theorem dl_1391 : decode code 1391 = .ok (.aload_n 0, 1) := by decide +kernel
theorem dl_1392 : decode code 1392 = .ok (.iload 4, 2) := by decide +kernel
theorem dl_1394 : decode code 1394 = .ok (.iconst 1, 1) := by decide +kernel
theorem dl_1395 : decode code 1395 = .ok (.iadd, 1) := by decide +kernel
theorem dl_1396 : decode code 1396 = .ok (.iaload, 1) := by decide +kernel
theorem dl_1397 : decode code 1397 = .ok (.invokevirtual 176, 3) := by decide +kernel
theorem dl_1400 : decode code 1400 = .ok (.pop, 1) := by decide +kernel
theorem dl_1401 : decode code 1401 = .ok (.aload_n 2, 1) := by decide +kernel
theorem dl_1402 : decode code 1402 = .ok (.aload_n 0, 1) := by decide +kernel
theorem dl_1403 : decode code 1403 = .ok (.iload 4, 2) := by decide +kernel
theorem dl_1405 : decode code 1405 = .ok (.iconst 1, 1) := by decide +kernel
theorem dl_1406 : decode code 1406 = .ok (.iadd, 1) := by decide +kernel
theorem dl_1407 : decode code 1407 = .ok (.iaload, 1) := by decide +kernel
theorem dl_1408 : decode code 1408 = .ok (.invokevirtual 179, 3) := by decide +kernel
theorem dl_1411 : decode code 1411 = .ok (.pop, 1) := by decide +kernel
theorem dl_1412 : decode code 1412 = .ok (.goto 56, 3) := by decide +kernel
theorem dl_1415 : decode code 1415 = .ok (.aload_n 1, 1) := by decide +kernel
theorem dl_1416 : decode code 1416 = .ok (.aload_n 0, 1) := by decide +kernel
theorem dl_1417 : decode code 1417 = .ok (.iload 4, 2) := by decide +kernel
theorem dl_1419 : decode code 1419 = .ok (.iconst 1, 1) := by decide +kernel
theorem dl_1420 : decode code 1420 = .ok (.iadd, 1) := by decide +kernel
theorem dl_1421 : decode code 1421 = .ok (.iaload, 1) := by decide +kernel
theorem dl_1422 : decode code 1422 = .ok (.invokevirtual 180, 3) := by decide +kernel
theorem dl_1425 : decode code 1425 = .ok (.pop, 1) := by decide +kernel
theorem dl_1426 : decode code 1426 = .ok (.aload_n 2, 1) := by decide +kernel
theorem dl_1427 : decode code 1427 = .ok (.aload_n 0, 1) := by decide +kernel
theorem dl_1428 : decode code 1428 = .ok (.iload 4, 2) := by decide +kernel
theorem dl_1430 : decode code 1430 = .ok (.iconst 1, 1) := by decide +kernel
theorem dl_1431 : decode code 1431 = .ok (.iadd, 1) := by decide +kernel
theorem dl_1432 : decode code 1432 = .ok (.iaload, 1) := by decide +kernel
theorem dl_1433 : decode code 1433 = .ok (.invokevirtual 183, 3) := by decide +kernel
theorem dl_1436 : decode code 1436 = .ok (.pop, 1) := by decide +kernel
theorem dl_1437 : decode code 1437 = .ok (.goto 31, 3) := by decide +kernel
theorem dl_1440 : decode code 1440 = .ok (.aload_n 1, 1) := by decide +kernel
theorem dl_1441 : decode code 1441 = .ok (.aload_n 0, 1) := by decide +kernel
theorem dl_1442 : decode code 1442 = .ok (.iload 4, 2) := by decide +kernel
theorem dl_1444 : decode code 1444 = .ok (.iconst 1, 1) := by decide +kernel
theorem dl_1445 : decode code 1445 = .ok (.iadd, 1) := by decide +kernel
theorem dl_1446 : decode code 1446 = .ok (.iaload, 1) := by decide +kernel
theorem dl_1447 : decode code 1447 = .ok (.aload_n 3, 1) := by decide +kernel
theorem dl_1448 : decode code 1448 = .ok (.invokestatic 184, 3) := by decide +kernel
theorem dl_1451 : decode code 1451 = .ok (.istore 5, 2) := by decide +kernel
theorem dl_1453 : decode code 1453 = .ok (.aload_n 2, 1) := by decide +kernel
theorem dl_1454 : decode code 1454 = .ok (.aload_n 0, 1) := by decide +kernel
theorem dl_1455 : decode code 1455 = .ok (.iload 4, 2) := by decide +kernel
theorem dl_1457 : decode code 1457 = .ok (.iconst 1, 1) := by decide +kernel
theorem dl_1458 : decode code 1458 = .ok (.iadd, 1) := by decide +kernel
theorem dl_1459 : decode code 1459 = .ok (.iaload, 1) := by decide +kernel
theorem dl_1460 : decode code 1460 = .ok (.invokevirtual 187, 3) := by decide +kernel
theorem dl_1463 : decode code 1463 = .ok (.lstore 6, 2) := by decide +kernel
theorem dl_1465 : decode code 1465 = .ok (.goto 3, 3) := by decide +kernel
theorem dl_1468 : decode code 1468 = .ok (.iinc 4 5, 3) := by decide +kernel
theorem dl_1471 : decode code 1471 = .ok (.goto (-1448), 3) := by decide +kernel
theorem dl_1474 : decode code 1474 = .ok (.iconst 1, 1) := by decide +kernel
theorem dl_1475 : decode code 1475 = .ok (.ireturn, 1) := by decide +kernel
