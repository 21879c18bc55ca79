/-! THE LAW: its instructions -/
theorem dL_0 : decode code 0 = .ok (.new 8, 3) := by decide +kernel
theorem dL_3 : decode code 3 = .ok (.dup, 1) := by decide +kernel
theorem dL_4 : decode code 4 = .ok (.invokespecial 15, 3) := by decide +kernel
theorem dL_7 : decode code 7 = .ok (.astore_n 1, 1) := by decide +kernel
theorem dL_8 : decode code 8 = .ok (.new 16, 3) := by decide +kernel
theorem dL_11 : decode code 11 = .ok (.dup, 1) := by decide +kernel
theorem dL_12 : decode code 12 = .ok (.invokespecial 18, 3) := by decide +kernel
theorem dL_15 : decode code 15 = .ok (.astore_n 2, 1) := by decide +kernel
theorem dL_16 : decode code 16 = .ok (.iconst 1, 1) := by decide +kernel
theorem dL_17 : decode code 17 = .ok (.newarray .long, 2) := by decide +kernel
theorem dL_19 : decode code 19 = .ok (.astore_n 3, 1) := by decide +kernel
theorem dL_20 : decode code 20 = .ok (.iconst 0, 1) := by decide +kernel
theorem dL_21 : decode code 21 = .ok (.istore 4, 2) := by decide +kernel
theorem dL_23 : decode code 23 = .ok (.iload 4, 2) := by decide +kernel
theorem dL_25 : decode code 25 = .ok (.aload_n 0, 1) := by decide +kernel
theorem dL_26 : decode code 26 = .ok (.arraylength, 1) := by decide +kernel
theorem dL_27 : decode code 27 = .ok (.bipush 7, 2) := by decide +kernel
theorem dL_29 : decode code 29 = .ok (.isub, 1) := by decide +kernel
theorem dL_30 : decode code 30 = .ok (.if_icmp .gt 1669, 3) := by decide +kernel
theorem dL_33 : decode code 33 = .ok (.aload_n 0, 1) := by decide +kernel
theorem dL_34 : decode code 34 = .ok (.iload 4, 2) := by decide +kernel
theorem dL_36 : decode code 36 = .ok (.iaload, 1) := by decide +kernel
theorem dL_37 : decode code 37 = .ok (.bipush 63, 2) := by decide +kernel
theorem dL_39 : decode code 39 = .ok (.iand, 1) := by decide +kernel
theorem dL_40 : decode code 40 = .ok (.tableswitch 1653 0 43 #[192, 265, 290, 315, 340, 365, 402, 470, 495, 508, 533, 558, 583, 608, 621, 634, 659, 696, 765, 790, 803, 840, 905, 930, 955, 980, 1029, 1116, 1177, 1226, 1263, 1300, 1313, 1338, 1403, 1440, 1465, 1502, 1551, 1576, 1589, 1602, 1615, 1628], 192) := by decide +kernel
theorem dL_232 : decode code 232 = .ok (.aload_n 1, 1) := by decide +kernel
theorem dL_233 : decode code 233 = .ok (.aload_n 0, 1) := by decide +kernel
theorem dL_234 : decode code 234 = .ok (.iload 4, 2) := by decide +kernel
theorem dL_236 : decode code 236 = .ok (.iconst 1, 1) := by decide +kernel
theorem dL_237 : decode code 237 = .ok (.iadd, 1) := by decide +kernel
theorem dL_238 : decode code 238 = .ok (.iaload, 1) := by decide +kernel
theorem dL_239 : decode code 239 = .ok (.aload_n 0, 1) := by decide +kernel
theorem dL_240 : decode code 240 = .ok (.iload 4, 2) := by decide +kernel
theorem dL_242 : decode code 242 = .ok (.iconst 2, 1) := by decide +kernel
theorem dL_243 : decode code 243 = .ok (.iadd, 1) := by decide +kernel
theorem dL_244 : decode code 244 = .ok (.iaload, 1) := by decide +kernel
theorem dL_245 : decode code 245 = .ok (.aload_n 0, 1) := by decide +kernel
theorem dL_246 : decode code 246 = .ok (.iload 4, 2) := by decide +kernel
theorem dL_248 : decode code 248 = .ok (.iconst 3, 1) := by decide +kernel
theorem dL_249 : decode code 249 = .ok (.iadd, 1) := by decide +kernel
theorem dL_250 : decode code 250 = .ok (.iaload, 1) := by decide +kernel
theorem dL_251 : decode code 251 = .ok (.aload_n 0, 1) := by decide +kernel
theorem dL_252 : decode code 252 = .ok (.iload 4, 2) := by decide +kernel
theorem dL_254 : decode code 254 = .ok (.iconst 4, 1) := by decide +kernel
theorem dL_255 : decode code 255 = .ok (.iadd, 1) := by decide +kernel
theorem dL_256 : decode code 256 = .ok (.iaload, 1) := by decide +kernel
theorem dL_257 : decode code 257 = .ok (.aload_n 0, 1) := by decide +kernel
theorem dL_258 : decode code 258 = .ok (.iload 4, 2) := by decide +kernel
theorem dL_260 : decode code 260 = .ok (.iconst 5, 1) := by decide +kernel
theorem dL_261 : decode code 261 = .ok (.iadd, 1) := by decide +kernel
theorem dL_262 : decode code 262 = .ok (.iaload, 1) := by decide +kernel
theorem dL_263 : decode code 263 = .ok (.invokevirtual 19, 3) := by decide +kernel
theorem dL_266 : decode code 266 = .ok (.aload_n 2, 1) := by decide +kernel
theorem dL_267 : decode code 267 = .ok (.aload_n 0, 1) := by decide +kernel
theorem dL_268 : decode code 268 = .ok (.iload 4, 2) := by decide +kernel
theorem dL_270 : decode code 270 = .ok (.iconst 1, 1) := by decide +kernel
theorem dL_271 : decode code 271 = .ok (.iadd, 1) := by decide +kernel
theorem dL_272 : decode code 272 = .ok (.iaload, 1) := by decide +kernel
theorem dL_273 : decode code 273 = .ok (.aload_n 0, 1) := by decide +kernel
theorem dL_274 : decode code 274 = .ok (.iload 4, 2) := by decide +kernel
theorem dL_276 : decode code 276 = .ok (.iconst 2, 1) := by decide +kernel
theorem dL_277 : decode code 277 = .ok (.iadd, 1) := by decide +kernel
theorem dL_278 : decode code 278 = .ok (.iaload, 1) := by decide +kernel
theorem dL_279 : decode code 279 = .ok (.aload_n 0, 1) := by decide +kernel
theorem dL_280 : decode code 280 = .ok (.iload 4, 2) := by decide +kernel
theorem dL_282 : decode code 282 = .ok (.iconst 3, 1) := by decide +kernel
theorem dL_283 : decode code 283 = .ok (.iadd, 1) := by decide +kernel
theorem dL_284 : decode code 284 = .ok (.iaload, 1) := by decide +kernel
theorem dL_285 : decode code 285 = .ok (.aload_n 0, 1) := by decide +kernel
theorem dL_286 : decode code 286 = .ok (.iload 4, 2) := by decide +kernel
theorem dL_288 : decode code 288 = .ok (.iconst 4, 1) := by decide +kernel
theorem dL_289 : decode code 289 = .ok (.iadd, 1) := by decide +kernel
theorem dL_290 : decode code 290 = .ok (.iaload, 1) := by decide +kernel
theorem dL_291 : decode code 291 = .ok (.aload_n 0, 1) := by decide +kernel
theorem dL_292 : decode code 292 = .ok (.iload 4, 2) := by decide +kernel
theorem dL_294 : decode code 294 = .ok (.iconst 5, 1) := by decide +kernel
theorem dL_295 : decode code 295 = .ok (.iadd, 1) := by decide +kernel
theorem dL_296 : decode code 296 = .ok (.iaload, 1) := by decide +kernel
theorem dL_297 : decode code 297 = .ok (.invokevirtual 23, 3) := by decide +kernel
theorem dL_300 : decode code 300 = .ok (.if_icmp .eq 1393, 3) := by decide +kernel
theorem dL_303 : decode code 303 = .ok (.iconst 0, 1) := by decide +kernel
theorem dL_304 : decode code 304 = .ok (.ireturn, 1) := by decide +kernel
theorem dL_305 : decode code 305 = .ok (.aload_n 1, 1) := by decide +kernel
theorem dL_306 : decode code 306 = .ok (.aload_n 0, 1) := by decide +kernel
theorem dL_307 : decode code 307 = .ok (.iload 4, 2) := by decide +kernel
theorem dL_309 : decode code 309 = .ok (.iconst 1, 1) := by decide +kernel
theorem dL_310 : decode code 310 = .ok (.iadd, 1) := by decide +kernel
theorem dL_311 : decode code 311 = .ok (.iaload, 1) := by decide +kernel
theorem dL_312 : decode code 312 = .ok (.invokevirtual 24, 3) := by decide +kernel
theorem dL_315 : decode code 315 = .ok (.aload_n 2, 1) := by decide +kernel
theorem dL_316 : decode code 316 = .ok (.aload_n 0, 1) := by decide +kernel
theorem dL_317 : decode code 317 = .ok (.iload 4, 2) := by decide +kernel
theorem dL_319 : decode code 319 = .ok (.iconst 1, 1) := by decide +kernel
theorem dL_320 : decode code 320 = .ok (.iadd, 1) := by decide +kernel
theorem dL_321 : decode code 321 = .ok (.iaload, 1) := by decide +kernel
theorem dL_322 : decode code 322 = .ok (.invokevirtual 28, 3) := by decide +kernel
theorem dL_325 : decode code 325 = .ok (.if_icmp .eq 1368, 3) := by decide +kernel
theorem dL_328 : decode code 328 = .ok (.iconst 0, 1) := by decide +kernel
theorem dL_329 : decode code 329 = .ok (.ireturn, 1) := by decide +kernel
theorem dL_330 : decode code 330 = .ok (.aload_n 1, 1) := by decide +kernel
theorem dL_331 : decode code 331 = .ok (.aload_n 0, 1) := by decide +kernel
theorem dL_332 : decode code 332 = .ok (.iload 4, 2) := by decide +kernel
theorem dL_334 : decode code 334 = .ok (.iconst 1, 1) := by decide +kernel
theorem dL_335 : decode code 335 = .ok (.iadd, 1) := by decide +kernel
theorem dL_336 : decode code 336 = .ok (.iaload, 1) := by decide +kernel
theorem dL_337 : decode code 337 = .ok (.invokevirtual 29, 3) := by decide +kernel
theorem dL_340 : decode code 340 = .ok (.aload_n 2, 1) := by decide +kernel
theorem dL_341 : decode code 341 = .ok (.aload_n 0, 1) := by decide +kernel
theorem dL_342 : decode code 342 = .ok (.iload 4, 2) := by decide +kernel
theorem dL_344 : decode code 344 = .ok (.iconst 1, 1) := by decide +kernel
theorem dL_345 : decode code 345 = .ok (.iadd, 1) := by decide +kernel
theorem dL_346 : decode code 346 = .ok (.iaload, 1) := by decide +kernel
theorem dL_347 : decode code 347 = .ok (.invokevirtual 33, 3) := by decide +kernel
theorem dL_350 : decode code 350 = .ok (.if_icmp .eq 1343, 3) := by decide +kernel
theorem dL_353 : decode code 353 = .ok (.iconst 0, 1) := by decide +kernel
theorem dL_354 : decode code 354 = .ok (.ireturn, 1) := by decide +kernel
theorem dL_355 : decode code 355 = .ok (.aload_n 1, 1) := by decide +kernel
theorem dL_356 : decode code 356 = .ok (.aload_n 0, 1) := by decide +kernel
theorem dL_357 : decode code 357 = .ok (.iload 4, 2) := by decide +kernel
theorem dL_359 : decode code 359 = .ok (.iconst 1, 1) := by decide +kernel
theorem dL_360 : decode code 360 = .ok (.iadd, 1) := by decide +kernel
theorem dL_361 : decode code 361 = .ok (.iaload, 1) := by decide +kernel
theorem dL_362 : decode code 362 = .ok (.invokevirtual 34, 3) := by decide +kernel
theorem dL_365 : decode code 365 = .ok (.aload_n 2, 1) := by decide +kernel
theorem dL_366 : decode code 366 = .ok (.aload_n 0, 1) := by decide +kernel
theorem dL_367 : decode code 367 = .ok (.iload 4, 2) := by decide +kernel
theorem dL_369 : decode code 369 = .ok (.iconst 1, 1) := by decide +kernel
theorem dL_370 : decode code 370 = .ok (.iadd, 1) := by decide +kernel
theorem dL_371 : decode code 371 = .ok (.iaload, 1) := by decide +kernel
theorem dL_372 : decode code 372 = .ok (.invokevirtual 37, 3) := by decide +kernel
theorem dL_375 : decode code 375 = .ok (.if_icmp .eq 1318, 3) := by decide +kernel
theorem dL_378 : decode code 378 = .ok (.iconst 0, 1) := by decide +kernel
theorem dL_379 : decode code 379 = .ok (.ireturn, 1) := by decide +kernel
theorem dL_380 : decode code 380 = .ok (.aload_n 1, 1) := by decide +kernel
theorem dL_381 : decode code 381 = .ok (.aload_n 0, 1) := by decide +kernel
theorem dL_382 : decode code 382 = .ok (.iload 4, 2) := by decide +kernel
theorem dL_384 : decode code 384 = .ok (.iconst 1, 1) := by decide +kernel
theorem dL_385 : decode code 385 = .ok (.iadd, 1) := by decide +kernel
theorem dL_386 : decode code 386 = .ok (.iaload, 1) := by decide +kernel
theorem dL_387 : decode code 387 = .ok (.invokevirtual 38, 3) := by decide +kernel
theorem dL_390 : decode code 390 = .ok (.aload_n 2, 1) := by decide +kernel
theorem dL_391 : decode code 391 = .ok (.aload_n 0, 1) := by decide +kernel
theorem dL_392 : decode code 392 = .ok (.iload 4, 2) := by decide +kernel
theorem dL_394 : decode code 394 = .ok (.iconst 1, 1) := by decide +kernel
theorem dL_395 : decode code 395 = .ok (.iadd, 1) := by decide +kernel
theorem dL_396 : decode code 396 = .ok (.iaload, 1) := by decide +kernel
theorem dL_397 : decode code 397 = .ok (.invokevirtual 41, 3) := by decide +kernel
theorem dL_400 : decode code 400 = .ok (.if_icmp .eq 1293, 3) := by decide +kernel
theorem dL_403 : decode code 403 = .ok (.iconst 0, 1) := by decide +kernel
theorem dL_404 : decode code 404 = .ok (.ireturn, 1) := by decide +kernel
theorem dL_405 : decode code 405 = .ok (.aload_n 1, 1) := by decide +kernel
theorem dL_406 : decode code 406 = .ok (.aload_n 0, 1) := by decide +kernel
theorem dL_407 : decode code 407 = .ok (.iload 4, 2) := by decide +kernel
theorem dL_409 : decode code 409 = .ok (.iconst 1, 1) := by decide +kernel
theorem dL_410 : decode code 410 = .ok (.iadd, 1) := by decide +kernel
theorem dL_411 : decode code 411 = .ok (.iaload, 1) := by decide +kernel
theorem dL_412 : decode code 412 = .ok (.aload_n 0, 1) := by decide +kernel
theorem dL_413 : decode code 413 = .ok (.iload 4, 2) := by decide +kernel
theorem dL_415 : decode code 415 = .ok (.iconst 2, 1) := by decide +kernel
theorem dL_416 : decode code 416 = .ok (.iadd, 1) := by decide +kernel
theorem dL_417 : decode code 417 = .ok (.iaload, 1) := by decide +kernel
theorem dL_418 : decode code 418 = .ok (.invokevirtual 42, 3) := by decide +kernel
theorem dL_421 : decode code 421 = .ok (.aload_n 2, 1) := by decide +kernel
theorem dL_422 : decode code 422 = .ok (.aload_n 0, 1) := by decide +kernel
theorem dL_423 : decode code 423 = .ok (.iload 4, 2) := by decide +kernel
theorem dL_425 : decode code 425 = .ok (.iconst 1, 1) := by decide +kernel
theorem dL_426 : decode code 426 = .ok (.iadd, 1) := by decide +kernel
theorem dL_427 : decode code 427 = .ok (.iaload, 1) := by decide +kernel
theorem dL_428 : decode code 428 = .ok (.aload_n 0, 1) := by decide +kernel
theorem dL_429 : decode code 429 = .ok (.iload 4, 2) := by decide +kernel
theorem dL_431 : decode code 431 = .ok (.iconst 2, 1) := by decide +kernel
theorem dL_432 : decode code 432 = .ok (.iadd, 1) := by decide +kernel
theorem dL_433 : decode code 433 = .ok (.iaload, 1) := by decide +kernel
theorem dL_434 : decode code 434 = .ok (.invokevirtual 45, 3) := by decide +kernel
theorem dL_437 : decode code 437 = .ok (.if_icmp .eq 1256, 3) := by decide +kernel
theorem dL_440 : decode code 440 = .ok (.iconst 0, 1) := by decide +kernel
theorem dL_441 : decode code 441 = .ok (.ireturn, 1) := by decide +kernel
theorem dL_442 : decode code 442 = .ok (.aload_n 1, 1) := by decide +kernel
theorem dL_443 : decode code 443 = .ok (.aload_n 0, 1) := by decide +kernel
theorem dL_444 : decode code 444 = .ok (.iload 4, 2) := by decide +kernel
theorem dL_446 : decode code 446 = .ok (.iconst 1, 1) := by decide +kernel
theorem dL_447 : decode code 447 = .ok (.iadd, 1) := by decide +kernel
theorem dL_448 : decode code 448 = .ok (.iaload, 1) := by decide +kernel
theorem dL_449 : decode code 449 = .ok (.aload_n 0, 1) := by decide +kernel
theorem dL_450 : decode code 450 = .ok (.iload 4, 2) := by decide +kernel
theorem dL_452 : decode code 452 = .ok (.iconst 2, 1) := by decide +kernel
theorem dL_453 : decode code 453 = .ok (.iadd, 1) := by decide +kernel
theorem dL_454 : decode code 454 = .ok (.iaload, 1) := by decide +kernel
theorem dL_455 : decode code 455 = .ok (.aload_n 3, 1) := by decide +kernel
theorem dL_456 : decode code 456 = .ok (.invokestatic 46, 3) := by decide +kernel
theorem dL_459 : decode code 459 = .ok (.istore 5, 2) := by decide +kernel
theorem dL_461 : decode code 461 = .ok (.aload_n 2, 1) := by decide +kernel
theorem dL_462 : decode code 462 = .ok (.aload_n 0, 1) := by decide +kernel
theorem dL_463 : decode code 463 = .ok (.iload 4, 2) := by decide +kernel
theorem dL_465 : decode code 465 = .ok (.iconst 1, 1) := by decide +kernel
theorem dL_466 : decode code 466 = .ok (.iadd, 1) := by decide +kernel
theorem dL_467 : decode code 467 = .ok (.iaload, 1) := by decide +kernel
theorem dL_468 : decode code 468 = .ok (.aload_n 0, 1) := by decide +kernel
theorem dL_469 : decode code 469 = .ok (.iload 4, 2) := by decide +kernel
theorem dL_471 : decode code 471 = .ok (.iconst 2, 1) := by decide +kernel
theorem dL_472 : decode code 472 = .ok (.iadd, 1) := by decide +kernel
theorem dL_473 : decode code 473 = .ok (.iaload, 1) := by decide +kernel
theorem dL_474 : decode code 474 = .ok (.invokevirtual 51, 3) := by decide +kernel
theorem dL_477 : decode code 477 = .ok (.istore 6, 2) := by decide +kernel
theorem dL_479 : decode code 479 = .ok (.aload_n 2, 1) := by decide +kernel
theorem dL_480 : decode code 480 = .ok (.invokevirtual 52, 3) := by decide +kernel
theorem dL_483 : decode code 483 = .ok (.iload 5, 2) := by decide +kernel
theorem dL_485 : decode code 485 = .ok (.if_icmp .eq 5, 3) := by decide +kernel
theorem dL_488 : decode code 488 = .ok (.iconst 0, 1) := by decide +kernel
theorem dL_489 : decode code 489 = .ok (.ireturn, 1) := by decide +kernel
theorem dL_490 : decode code 490 = .ok (.iload 5, 2) := by decide +kernel
theorem dL_492 : decode code 492 = .ok (.ifCond .ne 15, 3) := by decide +kernel
theorem dL_495 : decode code 495 = .ok (.aload_n 3, 1) := by decide +kernel
theorem dL_496 : decode code 496 = .ok (.iconst 0, 1) := by decide +kernel
theorem dL_497 : decode code 497 = .ok (.laload, 1) := by decide +kernel
theorem dL_498 : decode code 498 = .ok (.iload 6, 2) := by decide +kernel
theorem dL_500 : decode code 500 = .ok (.i2l, 1) := by decide +kernel
theorem dL_501 : decode code 501 = .ok (.lcmp, 1) := by decide +kernel
theorem dL_502 : decode code 502 = .ok (.ifCond .eq 5, 3) := by decide +kernel
theorem dL_505 : decode code 505 = .ok (.iconst 0, 1) := by decide +kernel
theorem dL_506 : decode code 506 = .ok (.ireturn, 1) := by decide +kernel
theorem dL_507 : decode code 507 = .ok (.goto 1186, 3) := by decide +kernel
theorem dL_510 : decode code 510 = .ok (.aload_n 1, 1) := by decide +kernel
theorem dL_511 : decode code 511 = .ok (.aload_n 0, 1) := by decide +kernel
theorem dL_512 : decode code 512 = .ok (.iload 4, 2) := by decide +kernel
theorem dL_514 : decode code 514 = .ok (.iconst 1, 1) := by decide +kernel
theorem dL_515 : decode code 515 = .ok (.iadd, 1) := by decide +kernel
theorem dL_516 : decode code 516 = .ok (.iaload, 1) := by decide +kernel
theorem dL_517 : decode code 517 = .ok (.invokevirtual 56, 3) := by decide +kernel
theorem dL_520 : decode code 520 = .ok (.aload_n 2, 1) := by decide +kernel
theorem dL_521 : decode code 521 = .ok (.aload_n 0, 1) := by decide +kernel
theorem dL_522 : decode code 522 = .ok (.iload 4, 2) := by decide +kernel
theorem dL_524 : decode code 524 = .ok (.iconst 1, 1) := by decide +kernel
theorem dL_525 : decode code 525 = .ok (.iadd, 1) := by decide +kernel
theorem dL_526 : decode code 526 = .ok (.iaload, 1) := by decide +kernel
theorem dL_527 : decode code 527 = .ok (.invokevirtual 59, 3) := by decide +kernel
theorem dL_530 : decode code 530 = .ok (.if_icmp .eq 1163, 3) := by decide +kernel
theorem dL_533 : decode code 533 = .ok (.iconst 0, 1) := by decide +kernel
theorem dL_534 : decode code 534 = .ok (.ireturn, 1) := by decide +kernel
theorem dL_535 : decode code 535 = .ok (.aload_n 1, 1) := by decide +kernel
theorem dL_536 : decode code 536 = .ok (.invokevirtual 60, 3) := by decide +kernel
theorem dL_539 : decode code 539 = .ok (.aload_n 2, 1) := by decide +kernel
theorem dL_540 : decode code 540 = .ok (.invokevirtual 63, 3) := by decide +kernel
theorem dL_543 : decode code 543 = .ok (.if_icmp .eq 1150, 3) := by decide +kernel
theorem dL_546 : decode code 546 = .ok (.iconst 0, 1) := by decide +kernel
theorem dL_547 : decode code 547 = .ok (.ireturn, 1) := by decide +kernel
theorem dL_548 : decode code 548 = .ok (.aload_n 1, 1) := by decide +kernel
theorem dL_549 : decode code 549 = .ok (.aload_n 0, 1) := by decide +kernel
theorem dL_550 : decode code 550 = .ok (.iload 4, 2) := by decide +kernel
theorem dL_552 : decode code 552 = .ok (.iconst 1, 1) := by decide +kernel
theorem dL_553 : decode code 553 = .ok (.iadd, 1) := by decide +kernel
theorem dL_554 : decode code 554 = .ok (.iaload, 1) := by decide +kernel
theorem dL_555 : decode code 555 = .ok (.invokevirtual 64, 3) := by decide +kernel
theorem dL_558 : decode code 558 = .ok (.aload_n 2, 1) := by decide +kernel
theorem dL_559 : decode code 559 = .ok (.aload_n 0, 1) := by decide +kernel
theorem dL_560 : decode code 560 = .ok (.iload 4, 2) := by decide +kernel
theorem dL_562 : decode code 562 = .ok (.iconst 1, 1) := by decide +kernel
theorem dL_563 : decode code 563 = .ok (.iadd, 1) := by decide +kernel
theorem dL_564 : decode code 564 = .ok (.iaload, 1) := by decide +kernel
theorem dL_565 : decode code 565 = .ok (.invokevirtual 67, 3) := by decide +kernel
theorem dL_568 : decode code 568 = .ok (.if_icmp .eq 1125, 3) := by decide +kernel
theorem dL_571 : decode code 571 = .ok (.iconst 0, 1) := by decide +kernel
theorem dL_572 : decode code 572 = .ok (.ireturn, 1) := by decide +kernel
theorem dL_573 : decode code 573 = .ok (.aload_n 1, 1) := by decide +kernel
theorem dL_574 : decode code 574 = .ok (.aload_n 0, 1) := by decide +kernel
theorem dL_575 : decode code 575 = .ok (.iload 4, 2) := by decide +kernel
theorem dL_577 : decode code 577 = .ok (.iconst 1, 1) := by decide +kernel
theorem dL_578 : decode code 578 = .ok (.iadd, 1) := by decide +kernel
theorem dL_579 : decode code 579 = .ok (.iaload, 1) := by decide +kernel
theorem dL_580 : decode code 580 = .ok (.invokevirtual 68, 3) := by decide +kernel
theorem dL_583 : decode code 583 = .ok (.aload_n 2, 1) := by decide +kernel
theorem dL_584 : decode code 584 = .ok (.aload_n 0, 1) := by decide +kernel
theorem dL_585 : decode code 585 = .ok (.iload 4, 2) := by decide +kernel
theorem dL_587 : decode code 587 = .ok (.iconst 1, 1) := by decide +kernel
theorem dL_588 : decode code 588 = .ok (.iadd, 1) := by decide +kernel
theorem dL_589 : decode code 589 = .ok (.iaload, 1) := by decide +kernel
theorem dL_590 : decode code 590 = .ok (.invokevirtual 71, 3) := by decide +kernel
theorem dL_593 : decode code 593 = .ok (.if_icmp .eq 1100, 3) := by decide +kernel
theorem dL_596 : decode code 596 = .ok (.iconst 0, 1) := by decide +kernel
theorem dL_597 : decode code 597 = .ok (.ireturn, 1) := by decide +kernel
theorem dL_598 : decode code 598 = .ok (.aload_n 1, 1) := by decide +kernel
theorem dL_599 : decode code 599 = .ok (.aload_n 0, 1) := by decide +kernel
theorem dL_600 : decode code 600 = .ok (.iload 4, 2) := by decide +kernel
theorem dL_602 : decode code 602 = .ok (.iconst 1, 1) := by decide +kernel
theorem dL_603 : decode code 603 = .ok (.iadd, 1) := by decide +kernel
theorem dL_604 : decode code 604 = .ok (.iaload, 1) := by decide +kernel
theorem dL_605 : decode code 605 = .ok (.invokevirtual 72, 3) := by decide +kernel
theorem dL_608 : decode code 608 = .ok (.aload_n 2, 1) := by decide +kernel
theorem dL_609 : decode code 609 = .ok (.aload_n 0, 1) := by decide +kernel
theorem dL_610 : decode code 610 = .ok (.iload 4, 2) := by decide +kernel
theorem dL_612 : decode code 612 = .ok (.iconst 1, 1) := by decide +kernel
theorem dL_613 : decode code 613 = .ok (.iadd, 1) := by decide +kernel
theorem dL_614 : decode code 614 = .ok (.iaload, 1) := by decide +kernel
theorem dL_615 : decode code 615 = .ok (.invokevirtual 75, 3) := by decide +kernel
theorem dL_618 : decode code 618 = .ok (.if_icmp .eq 1075, 3) := by decide +kernel
theorem dL_621 : decode code 621 = .ok (.iconst 0, 1) := by decide +kernel
theorem dL_622 : decode code 622 = .ok (.ireturn, 1) := by decide +kernel
theorem dL_623 : decode code 623 = .ok (.aload_n 1, 1) := by decide +kernel
theorem dL_624 : decode code 624 = .ok (.aload_n 0, 1) := by decide +kernel
theorem dL_625 : decode code 625 = .ok (.iload 4, 2) := by decide +kernel
theorem dL_627 : decode code 627 = .ok (.iconst 1, 1) := by decide +kernel
theorem dL_628 : decode code 628 = .ok (.iadd, 1) := by decide +kernel
theorem dL_629 : decode code 629 = .ok (.iaload, 1) := by decide +kernel
theorem dL_630 : decode code 630 = .ok (.invokevirtual 76, 3) := by decide +kernel
theorem dL_633 : decode code 633 = .ok (.aload_n 2, 1) := by decide +kernel
theorem dL_634 : decode code 634 = .ok (.aload_n 0, 1) := by decide +kernel
theorem dL_635 : decode code 635 = .ok (.iload 4, 2) := by decide +kernel
theorem dL_637 : decode code 637 = .ok (.iconst 1, 1) := by decide +kernel
theorem dL_638 : decode code 638 = .ok (.iadd, 1) := by decide +kernel
theorem dL_639 : decode code 639 = .ok (.iaload, 1) := by decide +kernel
theorem dL_640 : decode code 640 = .ok (.invokevirtual 79, 3) := by decide +kernel
theorem dL_643 : decode code 643 = .ok (.if_icmp .eq 1050, 3) := by decide +kernel
theorem dL_646 : decode code 646 = .ok (.iconst 0, 1) := by decide +kernel
theorem dL_647 : decode code 647 = .ok (.ireturn, 1) := by decide +kernel
theorem dL_648 : decode code 648 = .ok (.aload_n 1, 1) := by decide +kernel
theorem dL_649 : decode code 649 = .ok (.invokevirtual 80, 3) := by decide +kernel
theorem dL_652 : decode code 652 = .ok (.aload_n 2, 1) := by decide +kernel
theorem dL_653 : decode code 653 = .ok (.invokevirtual 83, 3) := by decide +kernel
theorem dL_656 : decode code 656 = .ok (.if_icmp .eq 1037, 3) := by decide +kernel
theorem dL_659 : decode code 659 = .ok (.iconst 0, 1) := by decide +kernel
theorem dL_660 : decode code 660 = .ok (.ireturn, 1) := by decide +kernel
theorem dL_661 : decode code 661 = .ok (.aload_n 1, 1) := by decide +kernel
theorem dL_662 : decode code 662 = .ok (.invokevirtual 84, 3) := by decide +kernel
theorem dL_665 : decode code 665 = .ok (.aload_n 2, 1) := by decide +kernel
theorem dL_666 : decode code 666 = .ok (.invokevirtual 87, 3) := by decide +kernel
theorem dL_669 : decode code 669 = .ok (.if_icmp .eq 1024, 3) := by decide +kernel
theorem dL_672 : decode code 672 = .ok (.iconst 0, 1) := by decide +kernel
theorem dL_673 : decode code 673 = .ok (.ireturn, 1) := by decide +kernel
theorem dL_674 : decode code 674 = .ok (.aload_n 1, 1) := by decide +kernel
theorem dL_675 : decode code 675 = .ok (.aload_n 0, 1) := by decide +kernel
theorem dL_676 : decode code 676 = .ok (.iload 4, 2) := by decide +kernel
theorem dL_678 : decode code 678 = .ok (.iconst 1, 1) := by decide +kernel
theorem dL_679 : decode code 679 = .ok (.iadd, 1) := by decide +kernel
theorem dL_680 : decode code 680 = .ok (.iaload, 1) := by decide +kernel
theorem dL_681 : decode code 681 = .ok (.invokevirtual 88, 3) := by decide +kernel
theorem dL_684 : decode code 684 = .ok (.aload_n 2, 1) := by decide +kernel
theorem dL_685 : decode code 685 = .ok (.aload_n 0, 1) := by decide +kernel
theorem dL_686 : decode code 686 = .ok (.iload 4, 2) := by decide +kernel
theorem dL_688 : decode code 688 = .ok (.iconst 1, 1) := by decide +kernel
theorem dL_689 : decode code 689 = .ok (.iadd, 1) := by decide +kernel
theorem dL_690 : decode code 690 = .ok (.iaload, 1) := by decide +kernel
theorem dL_691 : decode code 691 = .ok (.invokevirtual 91, 3) := by decide +kernel
theorem dL_694 : decode code 694 = .ok (.if_icmp .eq 999, 3) := by decide +kernel
theorem dL_697 : decode code 697 = .ok (.iconst 0, 1) := by decide +kernel
theorem dL_698 : decode code 698 = .ok (.ireturn, 1) := by decide +kernel
theorem dL_699 : decode code 699 = .ok (.aload_n 1, 1) := by decide +kernel
theorem dL_700 : decode code 700 = .ok (.aload_n 0, 1) := by decide +kernel
theorem dL_701 : decode code 701 = .ok (.iload 4, 2) := by decide +kernel
theorem dL_703 : decode code 703 = .ok (.iconst 1, 1) := by decide +kernel
theorem dL_704 : decode code 704 = .ok (.iadd, 1) := by decide +kernel
theorem dL_705 : decode code 705 = .ok (.iaload, 1) := by decide +kernel
theorem dL_706 : decode code 706 = .ok (.aload_n 0, 1) := by decide +kernel
theorem dL_707 : decode code 707 = .ok (.iload 4, 2) := by decide +kernel
theorem dL_709 : decode code 709 = .ok (.iconst 2, 1) := by decide +kernel
theorem dL_710 : decode code 710 = .ok (.iadd, 1) := by decide +kernel
theorem dL_711 : decode code 711 = .ok (.iaload, 1) := by decide +kernel
theorem dL_712 : decode code 712 = .ok (.invokevirtual 92, 3) := by decide +kernel
theorem dL_715 : decode code 715 = .ok (.aload_n 2, 1) := by decide +kernel
theorem dL_716 : decode code 716 = .ok (.aload_n 0, 1) := by decide +kernel
theorem dL_717 : decode code 717 = .ok (.iload 4, 2) := by decide +kernel
theorem dL_719 : decode code 719 = .ok (.iconst 1, 1) := by decide +kernel
theorem dL_720 : decode code 720 = .ok (.iadd, 1) := by decide +kernel
theorem dL_721 : decode code 721 = .ok (.iaload, 1) := by decide +kernel
theorem dL_722 : decode code 722 = .ok (.aload_n 0, 1) := by decide +kernel
theorem dL_723 : decode code 723 = .ok (.iload 4, 2) := by decide +kernel
theorem dL_725 : decode code 725 = .ok (.iconst 2, 1) := by decide +kernel
theorem dL_726 : decode code 726 = .ok (.iadd, 1) := by decide +kernel
theorem dL_727 : decode code 727 = .ok (.iaload, 1) := by decide +kernel
theorem dL_728 : decode code 728 = .ok (.invokevirtual 96, 3) := by decide +kernel
theorem dL_731 : decode code 731 = .ok (.if_icmp .eq 962, 3) := by decide +kernel
theorem dL_734 : decode code 734 = .ok (.iconst 0, 1) := by decide +kernel
theorem dL_735 : decode code 735 = .ok (.ireturn, 1) := by decide +kernel
theorem dL_736 : decode code 736 = .ok (.aload_n 1, 1) := by decide +kernel
theorem dL_737 : decode code 737 = .ok (.aload_n 0, 1) := by decide +kernel
theorem dL_738 : decode code 738 = .ok (.iload 4, 2) := by decide +kernel
theorem dL_740 : decode code 740 = .ok (.iconst 1, 1) := by decide +kernel
theorem dL_741 : decode code 741 = .ok (.iadd, 1) := by decide +kernel
theorem dL_742 : decode code 742 = .ok (.iaload, 1) := by decide +kernel
theorem dL_743 : decode code 743 = .ok (.aload_n 0, 1) := by decide +kernel
theorem dL_744 : decode code 744 = .ok (.iload 4, 2) := by decide +kernel
theorem dL_746 : decode code 746 = .ok (.iconst 2, 1) := by decide +kernel
theorem dL_747 : decode code 747 = .ok (.iadd, 1) := by decide +kernel
theorem dL_748 : decode code 748 = .ok (.iaload, 1) := by decide +kernel
theorem dL_749 : decode code 749 = .ok (.i2l, 1) := by decide +kernel
theorem dL_750 : decode code 750 = .ok (.bipush 32, 2) := by decide +kernel
theorem dL_752 : decode code 752 = .ok (.lshl, 1) := by decide +kernel
theorem dL_753 : decode code 753 = .ok (.aload_n 0, 1) := by decide +kernel
theorem dL_754 : decode code 754 = .ok (.iload 4, 2) := by decide +kernel
theorem dL_756 : decode code 756 = .ok (.iconst 3, 1) := by decide +kernel
theorem dL_757 : decode code 757 = .ok (.iadd, 1) := by decide +kernel
theorem dL_758 : decode code 758 = .ok (.iaload, 1) := by decide +kernel
theorem dL_759 : decode code 759 = .ok (.i2l, 1) := by decide +kernel
theorem dL_760 : decode code 760 = .ok (.ldc2_w 97, 3) := by decide +kernel
theorem dL_763 : decode code 763 = .ok (.land, 1) := by decide +kernel
theorem dL_764 : decode code 764 = .ok (.lor, 1) := by decide +kernel
theorem dL_765 : decode code 765 = .ok (.invokevirtual 99, 3) := by decide +kernel
theorem dL_768 : decode code 768 = .ok (.aload_n 2, 1) := by decide +kernel
theorem dL_769 : decode code 769 = .ok (.aload_n 0, 1) := by decide +kernel
theorem dL_770 : decode code 770 = .ok (.iload 4, 2) := by decide +kernel
theorem dL_772 : decode code 772 = .ok (.iconst 1, 1) := by decide +kernel
theorem dL_773 : decode code 773 = .ok (.iadd, 1) := by decide +kernel
theorem dL_774 : decode code 774 = .ok (.iaload, 1) := by decide +kernel
theorem dL_775 : decode code 775 = .ok (.aload_n 0, 1) := by decide +kernel
theorem dL_776 : decode code 776 = .ok (.iload 4, 2) := by decide +kernel
theorem dL_778 : decode code 778 = .ok (.iconst 2, 1) := by decide +kernel
theorem dL_779 : decode code 779 = .ok (.iadd, 1) := by decide +kernel
theorem dL_780 : decode code 780 = .ok (.iaload, 1) := by decide +kernel
theorem dL_781 : decode code 781 = .ok (.i2l, 1) := by decide +kernel
theorem dL_782 : decode code 782 = .ok (.bipush 32, 2) := by decide +kernel
theorem dL_784 : decode code 784 = .ok (.lshl, 1) := by decide +kernel
theorem dL_785 : decode code 785 = .ok (.aload_n 0, 1) := by decide +kernel
theorem dL_786 : decode code 786 = .ok (.iload 4, 2) := by decide +kernel
theorem dL_788 : decode code 788 = .ok (.iconst 3, 1) := by decide +kernel
theorem dL_789 : decode code 789 = .ok (.iadd, 1) := by decide +kernel
theorem dL_790 : decode code 790 = .ok (.iaload, 1) := by decide +kernel
theorem dL_791 : decode code 791 = .ok (.i2l, 1) := by decide +kernel
theorem dL_792 : decode code 792 = .ok (.ldc2_w 97, 3) := by decide +kernel
theorem dL_795 : decode code 795 = .ok (.land, 1) := by decide +kernel
theorem dL_796 : decode code 796 = .ok (.lor, 1) := by decide +kernel
theorem dL_797 : decode code 797 = .ok (.invokevirtual 103, 3) := by decide +kernel
theorem dL_800 : decode code 800 = .ok (.if_icmp .eq 893, 3) := by decide +kernel
theorem dL_803 : decode code 803 = .ok (.iconst 0, 1) := by decide +kernel
theorem dL_804 : decode code 804 = .ok (.ireturn, 1) := by decide +kernel
theorem dL_805 : decode code 805 = .ok (.aload_n 1, 1) := by decide +kernel
theorem dL_806 : decode code 806 = .ok (.aload_n 0, 1) := by decide +kernel
theorem dL_807 : decode code 807 = .ok (.iload 4, 2) := by decide +kernel
theorem dL_809 : decode code 809 = .ok (.iconst 1, 1) := by decide +kernel
theorem dL_810 : decode code 810 = .ok (.iadd, 1) := by decide +kernel
theorem dL_811 : decode code 811 = .ok (.iaload, 1) := by decide +kernel
theorem dL_812 : decode code 812 = .ok (.invokevirtual 104, 3) := by decide +kernel
theorem dL_815 : decode code 815 = .ok (.aload_n 2, 1) := by decide +kernel
theorem dL_816 : decode code 816 = .ok (.aload_n 0, 1) := by decide +kernel
theorem dL_817 : decode code 817 = .ok (.iload 4, 2) := by decide +kernel
theorem dL_819 : decode code 819 = .ok (.iconst 1, 1) := by decide +kernel
theorem dL_820 : decode code 820 = .ok (.iadd, 1) := by decide +kernel
theorem dL_821 : decode code 821 = .ok (.iaload, 1) := by decide +kernel
theorem dL_822 : decode code 822 = .ok (.invokevirtual 107, 3) := by decide +kernel
theorem dL_825 : decode code 825 = .ok (.if_icmp .eq 868, 3) := by decide +kernel
theorem dL_828 : decode code 828 = .ok (.iconst 0, 1) := by decide +kernel
theorem dL_829 : decode code 829 = .ok (.ireturn, 1) := by decide +kernel
theorem dL_830 : decode code 830 = .ok (.aload_n 1, 1) := by decide +kernel
theorem dL_831 : decode code 831 = .ok (.invokevirtual 108, 3) := by decide +kernel
theorem dL_834 : decode code 834 = .ok (.aload_n 2, 1) := by decide +kernel
theorem dL_835 : decode code 835 = .ok (.invokevirtual 111, 3) := by decide +kernel
theorem dL_838 : decode code 838 = .ok (.if_icmp .eq 855, 3) := by decide +kernel
theorem dL_841 : decode code 841 = .ok (.iconst 0, 1) := by decide +kernel
theorem dL_842 : decode code 842 = .ok (.ireturn, 1) := by decide +kernel
theorem dL_843 : decode code 843 = .ok (.aload_n 1, 1) := by decide +kernel
theorem dL_844 : decode code 844 = .ok (.aload_n 0, 1) := by decide +kernel
theorem dL_845 : decode code 845 = .ok (.iload 4, 2) := by decide +kernel
theorem dL_847 : decode code 847 = .ok (.iconst 1, 1) := by decide +kernel
theorem dL_848 : decode code 848 = .ok (.iadd, 1) := by decide +kernel
theorem dL_849 : decode code 849 = .ok (.iaload, 1) := by decide +kernel
theorem dL_850 : decode code 850 = .ok (.aload_n 0, 1) := by decide +kernel
theorem dL_851 : decode code 851 = .ok (.iload 4, 2) := by decide +kernel
theorem dL_853 : decode code 853 = .ok (.iconst 2, 1) := by decide +kernel
theorem dL_854 : decode code 854 = .ok (.iadd, 1) := by decide +kernel
theorem dL_855 : decode code 855 = .ok (.iaload, 1) := by decide +kernel
theorem dL_856 : decode code 856 = .ok (.invokevirtual 112, 3) := by decide +kernel
theorem dL_859 : decode code 859 = .ok (.aload_n 2, 1) := by decide +kernel
theorem dL_860 : decode code 860 = .ok (.aload_n 0, 1) := by decide +kernel
theorem dL_861 : decode code 861 = .ok (.iload 4, 2) := by decide +kernel
theorem dL_863 : decode code 863 = .ok (.iconst 1, 1) := by decide +kernel
theorem dL_864 : decode code 864 = .ok (.iadd, 1) := by decide +kernel
theorem dL_865 : decode code 865 = .ok (.iaload, 1) := by decide +kernel
theorem dL_866 : decode code 866 = .ok (.aload_n 0, 1) := by decide +kernel
theorem dL_867 : decode code 867 = .ok (.iload 4, 2) := by decide +kernel
theorem dL_869 : decode code 869 = .ok (.iconst 2, 1) := by decide +kernel
theorem dL_870 : decode code 870 = .ok (.iadd, 1) := by decide +kernel
theorem dL_871 : decode code 871 = .ok (.iaload, 1) := by decide +kernel
theorem dL_872 : decode code 872 = .ok (.invokevirtual 115, 3) := by decide +kernel
theorem dL_875 : decode code 875 = .ok (.if_icmp .eq 818, 3) := by decide +kernel
theorem dL_878 : decode code 878 = .ok (.iconst 0, 1) := by decide +kernel
theorem dL_879 : decode code 879 = .ok (.ireturn, 1) := by decide +kernel
theorem dL_880 : decode code 880 = .ok (.aload_n 1, 1) := by decide +kernel
theorem dL_881 : decode code 881 = .ok (.aload_n 0, 1) := by decide +kernel
theorem dL_882 : decode code 882 = .ok (.iload 4, 2) := by decide +kernel
theorem dL_884 : decode code 884 = .ok (.iconst 1, 1) := by decide +kernel
theorem dL_885 : decode code 885 = .ok (.iadd, 1) := by decide +kernel
theorem dL_886 : decode code 886 = .ok (.iaload, 1) := by decide +kernel
theorem dL_887 : decode code 887 = .ok (.aload_n 0, 1) := by decide +kernel
theorem dL_888 : decode code 888 = .ok (.iload 4, 2) := by decide +kernel
theorem dL_890 : decode code 890 = .ok (.iconst 2, 1) := by decide +kernel
theorem dL_891 : decode code 891 = .ok (.iadd, 1) := by decide +kernel
theorem dL_892 : decode code 892 = .ok (.iaload, 1) := by decide +kernel
theorem dL_893 : decode code 893 = .ok (.ifCond .eq 7, 3) := by decide +kernel
theorem dL_896 : decode code 896 = .ok (.iconst 1, 1) := by decide +kernel
theorem dL_897 : decode code 897 = .ok (.goto 4, 3) := by decide +kernel
theorem dL_900 : decode code 900 = .ok (.iconst 0, 1) := by decide +kernel
theorem dL_901 : decode code 901 = .ok (.aload_n 0, 1) := by decide +kernel
theorem dL_902 : decode code 902 = .ok (.iload 4, 2) := by decide +kernel
theorem dL_904 : decode code 904 = .ok (.iconst 3, 1) := by decide +kernel
theorem dL_905 : decode code 905 = .ok (.iadd, 1) := by decide +kernel
theorem dL_906 : decode code 906 = .ok (.iaload, 1) := by decide +kernel
theorem dL_907 : decode code 907 = .ok (.invokevirtual 116, 3) := by decide +kernel
theorem dL_910 : decode code 910 = .ok (.aload_n 2, 1) := by decide +kernel
theorem dL_911 : decode code 911 = .ok (.aload_n 0, 1) := by decide +kernel
theorem dL_912 : decode code 912 = .ok (.iload 4, 2) := by decide +kernel
theorem dL_914 : decode code 914 = .ok (.iconst 1, 1) := by decide +kernel
theorem dL_915 : decode code 915 = .ok (.iadd, 1) := by decide +kernel
theorem dL_916 : decode code 916 = .ok (.iaload, 1) := by decide +kernel
theorem dL_917 : decode code 917 = .ok (.aload_n 0, 1) := by decide +kernel
theorem dL_918 : decode code 918 = .ok (.iload 4, 2) := by decide +kernel
theorem dL_920 : decode code 920 = .ok (.iconst 2, 1) := by decide +kernel
theorem dL_921 : decode code 921 = .ok (.iadd, 1) := by decide +kernel
theorem dL_922 : decode code 922 = .ok (.iaload, 1) := by decide +kernel
theorem dL_923 : decode code 923 = .ok (.ifCond .eq 7, 3) := by decide +kernel
theorem dL_926 : decode code 926 = .ok (.iconst 1, 1) := by decide +kernel
theorem dL_927 : decode code 927 = .ok (.goto 4, 3) := by decide +kernel
theorem dL_930 : decode code 930 = .ok (.iconst 0, 1) := by decide +kernel
theorem dL_931 : decode code 931 = .ok (.aload_n 0, 1) := by decide +kernel
theorem dL_932 : decode code 932 = .ok (.iload 4, 2) := by decide +kernel
theorem dL_934 : decode code 934 = .ok (.iconst 3, 1) := by decide +kernel
theorem dL_935 : decode code 935 = .ok (.iadd, 1) := by decide +kernel
theorem dL_936 : decode code 936 = .ok (.iaload, 1) := by decide +kernel
theorem dL_937 : decode code 937 = .ok (.invokevirtual 120, 3) := by decide +kernel
theorem dL_940 : decode code 940 = .ok (.if_icmp .eq 753, 3) := by decide +kernel
theorem dL_943 : decode code 943 = .ok (.iconst 0, 1) := by decide +kernel
theorem dL_944 : decode code 944 = .ok (.ireturn, 1) := by decide +kernel
theorem dL_945 : decode code 945 = .ok (.aload_n 1, 1) := by decide +kernel
theorem dL_946 : decode code 946 = .ok (.aload_n 0, 1) := by decide +kernel
theorem dL_947 : decode code 947 = .ok (.iload 4, 2) := by decide +kernel
theorem dL_949 : decode code 949 = .ok (.iconst 1, 1) := by decide +kernel
theorem dL_950 : decode code 950 = .ok (.iadd, 1) := by decide +kernel
theorem dL_951 : decode code 951 = .ok (.iaload, 1) := by decide +kernel
theorem dL_952 : decode code 952 = .ok (.invokevirtual 121, 3) := by decide +kernel
theorem dL_955 : decode code 955 = .ok (.aload_n 2, 1) := by decide +kernel
