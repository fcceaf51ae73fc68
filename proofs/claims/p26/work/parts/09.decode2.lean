theorem dL_acts_57 : decode cL_acts 57 = .ok (.invokevirtual 49, 3) := by decide +kernel
theorem dL_acts_60 : decode cL_acts 60 = .ok (.istore 9, 2) := by decide +kernel
theorem dL_acts_62 : decode cL_acts 62 = .ok (.iload 9, 2) := by decide +kernel
theorem dL_acts_64 : decode cL_acts 64 = .ok (.iload 4, 2) := by decide +kernel
theorem dL_acts_66 : decode cL_acts 66 = .ok (.bipush 40, 2) := by decide +kernel
theorem dL_acts_68 : decode cL_acts 68 = .ok (.if_icmp .ne 9, 3) := by decide +kernel
theorem dL_acts_71 : decode cL_acts 71 = .ok (.sipush (-10003), 3) := by decide +kernel
theorem dL_acts_74 : decode cL_acts 74 = .ok (.goto 5, 3) := by decide +kernel
theorem dL_acts_77 : decode cL_acts 77 = .ok (.iload 4, 2) := by decide +kernel
theorem dL_acts_79 : decode cL_acts 79 = .ok (.if_icmp .ne 17, 3) := by decide +kernel
theorem dL_acts_82 : decode cL_acts 82 = .ok (.aload_n 0, 1) := by decide +kernel
theorem dL_acts_83 : decode cL_acts 83 = .ok (.invokestatic 98, 3) := by decide +kernel
theorem dL_acts_86 : decode cL_acts 86 = .ok (.lload 7, 2) := by decide +kernel
theorem dL_acts_88 : decode cL_acts 88 = .ok (.lcmp, 1) := by decide +kernel
theorem dL_acts_89 : decode cL_acts 89 = .ok (.ifCond .ne 7, 3) := by decide +kernel
theorem dL_acts_92 : decode cL_acts 92 = .ok (.iconst 1, 1) := by decide +kernel
theorem dL_acts_93 : decode cL_acts 93 = .ok (.goto 4, 3) := by decide +kernel
theorem dL_acts_96 : decode cL_acts 96 = .ok (.iconst 0, 1) := by decide +kernel
theorem dL_acts_97 : decode cL_acts 97 = .ok (.ireturn, 1) := by decide +kernel
theorem dL_acts_98 : decode cL_acts 98 = .ok (.iload_n 3, 1) := by decide +kernel
theorem dL_acts_99 : decode cL_acts 99 = .ok (.iconst 3, 1) := by decide +kernel
theorem dL_acts_100 : decode cL_acts 100 = .ok (.ishr, 1) := by decide +kernel
theorem dL_acts_101 : decode cL_acts 101 = .ok (.iload 4, 2) := by decide +kernel
theorem dL_acts_103 : decode cL_acts 103 = .ok (.invokestatic 95, 3) := by decide +kernel
theorem dL_acts_106 : decode cL_acts 106 = .ok (.istore 9, 2) := by decide +kernel
theorem dL_acts_108 : decode cL_acts 108 = .ok (.aload_n 0, 1) := by decide +kernel
theorem dL_acts_109 : decode cL_acts 109 = .ok (.iload 9, 2) := by decide +kernel
theorem dL_acts_111 : decode cL_acts 111 = .ok (.iconst 3, 1) := by decide +kernel
theorem dL_acts_112 : decode cL_acts 112 = .ok (.invokevirtual 28, 3) := by decide +kernel
theorem dL_acts_115 : decode cL_acts 115 = .ok (.istore 10, 2) := by decide +kernel
theorem dL_acts_117 : decode cL_acts 117 = .ok (.aload_n 0, 1) := by decide +kernel
theorem dL_acts_118 : decode cL_acts 118 = .ok (.iload 9, 2) := by decide +kernel
theorem dL_acts_120 : decode cL_acts 120 = .ok (.bipush 8, 2) := by decide +kernel
theorem dL_acts_122 : decode cL_acts 122 = .ok (.invokevirtual 28, 3) := by decide +kernel
theorem dL_acts_125 : decode cL_acts 125 = .ok (.istore 11, 2) := by decide +kernel
theorem dL_acts_127 : decode cL_acts 127 = .ok (.iload_n 1, 1) := by decide +kernel
theorem dL_acts_128 : decode cL_acts 128 = .ok (.tableswitch 1091 4 21 #[88, 88, 168, 168, 168, 246, 340, 340, 466, 466, 621, 621, 621, 746, 746, 746, 942, 1017], 88) := by decide +kernel
theorem dL_acts_216 : decode cL_acts 216 = .ok (.aload_n 0, 1) := by decide +kernel
theorem dL_acts_217 : decode cL_acts 217 = .ok (.iload 9, 2) := by decide +kernel
theorem dL_acts_219 : decode cL_acts 219 = .ok (.invokevirtual 77, 3) := by decide +kernel
theorem dL_acts_222 : decode cL_acts 222 = .ok (.istore 12, 2) := by decide +kernel
theorem dL_acts_224 : decode cL_acts 224 = .ok (.aload_n 0, 1) := by decide +kernel
theorem dL_acts_225 : decode cL_acts 225 = .ok (.iload 9, 2) := by decide +kernel
theorem dL_acts_227 : decode cL_acts 227 = .ok (.invokevirtual 53, 3) := by decide +kernel
theorem dL_acts_230 : decode cL_acts 230 = .ok (.iload 12, 2) := by decide +kernel
theorem dL_acts_232 : decode cL_acts 232 = .ok (.sipush (-10009), 3) := by decide +kernel
theorem dL_acts_235 : decode cL_acts 235 = .ok (.if_icmp .ne 9, 3) := by decide +kernel
theorem dL_acts_238 : decode cL_acts 238 = .ok (.sipush (-10002), 3) := by decide +kernel
theorem dL_acts_241 : decode cL_acts 241 = .ok (.goto 5, 3) := by decide +kernel
theorem dL_acts_244 : decode cL_acts 244 = .ok (.iload 12, 2) := by decide +kernel
theorem dL_acts_246 : decode cL_acts 246 = .ok (.if_icmp .ne 48, 3) := by decide +kernel
theorem dL_acts_249 : decode cL_acts 249 = .ok (.iload 12, 2) := by decide +kernel
theorem dL_acts_251 : decode cL_acts 251 = .ok (.sipush (-10009), 3) := by decide +kernel
theorem dL_acts_254 : decode cL_acts 254 = .ok (.if_icmp .eq 26, 3) := by decide +kernel
theorem dL_acts_257 : decode cL_acts 257 = .ok (.aload_n 0, 1) := by decide +kernel
theorem dL_acts_258 : decode cL_acts 258 = .ok (.iload 9, 2) := by decide +kernel
theorem dL_acts_260 : decode cL_acts 260 = .ok (.iconst 3, 1) := by decide +kernel
theorem dL_acts_261 : decode cL_acts 261 = .ok (.invokevirtual 28, 3) := by decide +kernel
theorem dL_acts_264 : decode cL_acts 264 = .ok (.iconst 5, 1) := by decide +kernel
theorem dL_acts_265 : decode cL_acts 265 = .ok (.if_icmp .ne 29, 3) := by decide +kernel
theorem dL_acts_268 : decode cL_acts 268 = .ok (.aload_n 0, 1) := by decide +kernel
theorem dL_acts_269 : decode cL_acts 269 = .ok (.iload 9, 2) := by decide +kernel
theorem dL_acts_271 : decode cL_acts 271 = .ok (.iconst 5, 1) := by decide +kernel
theorem dL_acts_272 : decode cL_acts 272 = .ok (.invokevirtual 28, 3) := by decide +kernel
theorem dL_acts_275 : decode cL_acts 275 = .ok (.iload 12, 2) := by decide +kernel
theorem dL_acts_277 : decode cL_acts 277 = .ok (.if_icmp .ne 17, 3) := by decide +kernel
theorem dL_acts_280 : decode cL_acts 280 = .ok (.aload_n 0, 1) := by decide +kernel
theorem dL_acts_281 : decode cL_acts 281 = .ok (.invokestatic 98, 3) := by decide +kernel
theorem dL_acts_284 : decode cL_acts 284 = .ok (.lload 7, 2) := by decide +kernel
theorem dL_acts_286 : decode cL_acts 286 = .ok (.lcmp, 1) := by decide +kernel
theorem dL_acts_287 : decode cL_acts 287 = .ok (.ifCond .ne 7, 3) := by decide +kernel
theorem dL_acts_290 : decode cL_acts 290 = .ok (.iconst 1, 1) := by decide +kernel
theorem dL_acts_291 : decode cL_acts 291 = .ok (.goto 4, 3) := by decide +kernel
theorem dL_acts_294 : decode cL_acts 294 = .ok (.iconst 0, 1) := by decide +kernel
theorem dL_acts_295 : decode cL_acts 295 = .ok (.ireturn, 1) := by decide +kernel
theorem dL_acts_296 : decode cL_acts 296 = .ok (.aload_n 0, 1) := by decide +kernel
theorem dL_acts_297 : decode cL_acts 297 = .ok (.iload 9, 2) := by decide +kernel
theorem dL_acts_299 : decode cL_acts 299 = .ok (.iconst 1, 1) := by decide +kernel
theorem dL_acts_300 : decode cL_acts 300 = .ok (.iload_n 2, 1) := by decide +kernel
theorem dL_acts_301 : decode cL_acts 301 = .ok (.iconst 3, 1) := by decide +kernel
theorem dL_acts_302 : decode cL_acts 302 = .ok (.ishr, 1) := by decide +kernel
theorem dL_acts_303 : decode cL_acts 303 = .ok (.iconst 4, 1) := by decide +kernel
theorem dL_acts_304 : decode cL_acts 304 = .ok (.invokestatic 95, 3) := by decide +kernel
theorem dL_acts_307 : decode cL_acts 307 = .ok (.iadd, 1) := by decide +kernel
theorem dL_acts_308 : decode cL_acts 308 = .ok (.invokevirtual 56, 3) := by decide +kernel
theorem dL_acts_311 : decode cL_acts 311 = .ok (.istore 12, 2) := by decide +kernel
theorem dL_acts_313 : decode cL_acts 313 = .ok (.iload 10, 2) := by decide +kernel
theorem dL_acts_315 : decode cL_acts 315 = .ok (.ifCond .ne 35, 3) := by decide +kernel
theorem dL_acts_318 : decode cL_acts 318 = .ok (.iload 12, 2) := by decide +kernel
theorem dL_acts_320 : decode cL_acts 320 = .ok (.ifCond .le 52, 3) := by decide +kernel
theorem dL_acts_323 : decode cL_acts 323 = .ok (.aload_n 0, 1) := by decide +kernel
theorem dL_acts_324 : decode cL_acts 324 = .ok (.iload 9, 2) := by decide +kernel
theorem dL_acts_326 : decode cL_acts 326 = .ok (.iconst 3, 1) := by decide +kernel
theorem dL_acts_327 : decode cL_acts 327 = .ok (.invokevirtual 28, 3) := by decide +kernel
theorem dL_acts_330 : decode cL_acts 330 = .ok (.iconst 1, 1) := by decide +kernel
theorem dL_acts_331 : decode cL_acts 331 = .ok (.if_icmp .ne 41, 3) := by decide +kernel
theorem dL_acts_334 : decode cL_acts 334 = .ok (.aload_n 0, 1) := by decide +kernel
theorem dL_acts_335 : decode cL_acts 335 = .ok (.iload 9, 2) := by decide +kernel
theorem dL_acts_337 : decode cL_acts 337 = .ok (.bipush 7, 2) := by decide +kernel
theorem dL_acts_339 : decode cL_acts 339 = .ok (.invokevirtual 28, 3) := by decide +kernel
theorem dL_acts_342 : decode cL_acts 342 = .ok (.iload 12, 2) := by decide +kernel
theorem dL_acts_344 : decode cL_acts 344 = .ok (.if_icmp .ne 28, 3) := by decide +kernel
theorem dL_acts_347 : decode cL_acts 347 = .ok (.goto 11, 3) := by decide +kernel
theorem dL_acts_350 : decode cL_acts 350 = .ok (.iload 12, 2) := by decide +kernel
theorem dL_acts_352 : decode cL_acts 352 = .ok (.sipush (-10002), 3) := by decide +kernel
theorem dL_acts_355 : decode cL_acts 355 = .ok (.if_icmp .ne 17, 3) := by decide +kernel
theorem dL_acts_358 : decode cL_acts 358 = .ok (.aload_n 0, 1) := by decide +kernel
theorem dL_acts_359 : decode cL_acts 359 = .ok (.invokestatic 98, 3) := by decide +kernel
theorem dL_acts_362 : decode cL_acts 362 = .ok (.lload 7, 2) := by decide +kernel
theorem dL_acts_364 : decode cL_acts 364 = .ok (.lcmp, 1) := by decide +kernel
theorem dL_acts_365 : decode cL_acts 365 = .ok (.ifCond .ne 7, 3) := by decide +kernel
theorem dL_acts_368 : decode cL_acts 368 = .ok (.iconst 1, 1) := by decide +kernel
theorem dL_acts_369 : decode cL_acts 369 = .ok (.goto 4, 3) := by decide +kernel
theorem dL_acts_372 : decode cL_acts 372 = .ok (.iconst 0, 1) := by decide +kernel
theorem dL_acts_373 : decode cL_acts 373 = .ok (.ireturn, 1) := by decide +kernel
theorem dL_acts_374 : decode cL_acts 374 = .ok (.aload_n 0, 1) := by decide +kernel
theorem dL_acts_375 : decode cL_acts 375 = .ok (.iload 9, 2) := by decide +kernel
theorem dL_acts_377 : decode cL_acts 377 = .ok (.bipush 6, 2) := by decide +kernel
theorem dL_acts_379 : decode cL_acts 379 = .ok (.invokevirtual 28, 3) := by decide +kernel
theorem dL_acts_382 : decode cL_acts 382 = .ok (.istore 12, 2) := by decide +kernel
theorem dL_acts_384 : decode cL_acts 384 = .ok (.iload 10, 2) := by decide +kernel
theorem dL_acts_386 : decode cL_acts 386 = .ok (.iconst 3, 1) := by decide +kernel
theorem dL_acts_387 : decode cL_acts 387 = .ok (.if_icmp .ge 13, 3) := by decide +kernel
theorem dL_acts_390 : decode cL_acts 390 = .ok (.iload 11, 2) := by decide +kernel
theorem dL_acts_392 : decode cL_acts 392 = .ok (.iconst 1, 1) := by decide +kernel
theorem dL_acts_393 : decode cL_acts 393 = .ok (.if_icmp .eq 7, 3) := by decide +kernel
theorem dL_acts_396 : decode cL_acts 396 = .ok (.iconst 1, 1) := by decide +kernel
theorem dL_acts_397 : decode cL_acts 397 = .ok (.goto 4, 3) := by decide +kernel
theorem dL_acts_400 : decode cL_acts 400 = .ok (.iconst 0, 1) := by decide +kernel
theorem dL_acts_401 : decode cL_acts 401 = .ok (.istore 13, 2) := by decide +kernel
theorem dL_acts_403 : decode cL_acts 403 = .ok (.aload_n 0, 1) := by decide +kernel
theorem dL_acts_404 : decode cL_acts 404 = .ok (.iload 9, 2) := by decide +kernel
theorem dL_acts_406 : decode cL_acts 406 = .ok (.invokevirtual 59, 3) := by decide +kernel
theorem dL_acts_409 : decode cL_acts 409 = .ok (.iload 13, 2) := by decide +kernel
theorem dL_acts_411 : decode cL_acts 411 = .ok (.ifCond .eq 8, 3) := by decide +kernel
theorem dL_acts_414 : decode cL_acts 414 = .ok (.iload 12, 2) := by decide +kernel
theorem dL_acts_416 : decode cL_acts 416 = .ok (.goto 6, 3) := by decide +kernel
theorem dL_acts_419 : decode cL_acts 419 = .ok (.sipush (-10002), 3) := by decide +kernel
theorem dL_acts_422 : decode cL_acts 422 = .ok (.if_icmp .ne 44, 3) := by decide +kernel
theorem dL_acts_425 : decode cL_acts 425 = .ok (.iload 13, 2) := by decide +kernel
theorem dL_acts_427 : decode cL_acts 427 = .ok (.ifCond .eq 25, 3) := by decide +kernel
theorem dL_acts_430 : decode cL_acts 430 = .ok (.aload_n 0, 1) := by decide +kernel
theorem dL_acts_431 : decode cL_acts 431 = .ok (.iload 9, 2) := by decide +kernel
theorem dL_acts_433 : decode cL_acts 433 = .ok (.iconst 3, 1) := by decide +kernel
theorem dL_acts_434 : decode cL_acts 434 = .ok (.invokevirtual 28, 3) := by decide +kernel
theorem dL_acts_437 : decode cL_acts 437 = .ok (.iconst 4, 1) := by decide +kernel
theorem dL_acts_438 : decode cL_acts 438 = .ok (.if_icmp .ne 28, 3) := by decide +kernel
theorem dL_acts_441 : decode cL_acts 441 = .ok (.aload_n 0, 1) := by decide +kernel
theorem dL_acts_442 : decode cL_acts 442 = .ok (.iload 9, 2) := by decide +kernel
theorem dL_acts_444 : decode cL_acts 444 = .ok (.bipush 6, 2) := by decide +kernel
theorem dL_acts_446 : decode cL_acts 446 = .ok (.invokevirtual 28, 3) := by decide +kernel
theorem dL_acts_449 : decode cL_acts 449 = .ok (.ifCond .ne 17, 3) := by decide +kernel
theorem dL_acts_452 : decode cL_acts 452 = .ok (.aload_n 0, 1) := by decide +kernel
theorem dL_acts_453 : decode cL_acts 453 = .ok (.invokestatic 98, 3) := by decide +kernel
theorem dL_acts_456 : decode cL_acts 456 = .ok (.lload 7, 2) := by decide +kernel
theorem dL_acts_458 : decode cL_acts 458 = .ok (.lcmp, 1) := by decide +kernel
theorem dL_acts_459 : decode cL_acts 459 = .ok (.ifCond .ne 7, 3) := by decide +kernel
theorem dL_acts_462 : decode cL_acts 462 = .ok (.iconst 1, 1) := by decide +kernel
theorem dL_acts_463 : decode cL_acts 463 = .ok (.goto 4, 3) := by decide +kernel
theorem dL_acts_466 : decode cL_acts 466 = .ok (.iconst 0, 1) := by decide +kernel
theorem dL_acts_467 : decode cL_acts 467 = .ok (.ireturn, 1) := by decide +kernel
theorem dL_acts_468 : decode cL_acts 468 = .ok (.iconst 2, 1) := by decide +kernel
theorem dL_acts_469 : decode cL_acts 469 = .ok (.iload_n 2, 1) := by decide +kernel
theorem dL_acts_470 : decode cL_acts 470 = .ok (.iconst 3, 1) := by decide +kernel
theorem dL_acts_471 : decode cL_acts 471 = .ok (.ishr, 1) := by decide +kernel
theorem dL_acts_472 : decode cL_acts 472 = .ok (.iconst 3, 1) := by decide +kernel
theorem dL_acts_473 : decode cL_acts 473 = .ok (.invokestatic 95, 3) := by decide +kernel
theorem dL_acts_476 : decode cL_acts 476 = .ok (.iadd, 1) := by decide +kernel
theorem dL_acts_477 : decode cL_acts 477 = .ok (.istore 12, 2) := by decide +kernel
theorem dL_acts_479 : decode cL_acts 479 = .ok (.iload 10, 2) := by decide +kernel
theorem dL_acts_481 : decode cL_acts 481 = .ok (.iconst 1, 1) := by decide +kernel
theorem dL_acts_482 : decode cL_acts 482 = .ok (.if_icmp .eq 9, 3) := by decide +kernel
theorem dL_acts_485 : decode cL_acts 485 = .ok (.iload 10, 2) := by decide +kernel
theorem dL_acts_487 : decode cL_acts 487 = .ok (.iconst 2, 1) := by decide +kernel
theorem dL_acts_488 : decode cL_acts 488 = .ok (.if_icmp .ne 24, 3) := by decide +kernel
theorem dL_acts_491 : decode cL_acts 491 = .ok (.iload 11, 2) := by decide +kernel
theorem dL_acts_493 : decode cL_acts 493 = .ok (.ifCond .ne 19, 3) := by decide +kernel
theorem dL_acts_496 : decode cL_acts 496 = .ok (.iload 12, 2) := by decide +kernel
theorem dL_acts_498 : decode cL_acts 498 = .ok (.aload_n 0, 1) := by decide +kernel
theorem dL_acts_499 : decode cL_acts 499 = .ok (.iload 9, 2) := by decide +kernel
theorem dL_acts_501 : decode cL_acts 501 = .ok (.iconst 4, 1) := by decide +kernel
theorem dL_acts_502 : decode cL_acts 502 = .ok (.invokevirtual 28, 3) := by decide +kernel
theorem dL_acts_505 : decode cL_acts 505 = .ok (.if_icmp .le 7, 3) := by decide +kernel
theorem dL_acts_508 : decode cL_acts 508 = .ok (.iconst 1, 1) := by decide +kernel
theorem dL_acts_509 : decode cL_acts 509 = .ok (.goto 4, 3) := by decide +kernel
theorem dL_acts_512 : decode cL_acts 512 = .ok (.iconst 0, 1) := by decide +kernel
theorem dL_acts_513 : decode cL_acts 513 = .ok (.istore 13, 2) := by decide +kernel
theorem dL_acts_515 : decode cL_acts 515 = .ok (.aload_n 0, 1) := by decide +kernel
theorem dL_acts_516 : decode cL_acts 516 = .ok (.iload 9, 2) := by decide +kernel
theorem dL_acts_518 : decode cL_acts 518 = .ok (.iload 12, 2) := by decide +kernel
theorem dL_acts_520 : decode cL_acts 520 = .ok (.invokevirtual 62, 3) := by decide +kernel
theorem dL_acts_523 : decode cL_acts 523 = .ok (.istore 14, 2) := by decide +kernel
theorem dL_acts_525 : decode cL_acts 525 = .ok (.iload 13, 2) := by decide +kernel
theorem dL_acts_527 : decode cL_acts 527 = .ok (.ifCond .eq 43, 3) := by decide +kernel
theorem dL_acts_530 : decode cL_acts 530 = .ok (.iload 14, 2) := by decide +kernel
theorem dL_acts_532 : decode cL_acts 532 = .ok (.aload_n 0, 1) := by decide +kernel
theorem dL_acts_533 : decode cL_acts 533 = .ok (.iload 9, 2) := by decide +kernel
theorem dL_acts_535 : decode cL_acts 535 = .ok (.bipush 7, 2) := by decide +kernel
theorem dL_acts_537 : decode cL_acts 537 = .ok (.invokevirtual 28, 3) := by decide +kernel
theorem dL_acts_540 : decode cL_acts 540 = .ok (.if_icmp .le 52, 3) := by decide +kernel
theorem dL_acts_543 : decode cL_acts 543 = .ok (.aload_n 0, 1) := by decide +kernel
theorem dL_acts_544 : decode cL_acts 544 = .ok (.iload 9, 2) := by decide +kernel
theorem dL_acts_546 : decode cL_acts 546 = .ok (.bipush 8, 2) := by decide +kernel
theorem dL_acts_548 : decode cL_acts 548 = .ok (.invokevirtual 28, 3) := by decide +kernel
theorem dL_acts_551 : decode cL_acts 551 = .ok (.iconst 1, 1) := by decide +kernel
theorem dL_acts_552 : decode cL_acts 552 = .ok (.if_icmp .ne 40, 3) := by decide +kernel
theorem dL_acts_555 : decode cL_acts 555 = .ok (.aload_n 0, 1) := by decide +kernel
theorem dL_acts_556 : decode cL_acts 556 = .ok (.iload 9, 2) := by decide +kernel
theorem dL_acts_558 : decode cL_acts 558 = .ok (.invokevirtual 68, 3) := by decide +kernel
theorem dL_acts_561 : decode cL_acts 561 = .ok (.sipush (-10002), 3) := by decide +kernel
theorem dL_acts_564 : decode cL_acts 564 = .ok (.if_icmp .ne 28, 3) := by decide +kernel
theorem dL_acts_567 : decode cL_acts 567 = .ok (.goto 11, 3) := by decide +kernel
theorem dL_acts_570 : decode cL_acts 570 = .ok (.iload 14, 2) := by decide +kernel
theorem dL_acts_572 : decode cL_acts 572 = .ok (.sipush (-10002), 3) := by decide +kernel
theorem dL_acts_575 : decode cL_acts 575 = .ok (.if_icmp .ne 17, 3) := by decide +kernel
theorem dL_acts_578 : decode cL_acts 578 = .ok (.aload_n 0, 1) := by decide +kernel
theorem dL_acts_579 : decode cL_acts 579 = .ok (.invokestatic 98, 3) := by decide +kernel
theorem dL_acts_582 : decode cL_acts 582 = .ok (.lload 7, 2) := by decide +kernel
theorem dL_acts_584 : decode cL_acts 584 = .ok (.lcmp, 1) := by decide +kernel
theorem dL_acts_585 : decode cL_acts 585 = .ok (.ifCond .ne 7, 3) := by decide +kernel
theorem dL_acts_588 : decode cL_acts 588 = .ok (.iconst 1, 1) := by decide +kernel
theorem dL_acts_589 : decode cL_acts 589 = .ok (.goto 4, 3) := by decide +kernel
theorem dL_acts_592 : decode cL_acts 592 = .ok (.iconst 0, 1) := by decide +kernel
theorem dL_acts_593 : decode cL_acts 593 = .ok (.ireturn, 1) := by decide +kernel
theorem dL_acts_594 : decode cL_acts 594 = .ok (.aload_n 0, 1) := by decide +kernel
theorem dL_acts_595 : decode cL_acts 595 = .ok (.iload 9, 2) := by decide +kernel
theorem dL_acts_597 : decode cL_acts 597 = .ok (.iconst 0, 1) := by decide +kernel
theorem dL_acts_598 : decode cL_acts 598 = .ok (.invokevirtual 28, 3) := by decide +kernel
theorem dL_acts_601 : decode cL_acts 601 = .ok (.istore 12, 2) := by decide +kernel
theorem dL_acts_603 : decode cL_acts 603 = .ok (.aload_n 0, 1) := by decide +kernel
theorem dL_acts_604 : decode cL_acts 604 = .ok (.iload 12, 2) := by decide +kernel
theorem dL_acts_606 : decode cL_acts 606 = .ok (.iconst 3, 1) := by decide +kernel
theorem dL_acts_607 : decode cL_acts 607 = .ok (.invokevirtual 25, 3) := by decide +kernel
theorem dL_acts_610 : decode cL_acts 610 = .ok (.istore 13, 2) := by decide +kernel
theorem dL_acts_612 : decode cL_acts 612 = .ok (.aload_n 0, 1) := by decide +kernel
theorem dL_acts_613 : decode cL_acts 613 = .ok (.iload 12, 2) := by decide +kernel
theorem dL_acts_615 : decode cL_acts 615 = .ok (.iconst 4, 1) := by decide +kernel
theorem dL_acts_616 : decode cL_acts 616 = .ok (.invokevirtual 25, 3) := by decide +kernel
theorem dL_acts_619 : decode cL_acts 619 = .ok (.istore 14, 2) := by decide +kernel
theorem dL_acts_621 : decode cL_acts 621 = .ok (.aload_n 0, 1) := by decide +kernel
theorem dL_acts_622 : decode cL_acts 622 = .ok (.iload 9, 2) := by decide +kernel
theorem dL_acts_624 : decode cL_acts 624 = .ok (.iconst 1, 1) := by decide +kernel
theorem dL_acts_625 : decode cL_acts 625 = .ok (.iload_n 2, 1) := by decide +kernel
theorem dL_acts_626 : decode cL_acts 626 = .ok (.iconst 3, 1) := by decide +kernel
theorem dL_acts_627 : decode cL_acts 627 = .ok (.ishr, 1) := by decide +kernel
theorem dL_acts_628 : decode cL_acts 628 = .ok (.iconst 4, 1) := by decide +kernel
theorem dL_acts_629 : decode cL_acts 629 = .ok (.invokestatic 95, 3) := by decide +kernel
theorem dL_acts_632 : decode cL_acts 632 = .ok (.iadd, 1) := by decide +kernel
theorem dL_acts_633 : decode cL_acts 633 = .ok (.invokevirtual 65, 3) := by decide +kernel
theorem dL_acts_636 : decode cL_acts 636 = .ok (.istore 15, 2) := by decide +kernel
theorem dL_acts_638 : decode cL_acts 638 = .ok (.iload 11, 2) := by decide +kernel
theorem dL_acts_640 : decode cL_acts 640 = .ok (.iconst 1, 1) := by decide +kernel
theorem dL_acts_641 : decode cL_acts 641 = .ok (.if_icmp .eq 14, 3) := by decide +kernel
theorem dL_acts_644 : decode cL_acts 644 = .ok (.iload 15, 2) := by decide +kernel
theorem dL_acts_646 : decode cL_acts 646 = .ok (.sipush (-10002), 3) := by decide +kernel
theorem dL_acts_649 : decode cL_acts 649 = .ok (.if_icmp .ne 98, 3) := by decide +kernel
theorem dL_acts_652 : decode cL_acts 652 = .ok (.goto 81, 3) := by decide +kernel
theorem dL_acts_655 : decode cL_acts 655 = .ok (.iload 15, 2) := by decide +kernel
theorem dL_acts_657 : decode cL_acts 657 = .ok (.sipush (-10001), 3) := by decide +kernel
theorem dL_acts_660 : decode cL_acts 660 = .ok (.if_icmp .eq 73, 3) := by decide +kernel
theorem dL_acts_663 : decode cL_acts 663 = .ok (.iload 15, 2) := by decide +kernel
theorem dL_acts_665 : decode cL_acts 665 = .ok (.ifCond .lt 82, 3) := by decide +kernel
theorem dL_acts_668 : decode cL_acts 668 = .ok (.iload 15, 2) := by decide +kernel
theorem dL_acts_670 : decode cL_acts 670 = .ok (.iconst 2, 1) := by decide +kernel
theorem dL_acts_671 : decode cL_acts 671 = .ok (.if_icmp .gt 76, 3) := by decide +kernel
theorem dL_acts_674 : decode cL_acts 674 = .ok (.aload_n 0, 1) := by decide +kernel
theorem dL_acts_675 : decode cL_acts 675 = .ok (.iload 9, 2) := by decide +kernel
theorem dL_acts_677 : decode cL_acts 677 = .ok (.bipush 8, 2) := by decide +kernel
theorem dL_acts_679 : decode cL_acts 679 = .ok (.invokevirtual 28, 3) := by decide +kernel
theorem dL_acts_682 : decode cL_acts 682 = .ok (.iconst 2, 1) := by decide +kernel
theorem dL_acts_683 : decode cL_acts 683 = .ok (.if_icmp .ne 64, 3) := by decide +kernel
theorem dL_acts_686 : decode cL_acts 686 = .ok (.aload_n 0, 1) := by decide +kernel
theorem dL_acts_687 : decode cL_acts 687 = .ok (.iload 12, 2) := by decide +kernel
theorem dL_acts_689 : decode cL_acts 689 = .ok (.iconst 3, 1) := by decide +kernel
theorem dL_acts_690 : decode cL_acts 690 = .ok (.invokevirtual 25, 3) := by decide +kernel
theorem dL_acts_693 : decode cL_acts 693 = .ok (.iload 13, 2) := by decide +kernel
theorem dL_acts_695 : decode cL_acts 695 = .ok (.iload 15, 2) := by decide +kernel
theorem dL_acts_697 : decode cL_acts 697 = .ok (.iconst 2, 1) := by decide +kernel
theorem dL_acts_698 : decode cL_acts 698 = .ok (.if_icmp .ne 7, 3) := by decide +kernel
theorem dL_acts_701 : decode cL_acts 701 = .ok (.iconst 1, 1) := by decide +kernel
theorem dL_acts_702 : decode cL_acts 702 = .ok (.goto 4, 3) := by decide +kernel
theorem dL_acts_705 : decode cL_acts 705 = .ok (.iconst 0, 1) := by decide +kernel
theorem dL_acts_706 : decode cL_acts 706 = .ok (.iadd, 1) := by decide +kernel
theorem dL_acts_707 : decode cL_acts 707 = .ok (.if_icmp .ne 40, 3) := by decide +kernel
theorem dL_acts_710 : decode cL_acts 710 = .ok (.aload_n 0, 1) := by decide +kernel
theorem dL_acts_711 : decode cL_acts 711 = .ok (.iload 12, 2) := by decide +kernel
theorem dL_acts_713 : decode cL_acts 713 = .ok (.iconst 4, 1) := by decide +kernel
theorem dL_acts_714 : decode cL_acts 714 = .ok (.invokevirtual 25, 3) := by decide +kernel
theorem dL_acts_717 : decode cL_acts 717 = .ok (.iload 14, 2) := by decide +kernel
theorem dL_acts_719 : decode cL_acts 719 = .ok (.iload 15, 2) := by decide +kernel
theorem dL_acts_721 : decode cL_acts 721 = .ok (.ifCond .ne 7, 3) := by decide +kernel
theorem dL_acts_724 : decode cL_acts 724 = .ok (.iconst 1, 1) := by decide +kernel
theorem dL_acts_725 : decode cL_acts 725 = .ok (.goto 4, 3) := by decide +kernel
theorem dL_acts_728 : decode cL_acts 728 = .ok (.iconst 0, 1) := by decide +kernel
theorem dL_acts_729 : decode cL_acts 729 = .ok (.iadd, 1) := by decide +kernel
theorem dL_acts_730 : decode cL_acts 730 = .ok (.if_icmp .ne 17, 3) := by decide +kernel
theorem dL_acts_733 : decode cL_acts 733 = .ok (.aload_n 0, 1) := by decide +kernel
theorem dL_acts_734 : decode cL_acts 734 = .ok (.invokestatic 98, 3) := by decide +kernel
theorem dL_acts_737 : decode cL_acts 737 = .ok (.lload 7, 2) := by decide +kernel
theorem dL_acts_739 : decode cL_acts 739 = .ok (.lcmp, 1) := by decide +kernel
theorem dL_acts_740 : decode cL_acts 740 = .ok (.ifCond .ne 7, 3) := by decide +kernel
theorem dL_acts_743 : decode cL_acts 743 = .ok (.iconst 1, 1) := by decide +kernel
theorem dL_acts_744 : decode cL_acts 744 = .ok (.goto 4, 3) := by decide +kernel
theorem dL_acts_747 : decode cL_acts 747 = .ok (.iconst 0, 1) := by decide +kernel
theorem dL_acts_748 : decode cL_acts 748 = .ok (.ireturn, 1) := by decide +kernel
theorem dL_acts_749 : decode cL_acts 749 = .ok (.aload_n 0, 1) := by decide +kernel
theorem dL_acts_750 : decode cL_acts 750 = .ok (.iload 9, 2) := by decide +kernel
theorem dL_acts_752 : decode cL_acts 752 = .ok (.bipush 7, 2) := by decide +kernel
theorem dL_acts_754 : decode cL_acts 754 = .ok (.invokevirtual 28, 3) := by decide +kernel
theorem dL_acts_757 : decode cL_acts 757 = .ok (.istore 12, 2) := by decide +kernel
theorem dL_acts_759 : decode cL_acts 759 = .ok (.aload_n 0, 1) := by decide +kernel
theorem dL_acts_760 : decode cL_acts 760 = .ok (.iload 9, 2) := by decide +kernel
theorem dL_acts_762 : decode cL_acts 762 = .ok (.invokevirtual 68, 3) := by decide +kernel
theorem dL_acts_765 : decode cL_acts 765 = .ok (.istore 13, 2) := by decide +kernel
theorem dL_acts_767 : decode cL_acts 767 = .ok (.iload 10, 2) := by decide +kernel
theorem dL_acts_769 : decode cL_acts 769 = .ok (.iconst 1, 1) := by decide +kernel
theorem dL_acts_770 : decode cL_acts 770 = .ok (.if_icmp .eq 9, 3) := by decide +kernel
theorem dL_acts_773 : decode cL_acts 773 = .ok (.iload 10, 2) := by decide +kernel
theorem dL_acts_775 : decode cL_acts 775 = .ok (.iconst 2, 1) := by decide +kernel
theorem dL_acts_776 : decode cL_acts 776 = .ok (.if_icmp .ne 13, 3) := by decide +kernel
theorem dL_acts_779 : decode cL_acts 779 = .ok (.iload 11, 2) := by decide +kernel
theorem dL_acts_781 : decode cL_acts 781 = .ok (.iconst 1, 1) := by decide +kernel
theorem dL_acts_782 : decode cL_acts 782 = .ok (.if_icmp .eq 7, 3) := by decide +kernel
theorem dL_acts_785 : decode cL_acts 785 = .ok (.iconst 1, 1) := by decide +kernel
theorem dL_acts_786 : decode cL_acts 786 = .ok (.goto 4, 3) := by decide +kernel
theorem dL_acts_789 : decode cL_acts 789 = .ok (.iconst 0, 1) := by decide +kernel
theorem dL_acts_790 : decode cL_acts 790 = .ok (.istore 14, 2) := by decide +kernel
theorem dL_acts_792 : decode cL_acts 792 = .ok (.iload 14, 2) := by decide +kernel
theorem dL_acts_794 : decode cL_acts 794 = .ok (.ifCond .ne 14, 3) := by decide +kernel
theorem dL_acts_797 : decode cL_acts 797 = .ok (.iload 13, 2) := by decide +kernel
theorem dL_acts_799 : decode cL_acts 799 = .ok (.sipush (-10002), 3) := by decide +kernel
theorem dL_acts_802 : decode cL_acts 802 = .ok (.if_icmp .ne 70, 3) := by decide +kernel
theorem dL_acts_805 : decode cL_acts 805 = .ok (.goto 53, 3) := by decide +kernel
theorem dL_acts_808 : decode cL_acts 808 = .ok (.iload 13, 2) := by decide +kernel
theorem dL_acts_810 : decode cL_acts 810 = .ok (.ifCond .ne 17, 3) := by decide +kernel
theorem dL_acts_813 : decode cL_acts 813 = .ok (.aload_n 0, 1) := by decide +kernel
theorem dL_acts_814 : decode cL_acts 814 = .ok (.iload 9, 2) := by decide +kernel
theorem dL_acts_816 : decode cL_acts 816 = .ok (.iconst 3, 1) := by decide +kernel
theorem dL_acts_817 : decode cL_acts 817 = .ok (.invokevirtual 28, 3) := by decide +kernel
theorem dL_acts_820 : decode cL_acts 820 = .ok (.iconst 2, 1) := by decide +kernel
theorem dL_acts_821 : decode cL_acts 821 = .ok (.if_icmp .ne 51, 3) := by decide +kernel
theorem dL_acts_824 : decode cL_acts 824 = .ok (.goto 34, 3) := by decide +kernel
theorem dL_acts_827 : decode cL_acts 827 = .ok (.iload 13, 2) := by decide +kernel
theorem dL_acts_829 : decode cL_acts 829 = .ok (.iload 12, 2) := by decide +kernel
theorem dL_acts_831 : decode cL_acts 831 = .ok (.if_icmp .ne 41, 3) := by decide +kernel
theorem dL_acts_834 : decode cL_acts 834 = .ok (.aload_n 0, 1) := by decide +kernel
theorem dL_acts_835 : decode cL_acts 835 = .ok (.iload 9, 2) := by decide +kernel
theorem dL_acts_837 : decode cL_acts 837 = .ok (.iconst 3, 1) := by decide +kernel
theorem dL_acts_838 : decode cL_acts 838 = .ok (.invokevirtual 28, 3) := by decide +kernel
theorem dL_acts_841 : decode cL_acts 841 = .ok (.iconst 3, 1) := by decide +kernel
theorem dL_acts_842 : decode cL_acts 842 = .ok (.if_icmp .ne 30, 3) := by decide +kernel
theorem dL_acts_845 : decode cL_acts 845 = .ok (.aload_n 0, 1) := by decide +kernel
theorem dL_acts_846 : decode cL_acts 846 = .ok (.iload 9, 2) := by decide +kernel
theorem dL_acts_848 : decode cL_acts 848 = .ok (.bipush 9, 2) := by decide +kernel
theorem dL_acts_850 : decode cL_acts 850 = .ok (.invokevirtual 28, 3) := by decide +kernel
theorem dL_acts_853 : decode cL_acts 853 = .ok (.iload 12, 2) := by decide +kernel
theorem dL_acts_855 : decode cL_acts 855 = .ok (.if_icmp .ne 17, 3) := by decide +kernel
theorem dL_acts_858 : decode cL_acts 858 = .ok (.aload_n 0, 1) := by decide +kernel
theorem dL_acts_859 : decode cL_acts 859 = .ok (.invokestatic 98, 3) := by decide +kernel
theorem dL_acts_862 : decode cL_acts 862 = .ok (.lload 7, 2) := by decide +kernel
theorem dL_acts_864 : decode cL_acts 864 = .ok (.lcmp, 1) := by decide +kernel
theorem dL_acts_865 : decode cL_acts 865 = .ok (.ifCond .ne 7, 3) := by decide +kernel
theorem dL_acts_868 : decode cL_acts 868 = .ok (.iconst 1, 1) := by decide +kernel
theorem dL_acts_869 : decode cL_acts 869 = .ok (.goto 4, 3) := by decide +kernel
theorem dL_acts_872 : decode cL_acts 872 = .ok (.iconst 0, 1) := by decide +kernel
theorem dL_acts_873 : decode cL_acts 873 = .ok (.ireturn, 1) := by decide +kernel
theorem dL_acts_874 : decode cL_acts 874 = .ok (.aload_n 0, 1) := by decide +kernel
theorem dL_acts_875 : decode cL_acts 875 = .ok (.iload 9, 2) := by decide +kernel
theorem dL_acts_877 : decode cL_acts 877 = .ok (.bipush 10, 2) := by decide +kernel
theorem dL_acts_879 : decode cL_acts 879 = .ok (.invokevirtual 28, 3) := by decide +kernel
theorem dL_acts_882 : decode cL_acts 882 = .ok (.istore 12, 2) := by decide +kernel
theorem dL_acts_884 : decode cL_acts 884 = .ok (.aload_n 0, 1) := by decide +kernel
theorem dL_acts_885 : decode cL_acts 885 = .ok (.iload 9, 2) := by decide +kernel
theorem dL_acts_887 : decode cL_acts 887 = .ok (.bipush 11, 2) := by decide +kernel
theorem dL_acts_889 : decode cL_acts 889 = .ok (.invokevirtual 28, 3) := by decide +kernel
theorem dL_acts_892 : decode cL_acts 892 = .ok (.istore 13, 2) := by decide +kernel
theorem dL_acts_894 : decode cL_acts 894 = .ok (.iload_n 2, 1) := by decide +kernel
theorem dL_acts_895 : decode cL_acts 895 = .ok (.iconst 3, 1) := by decide +kernel
theorem dL_acts_896 : decode cL_acts 896 = .ok (.ishr, 1) := by decide +kernel
theorem dL_acts_897 : decode cL_acts 897 = .ok (.iconst 2, 1) := by decide +kernel
theorem dL_acts_898 : decode cL_acts 898 = .ok (.invokestatic 95, 3) := by decide +kernel
theorem dL_acts_901 : decode cL_acts 901 = .ok (.istore 14, 2) := by decide +kernel
theorem dL_acts_903 : decode cL_acts 903 = .ok (.aload_n 0, 1) := by decide +kernel
theorem dL_acts_904 : decode cL_acts 904 = .ok (.iload 5, 2) := by decide +kernel
theorem dL_acts_906 : decode cL_acts 906 = .ok (.iload 9, 2) := by decide +kernel
theorem dL_acts_908 : decode cL_acts 908 = .ok (.iload 14, 2) := by decide +kernel
theorem dL_acts_910 : decode cL_acts 910 = .ok (.invokevirtual 71, 3) := by decide +kernel
theorem dL_acts_913 : decode cL_acts 913 = .ok (.istore 15, 2) := by decide +kernel
theorem dL_acts_915 : decode cL_acts 915 = .ok (.iload 15, 2) := by decide +kernel
theorem dL_acts_917 : decode cL_acts 917 = .ok (.sipush (-10002), 3) := by decide +kernel
theorem dL_acts_920 : decode cL_acts 920 = .ok (.if_icmp .eq 122, 3) := by decide +kernel
theorem dL_acts_923 : decode cL_acts 923 = .ok (.iload 10, 2) := by decide +kernel
theorem dL_acts_925 : decode cL_acts 925 = .ok (.iconst 3, 1) := by decide +kernel
theorem dL_acts_926 : decode cL_acts 926 = .ok (.if_icmp .ne 120, 3) := by decide +kernel
theorem dL_acts_929 : decode cL_acts 929 = .ok (.iload 15, 2) := by decide +kernel
theorem dL_acts_931 : decode cL_acts 931 = .ok (.ifCond .ne 40, 3) := by decide +kernel
theorem dL_acts_934 : decode cL_acts 934 = .ok (.aload_n 0, 1) := by decide +kernel
theorem dL_acts_935 : decode cL_acts 935 = .ok (.iload 9, 2) := by decide +kernel
theorem dL_acts_937 : decode cL_acts 937 = .ok (.bipush 10, 2) := by decide +kernel
theorem dL_acts_939 : decode cL_acts 939 = .ok (.invokevirtual 28, 3) := by decide +kernel
theorem dL_acts_942 : decode cL_acts 942 = .ok (.iload 12, 2) := by decide +kernel
theorem dL_acts_944 : decode cL_acts 944 = .ok (.iload 14, 2) := by decide +kernel
theorem dL_acts_946 : decode cL_acts 946 = .ok (.iadd, 1) := by decide +kernel
theorem dL_acts_947 : decode cL_acts 947 = .ok (.if_icmp .ne 99, 3) := by decide +kernel
theorem dL_acts_950 : decode cL_acts 950 = .ok (.aload_n 0, 1) := by decide +kernel
theorem dL_acts_951 : decode cL_acts 951 = .ok (.iload 9, 2) := by decide +kernel
theorem dL_acts_953 : decode cL_acts 953 = .ok (.bipush 11, 2) := by decide +kernel
theorem dL_acts_955 : decode cL_acts 955 = .ok (.invokevirtual 28, 3) := by decide +kernel
theorem dL_acts_958 : decode cL_acts 958 = .ok (.iload 13, 2) := by decide +kernel
theorem dL_acts_960 : decode cL_acts 960 = .ok (.iconst 1, 1) := by decide +kernel
theorem dL_acts_961 : decode cL_acts 961 = .ok (.iadd, 1) := by decide +kernel
theorem dL_acts_962 : decode cL_acts 962 = .ok (.iload 14, 2) := by decide +kernel
theorem dL_acts_964 : decode cL_acts 964 = .ok (.isub, 1) := by decide +kernel
theorem dL_acts_965 : decode cL_acts 965 = .ok (.if_icmp .ne 81, 3) := by decide +kernel
theorem dL_acts_968 : decode cL_acts 968 = .ok (.goto 74, 3) := by decide +kernel
theorem dL_acts_971 : decode cL_acts 971 = .ok (.iload 15, 2) := by decide +kernel
theorem dL_acts_973 : decode cL_acts 973 = .ok (.iconst 1, 1) := by decide +kernel
theorem dL_acts_974 : decode cL_acts 974 = .ok (.if_icmp .ne 30, 3) := by decide +kernel
theorem dL_acts_977 : decode cL_acts 977 = .ok (.iload 14, 2) := by decide +kernel
theorem dL_acts_979 : decode cL_acts 979 = .ok (.iconst 1, 1) := by decide +kernel
theorem dL_acts_980 : decode cL_acts 980 = .ok (.if_icmp .ne 66, 3) := by decide +kernel
theorem dL_acts_983 : decode cL_acts 983 = .ok (.iload 12, 2) := by decide +kernel
theorem dL_acts_985 : decode cL_acts 985 = .ok (.iconst 1, 1) := by decide +kernel
theorem dL_acts_986 : decode cL_acts 986 = .ok (.if_icmp .ne 60, 3) := by decide +kernel
theorem dL_acts_989 : decode cL_acts 989 = .ok (.aload_n 0, 1) := by decide +kernel
theorem dL_acts_990 : decode cL_acts 990 = .ok (.iload 9, 2) := by decide +kernel
theorem dL_acts_992 : decode cL_acts 992 = .ok (.bipush 12, 2) := by decide +kernel
theorem dL_acts_994 : decode cL_acts 994 = .ok (.invokevirtual 28, 3) := by decide +kernel
theorem dL_acts_997 : decode cL_acts 997 = .ok (.iconst 1, 1) := by decide +kernel
theorem dL_acts_998 : decode cL_acts 998 = .ok (.if_icmp .ne 48, 3) := by decide +kernel
theorem dL_acts_1001 : decode cL_acts 1001 = .ok (.goto 41, 3) := by decide +kernel
theorem dL_acts_1004 : decode cL_acts 1004 = .ok (.iload 14, 2) := by decide +kernel
theorem dL_acts_1006 : decode cL_acts 1006 = .ok (.ifCond .ne 40, 3) := by decide +kernel
theorem dL_acts_1009 : decode cL_acts 1009 = .ok (.iload 13, 2) := by decide +kernel
theorem dL_acts_1011 : decode cL_acts 1011 = .ok (.iconst 1, 1) := by decide +kernel
theorem dL_acts_1012 : decode cL_acts 1012 = .ok (.if_icmp .ne 34, 3) := by decide +kernel
theorem dL_acts_1015 : decode cL_acts 1015 = .ok (.iload 15, 2) := by decide +kernel
theorem dL_acts_1017 : decode cL_acts 1017 = .ok (.iconst 2, 1) := by decide +kernel
theorem dL_acts_1018 : decode cL_acts 1018 = .ok (.if_icmp .ne 28, 3) := by decide +kernel
theorem dL_acts_1021 : decode cL_acts 1021 = .ok (.aload_n 0, 1) := by decide +kernel
theorem dL_acts_1022 : decode cL_acts 1022 = .ok (.iload 9, 2) := by decide +kernel
theorem dL_acts_1024 : decode cL_acts 1024 = .ok (.iconst 3, 1) := by decide +kernel
theorem dL_acts_1025 : decode cL_acts 1025 = .ok (.invokevirtual 28, 3) := by decide +kernel
theorem dL_acts_1028 : decode cL_acts 1028 = .ok (.ifCond .ne 18, 3) := by decide +kernel
theorem dL_acts_1031 : decode cL_acts 1031 = .ok (.aload_n 0, 1) := by decide +kernel
theorem dL_acts_1032 : decode cL_acts 1032 = .ok (.iload 9, 2) := by decide +kernel
theorem dL_acts_1034 : decode cL_acts 1034 = .ok (.bipush 6, 2) := by decide +kernel
theorem dL_acts_1036 : decode cL_acts 1036 = .ok (.invokevirtual 28, 3) := by decide +kernel
theorem dL_acts_1039 : decode cL_acts 1039 = .ok (.ifCond .ne 7, 3) := by decide +kernel
theorem dL_acts_1042 : decode cL_acts 1042 = .ok (.iconst 1, 1) := by decide +kernel
theorem dL_acts_1043 : decode cL_acts 1043 = .ok (.goto 4, 3) := by decide +kernel
theorem dL_acts_1046 : decode cL_acts 1046 = .ok (.iconst 0, 1) := by decide +kernel
theorem dL_acts_1047 : decode cL_acts 1047 = .ok (.istore 16, 2) := by decide +kernel
theorem dL_acts_1049 : decode cL_acts 1049 = .ok (.iload 16, 2) := by decide +kernel
theorem dL_acts_1051 : decode cL_acts 1051 = .ok (.ifCond .eq 17, 3) := by decide +kernel
theorem dL_acts_1054 : decode cL_acts 1054 = .ok (.aload_n 0, 1) := by decide +kernel
theorem dL_acts_1055 : decode cL_acts 1055 = .ok (.invokestatic 98, 3) := by decide +kernel
theorem dL_acts_1058 : decode cL_acts 1058 = .ok (.lload 7, 2) := by decide +kernel
theorem dL_acts_1060 : decode cL_acts 1060 = .ok (.lcmp, 1) := by decide +kernel
theorem dL_acts_1061 : decode cL_acts 1061 = .ok (.ifCond .ne 7, 3) := by decide +kernel
theorem dL_acts_1064 : decode cL_acts 1064 = .ok (.iconst 1, 1) := by decide +kernel
theorem dL_acts_1065 : decode cL_acts 1065 = .ok (.goto 4, 3) := by decide +kernel
theorem dL_acts_1068 : decode cL_acts 1068 = .ok (.iconst 0, 1) := by decide +kernel
theorem dL_acts_1069 : decode cL_acts 1069 = .ok (.ireturn, 1) := by decide +kernel
theorem dL_acts_1070 : decode cL_acts 1070 = .ok (.iconst 1, 1) := by decide +kernel
theorem dL_acts_1071 : decode cL_acts 1071 = .ok (.iload_n 2, 1) := by decide +kernel
theorem dL_acts_1072 : decode cL_acts 1072 = .ok (.sipush 500, 3) := by decide +kernel
theorem dL_acts_1075 : decode cL_acts 1075 = .ok (.invokestatic 95, 3) := by decide +kernel
theorem dL_acts_1078 : decode cL_acts 1078 = .ok (.iadd, 1) := by decide +kernel
theorem dL_acts_1079 : decode cL_acts 1079 = .ok (.istore 12, 2) := by decide +kernel
theorem dL_acts_1081 : decode cL_acts 1081 = .ok (.aload_n 0, 1) := by decide +kernel
theorem dL_acts_1082 : decode cL_acts 1082 = .ok (.iload 12, 2) := by decide +kernel
theorem dL_acts_1084 : decode cL_acts 1084 = .ok (.invokevirtual 40, 3) := by decide +kernel
theorem dL_acts_1087 : decode cL_acts 1087 = .ok (.istore 13, 2) := by decide +kernel
theorem dL_acts_1089 : decode cL_acts 1089 = .ok (.iload 13, 2) := by decide +kernel
theorem dL_acts_1091 : decode cL_acts 1091 = .ok (.sipush (-10002), 3) := by decide +kernel
theorem dL_acts_1094 : decode cL_acts 1094 = .ok (.if_icmp .ne 21, 3) := by decide +kernel
theorem dL_acts_1097 : decode cL_acts 1097 = .ok (.aload_n 0, 1) := by decide +kernel
theorem dL_acts_1098 : decode cL_acts 1098 = .ok (.invokestatic 98, 3) := by decide +kernel
theorem dL_acts_1101 : decode cL_acts 1101 = .ok (.lload 7, 2) := by decide +kernel
theorem dL_acts_1103 : decode cL_acts 1103 = .ok (.lcmp, 1) := by decide +kernel
theorem dL_acts_1104 : decode cL_acts 1104 = .ok (.ifCond .ne 7, 3) := by decide +kernel
theorem dL_acts_1107 : decode cL_acts 1107 = .ok (.iconst 1, 1) := by decide +kernel
theorem dL_acts_1108 : decode cL_acts 1108 = .ok (.goto 36, 3) := by decide +kernel
theorem dL_acts_1111 : decode cL_acts 1111 = .ok (.iconst 0, 1) := by decide +kernel
theorem dL_acts_1112 : decode cL_acts 1112 = .ok (.goto 32, 3) := by decide +kernel
theorem dL_acts_1115 : decode cL_acts 1115 = .ok (.aload_n 0, 1) := by decide +kernel
theorem dL_acts_1116 : decode cL_acts 1116 = .ok (.invokestatic 98, 3) := by decide +kernel
theorem dL_acts_1119 : decode cL_acts 1119 = .ok (.lload 7, 2) := by decide +kernel
theorem dL_acts_1121 : decode cL_acts 1121 = .ok (.iload 12, 2) := by decide +kernel
theorem dL_acts_1123 : decode cL_acts 1123 = .ok (.i2l, 1) := by decide +kernel
theorem dL_acts_1124 : decode cL_acts 1124 = .ok (.ladd, 1) := by decide +kernel
theorem dL_acts_1125 : decode cL_acts 1125 = .ok (.lcmp, 1) := by decide +kernel
theorem dL_acts_1126 : decode cL_acts 1126 = .ok (.ifCond .ne 17, 3) := by decide +kernel
theorem dL_acts_1129 : decode cL_acts 1129 = .ok (.iload 13, 2) := by decide +kernel
theorem dL_acts_1131 : decode cL_acts 1131 = .ok (.aload_n 0, 1) := by decide +kernel
theorem dL_acts_1132 : decode cL_acts 1132 = .ok (.iconst 2, 1) := by decide +kernel
theorem dL_acts_1133 : decode cL_acts 1133 = .ok (.invokevirtual 17, 3) := by decide +kernel
theorem dL_acts_1136 : decode cL_acts 1136 = .ok (.if_icmp .ne 7, 3) := by decide +kernel
theorem dL_acts_1139 : decode cL_acts 1139 = .ok (.iconst 1, 1) := by decide +kernel
theorem dL_acts_1140 : decode cL_acts 1140 = .ok (.goto 4, 3) := by decide +kernel
theorem dL_acts_1143 : decode cL_acts 1143 = .ok (.iconst 0, 1) := by decide +kernel
theorem dL_acts_1144 : decode cL_acts 1144 = .ok (.ireturn, 1) := by decide +kernel
theorem dL_acts_1145 : decode cL_acts 1145 = .ok (.iload_n 2, 1) := by decide +kernel
theorem dL_acts_1146 : decode cL_acts 1146 = .ok (.iconst 2, 1) := by decide +kernel
theorem dL_acts_1147 : decode cL_acts 1147 = .ok (.invokestatic 95, 3) := by decide +kernel
theorem dL_acts_1150 : decode cL_acts 1150 = .ok (.ifCond .ne 7, 3) := by decide +kernel
theorem dL_acts_1153 : decode cL_acts 1153 = .ok (.iconst 1, 1) := by decide +kernel
theorem dL_acts_1154 : decode cL_acts 1154 = .ok (.goto 4, 3) := by decide +kernel
theorem dL_acts_1157 : decode cL_acts 1157 = .ok (.iconst 0, 1) := by decide +kernel
theorem dL_acts_1158 : decode cL_acts 1158 = .ok (.istore 12, 2) := by decide +kernel
theorem dL_acts_1160 : decode cL_acts 1160 = .ok (.iload 12, 2) := by decide +kernel
theorem dL_acts_1162 : decode cL_acts 1162 = .ok (.ifCond .eq 22, 3) := by decide +kernel
theorem dL_acts_1165 : decode cL_acts 1165 = .ok (.aload_n 0, 1) := by decide +kernel
theorem dL_acts_1166 : decode cL_acts 1166 = .ok (.bipush 50, 2) := by decide +kernel
theorem dL_acts_1168 : decode cL_acts 1168 = .ok (.iload_n 2, 1) := by decide +kernel
theorem dL_acts_1169 : decode cL_acts 1169 = .ok (.iconst 3, 1) := by decide +kernel
theorem dL_acts_1170 : decode cL_acts 1170 = .ok (.ishr, 1) := by decide +kernel
theorem dL_acts_1171 : decode cL_acts 1171 = .ok (.sipush 151, 3) := by decide +kernel
theorem dL_acts_1174 : decode cL_acts 1174 = .ok (.invokestatic 95, 3) := by decide +kernel
theorem dL_acts_1177 : decode cL_acts 1177 = .ok (.iadd, 1) := by decide +kernel
theorem dL_acts_1178 : decode cL_acts 1178 = .ok (.invokevirtual 43, 3) := by decide +kernel
theorem dL_acts_1181 : decode cL_acts 1181 = .ok (.goto 15, 3) := by decide +kernel
theorem dL_acts_1184 : decode cL_acts 1184 = .ok (.aload_n 0, 1) := by decide +kernel
theorem dL_acts_1185 : decode cL_acts 1185 = .ok (.iload_n 2, 1) := by decide +kernel
theorem dL_acts_1186 : decode cL_acts 1186 = .ok (.iconst 3, 1) := by decide +kernel
theorem dL_acts_1187 : decode cL_acts 1187 = .ok (.ishr, 1) := by decide +kernel
theorem dL_acts_1188 : decode cL_acts 1188 = .ok (.bipush 60, 2) := by decide +kernel
theorem dL_acts_1190 : decode cL_acts 1190 = .ok (.invokestatic 95, 3) := by decide +kernel
theorem dL_acts_1193 : decode cL_acts 1193 = .ok (.invokevirtual 46, 3) := by decide +kernel
theorem dL_acts_1196 : decode cL_acts 1196 = .ok (.istore 13, 2) := by decide +kernel
theorem dL_acts_1198 : decode cL_acts 1198 = .ok (.iload 13, 2) := by decide +kernel
theorem dL_acts_1200 : decode cL_acts 1200 = .ok (.ifCond .lt 17, 3) := by decide +kernel
theorem dL_acts_1203 : decode cL_acts 1203 = .ok (.aload_n 0, 1) := by decide +kernel
theorem dL_acts_1204 : decode cL_acts 1204 = .ok (.invokestatic 98, 3) := by decide +kernel
theorem dL_acts_1207 : decode cL_acts 1207 = .ok (.lload 7, 2) := by decide +kernel
theorem dL_acts_1209 : decode cL_acts 1209 = .ok (.lcmp, 1) := by decide +kernel
theorem dL_acts_1210 : decode cL_acts 1210 = .ok (.ifCond .ne 7, 3) := by decide +kernel
theorem dL_acts_1213 : decode cL_acts 1213 = .ok (.iconst 1, 1) := by decide +kernel
theorem dL_acts_1214 : decode cL_acts 1214 = .ok (.goto 4, 3) := by decide +kernel
theorem dL_acts_1217 : decode cL_acts 1217 = .ok (.iconst 0, 1) := by decide +kernel
theorem dL_acts_1218 : decode cL_acts 1218 = .ok (.ireturn, 1) := by decide +kernel
theorem dL_acts_1219 : decode cL_acts 1219 = .ok (.iconst 1, 1) := by decide +kernel
theorem dL_acts_1220 : decode cL_acts 1220 = .ok (.iload_n 2, 1) := by decide +kernel
theorem dL_acts_1221 : decode cL_acts 1221 = .ok (.sipush 130, 3) := by decide +kernel
theorem dL_acts_1224 : decode cL_acts 1224 = .ok (.invokestatic 95, 3) := by decide +kernel
theorem dL_acts_1227 : decode cL_acts 1227 = .ok (.iadd, 1) := by decide +kernel
theorem dL_acts_1228 : decode cL_acts 1228 = .ok (.istore 12, 2) := by decide +kernel
theorem dL_acts_1230 : decode cL_acts 1230 = .ok (.aload_n 0, 1) := by decide +kernel
theorem dL_acts_1231 : decode cL_acts 1231 = .ok (.iconst 0, 1) := by decide +kernel
theorem dL_acts_1232 : decode cL_acts 1232 = .ok (.invokevirtual 17, 3) := by decide +kernel
theorem dL_acts_1235 : decode cL_acts 1235 = .ok (.iload 12, 2) := by decide +kernel
theorem dL_acts_1237 : decode cL_acts 1237 = .ok (.iadd, 1) := by decide +kernel
theorem dL_acts_1238 : decode cL_acts 1238 = .ok (.bipush 90, 2) := by decide +kernel
theorem dL_acts_1240 : decode cL_acts 1240 = .ok (.idiv, 1) := by decide +kernel
theorem dL_acts_1241 : decode cL_acts 1241 = .ok (.aload_n 0, 1) := by decide +kernel
theorem dL_acts_1242 : decode cL_acts 1242 = .ok (.iconst 1, 1) := by decide +kernel
theorem dL_acts_1243 : decode cL_acts 1243 = .ok (.invokevirtual 17, 3) := by decide +kernel
theorem dL_acts_1246 : decode cL_acts 1246 = .ok (.isub, 1) := by decide +kernel
theorem dL_acts_1247 : decode cL_acts 1247 = .ok (.istore 13, 2) := by decide +kernel
theorem dL_acts_1249 : decode cL_acts 1249 = .ok (.aload_n 0, 1) := by decide +kernel
theorem dL_acts_1250 : decode cL_acts 1250 = .ok (.bipush 8, 2) := by decide +kernel
theorem dL_acts_1252 : decode cL_acts 1252 = .ok (.invokevirtual 17, 3) := by decide +kernel
theorem dL_acts_1255 : decode cL_acts 1255 = .ok (.istore 14, 2) := by decide +kernel
theorem dL_acts_1257 : decode cL_acts 1257 = .ok (.aload_n 0, 1) := by decide +kernel
theorem dL_acts_1258 : decode cL_acts 1258 = .ok (.bipush 9, 2) := by decide +kernel
theorem dL_acts_1260 : decode cL_acts 1260 = .ok (.invokevirtual 17, 3) := by decide +kernel
theorem dL_acts_1263 : decode cL_acts 1263 = .ok (.istore 15, 2) := by decide +kernel
theorem dL_acts_1265 : decode cL_acts 1265 = .ok (.lconst 0, 1) := by decide +kernel
theorem dL_acts_1266 : decode cL_acts 1266 = .ok (.lstore 16, 2) := by decide +kernel
theorem dL_acts_1268 : decode cL_acts 1268 = .ok (.iconst 0, 1) := by decide +kernel
theorem dL_acts_1269 : decode cL_acts 1269 = .ok (.istore 18, 2) := by decide +kernel
theorem dL_acts_1271 : decode cL_acts 1271 = .ok (.iload 18, 2) := by decide +kernel
theorem dL_acts_1273 : decode cL_acts 1273 = .ok (.aload_n 0, 1) := by decide +kernel
theorem dL_acts_1274 : decode cL_acts 1274 = .ok (.iconst 3, 1) := by decide +kernel
theorem dL_acts_1275 : decode cL_acts 1275 = .ok (.invokevirtual 17, 3) := by decide +kernel
theorem dL_acts_1278 : decode cL_acts 1278 = .ok (.if_icmp .ge 26, 3) := by decide +kernel
theorem dL_acts_1281 : decode cL_acts 1281 = .ok (.lload 16, 2) := by decide +kernel
theorem dL_acts_1283 : decode cL_acts 1283 = .ok (.iload 13, 2) := by decide +kernel
theorem dL_acts_1285 : decode cL_acts 1285 = .ok (.i2l, 1) := by decide +kernel
theorem dL_acts_1286 : decode cL_acts 1286 = .ok (.aload_n 0, 1) := by decide +kernel
theorem dL_acts_1287 : decode cL_acts 1287 = .ok (.iload 18, 2) := by decide +kernel
theorem dL_acts_1289 : decode cL_acts 1289 = .ok (.iconst 1, 1) := by decide +kernel
theorem dL_acts_1290 : decode cL_acts 1290 = .ok (.invokevirtual 21, 3) := by decide +kernel
theorem dL_acts_1293 : decode cL_acts 1293 = .ok (.i2l, 1) := by decide +kernel
theorem dL_acts_1294 : decode cL_acts 1294 = .ok (.lmul, 1) := by decide +kernel
theorem dL_acts_1295 : decode cL_acts 1295 = .ok (.ladd, 1) := by decide +kernel
theorem dL_acts_1296 : decode cL_acts 1296 = .ok (.lstore 16, 2) := by decide +kernel
theorem dL_acts_1298 : decode cL_acts 1298 = .ok (.iinc 18 1, 3) := by decide +kernel
theorem dL_acts_1301 : decode cL_acts 1301 = .ok (.goto (-30), 3) := by decide +kernel
theorem dL_acts_1304 : decode cL_acts 1304 = .ok (.aload_n 0, 1) := by decide +kernel
theorem dL_acts_1305 : decode cL_acts 1305 = .ok (.iload 12, 2) := by decide +kernel
theorem dL_acts_1307 : decode cL_acts 1307 = .ok (.invokevirtual 74, 3) := by decide +kernel
theorem dL_acts_1310 : decode cL_acts 1310 = .ok (.istore 18, 2) := by decide +kernel
theorem dL_acts_1312 : decode cL_acts 1312 = .ok (.iload 18, 2) := by decide +kernel
theorem dL_acts_1314 : decode cL_acts 1314 = .ok (.sipush (-10002), 3) := by decide +kernel
theorem dL_acts_1317 : decode cL_acts 1317 = .ok (.if_icmp .ne 21, 3) := by decide +kernel
theorem dL_acts_1320 : decode cL_acts 1320 = .ok (.aload_n 0, 1) := by decide +kernel
theorem dL_acts_1321 : decode cL_acts 1321 = .ok (.invokestatic 98, 3) := by decide +kernel
theorem dL_acts_1324 : decode cL_acts 1324 = .ok (.lload 7, 2) := by decide +kernel
theorem dL_acts_1326 : decode cL_acts 1326 = .ok (.lcmp, 1) := by decide +kernel
theorem dL_acts_1327 : decode cL_acts 1327 = .ok (.ifCond .ne 7, 3) := by decide +kernel
theorem dL_acts_1330 : decode cL_acts 1330 = .ok (.iconst 1, 1) := by decide +kernel
theorem dL_acts_1331 : decode cL_acts 1331 = .ok (.goto 58, 3) := by decide +kernel
theorem dL_acts_1334 : decode cL_acts 1334 = .ok (.iconst 0, 1) := by decide +kernel
theorem dL_acts_1335 : decode cL_acts 1335 = .ok (.goto 54, 3) := by decide +kernel
theorem dL_acts_1338 : decode cL_acts 1338 = .ok (.aload_n 0, 1) := by decide +kernel
theorem dL_acts_1339 : decode cL_acts 1339 = .ok (.invokestatic 98, 3) := by decide +kernel
theorem dL_acts_1342 : decode cL_acts 1342 = .ok (.lload 7, 2) := by decide +kernel
theorem dL_acts_1344 : decode cL_acts 1344 = .ok (.lload 16, 2) := by decide +kernel
theorem dL_acts_1346 : decode cL_acts 1346 = .ok (.ladd, 1) := by decide +kernel
theorem dL_acts_1347 : decode cL_acts 1347 = .ok (.lcmp, 1) := by decide +kernel
theorem dL_acts_1348 : decode cL_acts 1348 = .ok (.ifCond .ne 40, 3) := by decide +kernel
theorem dL_acts_1351 : decode cL_acts 1351 = .ok (.iload 18, 2) := by decide +kernel
theorem dL_acts_1353 : decode cL_acts 1353 = .ok (.ifCond .lt 35, 3) := by decide +kernel
theorem dL_acts_1356 : decode cL_acts 1356 = .ok (.aload_n 0, 1) := by decide +kernel
theorem dL_acts_1357 : decode cL_acts 1357 = .ok (.bipush 8, 2) := by decide +kernel
theorem dL_acts_1359 : decode cL_acts 1359 = .ok (.invokevirtual 17, 3) := by decide +kernel
theorem dL_acts_1362 : decode cL_acts 1362 = .ok (.iload 14, 2) := by decide +kernel
theorem dL_acts_1364 : decode cL_acts 1364 = .ok (.iload 18, 2) := by decide +kernel
theorem dL_acts_1366 : decode cL_acts 1366 = .ok (.isub, 1) := by decide +kernel
theorem dL_acts_1367 : decode cL_acts 1367 = .ok (.if_icmp .ne 21, 3) := by decide +kernel
theorem dL_acts_1370 : decode cL_acts 1370 = .ok (.aload_n 0, 1) := by decide +kernel
theorem dL_acts_1371 : decode cL_acts 1371 = .ok (.bipush 9, 2) := by decide +kernel
theorem dL_acts_1373 : decode cL_acts 1373 = .ok (.invokevirtual 17, 3) := by decide +kernel
theorem dL_acts_1376 : decode cL_acts 1376 = .ok (.iload 15, 2) := by decide +kernel
theorem dL_acts_1378 : decode cL_acts 1378 = .ok (.iload 18, 2) := by decide +kernel
theorem dL_acts_1380 : decode cL_acts 1380 = .ok (.iadd, 1) := by decide +kernel
theorem dL_acts_1381 : decode cL_acts 1381 = .ok (.if_icmp .ne 7, 3) := by decide +kernel
theorem dL_acts_1384 : decode cL_acts 1384 = .ok (.iconst 1, 1) := by decide +kernel
theorem dL_acts_1385 : decode cL_acts 1385 = .ok (.goto 4, 3) := by decide +kernel
theorem dL_acts_1388 : decode cL_acts 1388 = .ok (.iconst 0, 1) := by decide +kernel
theorem dL_acts_1389 : decode cL_acts 1389 = .ok (.ireturn, 1) := by decide +kernel
theorem dL_law_0 : decode cL_law 0 = .ok (.new 10, 3) := by decide +kernel
theorem dL_law_3 : decode cL_law 3 = .ok (.dup, 1) := by decide +kernel
theorem dL_law_4 : decode cL_law 4 = .ok (.invokespecial 101, 3) := by decide +kernel
theorem dL_law_7 : decode cL_law 7 = .ok (.astore_n 1, 1) := by decide +kernel
theorem dL_law_8 : decode cL_law 8 = .ok (.aload_n 1, 1) := by decide +kernel
theorem dL_law_9 : decode cL_law 9 = .ok (.invokevirtual 90, 3) := by decide +kernel
theorem dL_law_12 : decode cL_law 12 = .ok (.sipush (-10002), 3) := by decide +kernel
theorem dL_law_15 : decode cL_law 15 = .ok (.if_icmp .ne 21, 3) := by decide +kernel
theorem dL_law_18 : decode cL_law 18 = .ok (.aload_n 1, 1) := by decide +kernel
theorem dL_law_19 : decode cL_law 19 = .ok (.invokestatic 102, 3) := by decide +kernel
theorem dL_law_22 : decode cL_law 22 = .ok (.ifCond .eq 14, 3) := by decide +kernel
theorem dL_law_25 : decode cL_law 25 = .ok (.aload_n 1, 1) := by decide +kernel
theorem dL_law_26 : decode cL_law 26 = .ok (.invokestatic 106, 3) := by decide +kernel
theorem dL_law_29 : decode cL_law 29 = .ok (.ifCond .eq 7, 3) := by decide +kernel
theorem dL_law_32 : decode cL_law 32 = .ok (.iconst 1, 1) := by decide +kernel
theorem dL_law_33 : decode cL_law 33 = .ok (.goto 4, 3) := by decide +kernel
theorem dL_law_36 : decode cL_law 36 = .ok (.iconst 0, 1) := by decide +kernel
theorem dL_law_37 : decode cL_law 37 = .ok (.istore_n 2, 1) := by decide +kernel
theorem dL_law_38 : decode cL_law 38 = .ok (.iconst 1, 1) := by decide +kernel
theorem dL_law_39 : decode cL_law 39 = .ok (.aload_n 0, 1) := by decide +kernel
theorem dL_law_40 : decode cL_law 40 = .ok (.bipush 90, 2) := by decide +kernel
theorem dL_law_42 : decode cL_law 42 = .ok (.invokestatic 109, 3) := by decide +kernel
theorem dL_law_45 : decode cL_law 45 = .ok (.iconst 3, 1) := by decide +kernel
theorem dL_law_46 : decode cL_law 46 = .ok (.invokestatic 95, 3) := by decide +kernel
theorem dL_law_49 : decode cL_law 49 = .ok (.iadd, 1) := by decide +kernel
theorem dL_law_50 : decode cL_law 50 = .ok (.istore_n 3, 1) := by decide +kernel
theorem dL_law_51 : decode cL_law 51 = .ok (.iconst 0, 1) := by decide +kernel
theorem dL_law_52 : decode cL_law 52 = .ok (.istore 4, 2) := by decide +kernel
theorem dL_law_54 : decode cL_law 54 = .ok (.iload 4, 2) := by decide +kernel
theorem dL_law_56 : decode cL_law 56 = .ok (.iload_n 3, 1) := by decide +kernel
theorem dL_law_57 : decode cL_law 57 = .ok (.if_icmp .ge 81, 3) := by decide +kernel
theorem dL_law_60 : decode cL_law 60 = .ok (.iload_n 2, 1) := by decide +kernel
theorem dL_law_61 : decode cL_law 61 = .ok (.ifCond .eq 77, 3) := by decide +kernel
theorem dL_law_64 : decode cL_law 64 = .ok (.aload_n 0, 1) := by decide +kernel
theorem dL_law_65 : decode cL_law 65 = .ok (.bipush 91, 2) := by decide +kernel
theorem dL_law_67 : decode cL_law 67 = .ok (.iload 4, 2) := by decide +kernel
theorem dL_law_69 : decode cL_law 69 = .ok (.iadd, 1) := by decide +kernel
theorem dL_law_70 : decode cL_law 70 = .ok (.invokestatic 109, 3) := by decide +kernel
theorem dL_law_73 : decode cL_law 73 = .ok (.istore 5, 2) := by decide +kernel
theorem dL_law_75 : decode cL_law 75 = .ok (.aload_n 1, 1) := by decide +kernel
theorem dL_law_76 : decode cL_law 76 = .ok (.iconst 1, 1) := by decide +kernel
theorem dL_law_77 : decode cL_law 77 = .ok (.iload 5, 2) := by decide +kernel
theorem dL_law_79 : decode cL_law 79 = .ok (.bipush 9, 2) := by decide +kernel
theorem dL_law_81 : decode cL_law 81 = .ok (.invokestatic 95, 3) := by decide +kernel
theorem dL_law_84 : decode cL_law 84 = .ok (.iadd, 1) := by decide +kernel
theorem dL_law_85 : decode cL_law 85 = .ok (.iload 5, 2) := by decide +kernel
theorem dL_law_87 : decode cL_law 87 = .ok (.iconst 4, 1) := by decide +kernel
theorem dL_law_88 : decode cL_law 88 = .ok (.ishr, 1) := by decide +kernel
theorem dL_law_89 : decode cL_law 89 = .ok (.iconst 2, 1) := by decide +kernel
theorem dL_law_90 : decode cL_law 90 = .ok (.invokestatic 95, 3) := by decide +kernel
theorem dL_law_93 : decode cL_law 93 = .ok (.ifCond .ne 15, 3) := by decide +kernel
theorem dL_law_96 : decode cL_law 96 = .ok (.iload 5, 2) := by decide +kernel
theorem dL_law_98 : decode cL_law 98 = .ok (.iconst 5, 1) := by decide +kernel
theorem dL_law_99 : decode cL_law 99 = .ok (.ishr, 1) := by decide +kernel
theorem dL_law_100 : decode cL_law 100 = .ok (.bipush 100, 2) := by decide +kernel
theorem dL_law_102 : decode cL_law 102 = .ok (.invokestatic 95, 3) := by decide +kernel
theorem dL_law_105 : decode cL_law 105 = .ok (.goto 13, 3) := by decide +kernel
theorem dL_law_108 : decode cL_law 108 = .ok (.iload 5, 2) := by decide +kernel
theorem dL_law_110 : decode cL_law 110 = .ok (.iconst 5, 1) := by decide +kernel
theorem dL_law_111 : decode cL_law 111 = .ok (.ishr, 1) := by decide +kernel
theorem dL_law_112 : decode cL_law 112 = .ok (.sipush 2000, 3) := by decide +kernel
theorem dL_law_115 : decode cL_law 115 = .ok (.invokestatic 95, 3) := by decide +kernel
theorem dL_law_118 : decode cL_law 118 = .ok (.invokevirtual 37, 3) := by decide +kernel
theorem dL_law_121 : decode cL_law 121 = .ok (.iload 4, 2) := by decide +kernel
theorem dL_law_123 : decode cL_law 123 = .ok (.if_icmp .ne 7, 3) := by decide +kernel
theorem dL_law_126 : decode cL_law 126 = .ok (.iconst 1, 1) := by decide +kernel
theorem dL_law_127 : decode cL_law 127 = .ok (.goto 4, 3) := by decide +kernel
theorem dL_law_130 : decode cL_law 130 = .ok (.iconst 0, 1) := by decide +kernel
theorem dL_law_131 : decode cL_law 131 = .ok (.istore_n 2, 1) := by decide +kernel
theorem dL_law_132 : decode cL_law 132 = .ok (.iinc 4 1, 3) := by decide +kernel
theorem dL_law_135 : decode cL_law 135 = .ok (.goto (-81), 3) := by decide +kernel
theorem dL_law_138 : decode cL_law 138 = .ok (.iconst 3, 1) := by decide +kernel
theorem dL_law_139 : decode cL_law 139 = .ok (.aload_n 0, 1) := by decide +kernel
theorem dL_law_140 : decode cL_law 140 = .ok (.bipush 89, 2) := by decide +kernel
theorem dL_law_142 : decode cL_law 142 = .ok (.invokestatic 109, 3) := by decide +kernel
theorem dL_law_145 : decode cL_law 145 = .ok (.iconst 4, 1) := by decide +kernel
theorem dL_law_146 : decode cL_law 146 = .ok (.invokestatic 95, 3) := by decide +kernel
theorem dL_law_149 : decode cL_law 149 = .ok (.iadd, 1) := by decide +kernel
theorem dL_law_150 : decode cL_law 150 = .ok (.istore 4, 2) := by decide +kernel
theorem dL_law_152 : decode cL_law 152 = .ok (.iconst 0, 1) := by decide +kernel
theorem dL_law_153 : decode cL_law 153 = .ok (.istore 5, 2) := by decide +kernel
theorem dL_law_155 : decode cL_law 155 = .ok (.iload 5, 2) := by decide +kernel
theorem dL_law_157 : decode cL_law 157 = .ok (.iload 4, 2) := by decide +kernel
theorem dL_law_159 : decode cL_law 159 = .ok (.if_icmp .ge 28, 3) := by decide +kernel
theorem dL_law_162 : decode cL_law 162 = .ok (.iload_n 2, 1) := by decide +kernel
theorem dL_law_163 : decode cL_law 163 = .ok (.ifCond .eq 24, 3) := by decide +kernel
theorem dL_law_166 : decode cL_law 166 = .ok (.aload_n 1, 1) := by decide +kernel
theorem dL_law_167 : decode cL_law 167 = .ok (.invokevirtual 113, 3) := by decide +kernel
theorem dL_law_170 : decode cL_law 170 = .ok (.iload 5, 2) := by decide +kernel
theorem dL_law_172 : decode cL_law 172 = .ok (.if_icmp .ne 7, 3) := by decide +kernel
theorem dL_law_175 : decode cL_law 175 = .ok (.iconst 1, 1) := by decide +kernel
theorem dL_law_176 : decode cL_law 176 = .ok (.goto 4, 3) := by decide +kernel
theorem dL_law_179 : decode cL_law 179 = .ok (.iconst 0, 1) := by decide +kernel
theorem dL_law_180 : decode cL_law 180 = .ok (.istore_n 2, 1) := by decide +kernel
theorem dL_law_181 : decode cL_law 181 = .ok (.iinc 5 1, 3) := by decide +kernel
theorem dL_law_184 : decode cL_law 184 = .ok (.goto (-29), 3) := by decide +kernel
theorem dL_law_187 : decode cL_law 187 = .ok (.iconst 0, 1) := by decide +kernel
theorem dL_law_188 : decode cL_law 188 = .ok (.istore 5, 2) := by decide +kernel
theorem dL_law_190 : decode cL_law 190 = .ok (.iload 5, 2) := by decide +kernel
theorem dL_law_192 : decode cL_law 192 = .ok (.bipush 60, 2) := by decide +kernel
theorem dL_law_194 : decode cL_law 194 = .ok (.if_icmp .ge 209, 3) := by decide +kernel
theorem dL_law_197 : decode cL_law 197 = .ok (.iload_n 2, 1) := by decide +kernel
theorem dL_law_198 : decode cL_law 198 = .ok (.ifCond .eq 205, 3) := by decide +kernel
theorem dL_law_201 : decode cL_law 201 = .ok (.aload_n 0, 1) := by decide +kernel
theorem dL_law_202 : decode cL_law 202 = .ok (.iconst 2, 1) := by decide +kernel
theorem dL_law_203 : decode cL_law 203 = .ok (.iload 5, 2) := by decide +kernel
theorem dL_law_205 : decode cL_law 205 = .ok (.imul, 1) := by decide +kernel
theorem dL_law_206 : decode cL_law 206 = .ok (.invokestatic 109, 3) := by decide +kernel
theorem dL_law_209 : decode cL_law 209 = .ok (.istore 6, 2) := by decide +kernel
theorem dL_law_211 : decode cL_law 211 = .ok (.aload_n 0, 1) := by decide +kernel
theorem dL_law_212 : decode cL_law 212 = .ok (.iconst 2, 1) := by decide +kernel
theorem dL_law_213 : decode cL_law 213 = .ok (.iload 5, 2) := by decide +kernel
theorem dL_law_215 : decode cL_law 215 = .ok (.imul, 1) := by decide +kernel
theorem dL_law_216 : decode cL_law 216 = .ok (.iconst 1, 1) := by decide +kernel
theorem dL_law_217 : decode cL_law 217 = .ok (.iadd, 1) := by decide +kernel
theorem dL_law_218 : decode cL_law 218 = .ok (.invokestatic 109, 3) := by decide +kernel
theorem dL_law_221 : decode cL_law 221 = .ok (.istore 7, 2) := by decide +kernel
theorem dL_law_223 : decode cL_law 223 = .ok (.aload_n 1, 1) := by decide +kernel
theorem dL_law_224 : decode cL_law 224 = .ok (.iload 5, 2) := by decide +kernel
theorem dL_law_226 : decode cL_law 226 = .ok (.bipush 6, 2) := by decide +kernel
theorem dL_law_228 : decode cL_law 228 = .ok (.if_icmp .ge 7, 3) := by decide +kernel
theorem dL_law_231 : decode cL_law 231 = .ok (.iconst 0, 1) := by decide +kernel
theorem dL_law_232 : decode cL_law 232 = .ok (.goto 12, 3) := by decide +kernel
theorem dL_law_235 : decode cL_law 235 = .ok (.iload 6, 2) := by decide +kernel
theorem dL_law_237 : decode cL_law 237 = .ok (.iconst 2, 1) := by decide +kernel
theorem dL_law_238 : decode cL_law 238 = .ok (.ishr, 1) := by decide +kernel
theorem dL_law_239 : decode cL_law 239 = .ok (.bipush 24, 2) := by decide +kernel
theorem dL_law_241 : decode cL_law 241 = .ok (.invokestatic 95, 3) := by decide +kernel
theorem dL_law_244 : decode cL_law 244 = .ok (.iload 6, 2) := by decide +kernel
theorem dL_law_246 : decode cL_law 246 = .ok (.bipush 7, 2) := by decide +kernel
theorem dL_law_248 : decode cL_law 248 = .ok (.ishr, 1) := by decide +kernel
theorem dL_law_249 : decode cL_law 249 = .ok (.iload 7, 2) := by decide +kernel
theorem dL_law_251 : decode cL_law 251 = .ok (.invokestatic 116, 3) := by decide +kernel
theorem dL_law_254 : decode cL_law 254 = .ok (.ifCond .eq 31, 3) := by decide +kernel
theorem dL_law_257 : decode cL_law 257 = .ok (.aload_n 1, 1) := by decide +kernel
theorem dL_law_258 : decode cL_law 258 = .ok (.invokestatic 106, 3) := by decide +kernel
theorem dL_law_261 : decode cL_law 261 = .ok (.ifCond .eq 24, 3) := by decide +kernel
theorem dL_law_264 : decode cL_law 264 = .ok (.iload 5, 2) := by decide +kernel
theorem dL_law_266 : decode cL_law 266 = .ok (.bipush 9, 2) := by decide +kernel
theorem dL_law_268 : decode cL_law 268 = .ok (.irem, 1) := by decide +kernel
theorem dL_law_269 : decode cL_law 269 = .ok (.bipush 7, 2) := by decide +kernel
theorem dL_law_271 : decode cL_law 271 = .ok (.if_icmp .ne 10, 3) := by decide +kernel
theorem dL_law_274 : decode cL_law 274 = .ok (.aload_n 1, 1) := by decide +kernel
theorem dL_law_275 : decode cL_law 275 = .ok (.invokestatic 102, 3) := by decide +kernel
theorem dL_law_278 : decode cL_law 278 = .ok (.ifCond .eq 7, 3) := by decide +kernel
theorem dL_law_281 : decode cL_law 281 = .ok (.iconst 1, 1) := by decide +kernel
theorem dL_law_282 : decode cL_law 282 = .ok (.goto 4, 3) := by decide +kernel
theorem dL_law_285 : decode cL_law 285 = .ok (.iconst 0, 1) := by decide +kernel
theorem dL_law_286 : decode cL_law 286 = .ok (.istore_n 2, 1) := by decide +kernel
theorem dL_law_287 : decode cL_law 287 = .ok (.iload 7, 2) := by decide +kernel
theorem dL_law_289 : decode cL_law 289 = .ok (.aload_n 1, 1) := by decide +kernel
theorem dL_law_290 : decode cL_law 290 = .ok (.iconst 5, 1) := by decide +kernel
theorem dL_law_291 : decode cL_law 291 = .ok (.invokevirtual 17, 3) := by decide +kernel
theorem dL_law_294 : decode cL_law 294 = .ok (.invokestatic 95, 3) := by decide +kernel
theorem dL_law_297 : decode cL_law 297 = .ok (.istore 8, 2) := by decide +kernel
theorem dL_law_299 : decode cL_law 299 = .ok (.iload_n 2, 1) := by decide +kernel
theorem dL_law_300 : decode cL_law 300 = .ok (.ifCond .eq 23, 3) := by decide +kernel
theorem dL_law_303 : decode cL_law 303 = .ok (.aload_n 1, 1) := by decide +kernel
theorem dL_law_304 : decode cL_law 304 = .ok (.iload 8, 2) := by decide +kernel
theorem dL_law_306 : decode cL_law 306 = .ok (.invokestatic 120, 3) := by decide +kernel
theorem dL_law_309 : decode cL_law 309 = .ok (.ifCond .eq 14, 3) := by decide +kernel
theorem dL_law_312 : decode cL_law 312 = .ok (.aload_n 1, 1) := by decide +kernel
theorem dL_law_313 : decode cL_law 313 = .ok (.invokestatic 123, 3) := by decide +kernel
theorem dL_law_316 : decode cL_law 316 = .ok (.ifCond .eq 7, 3) := by decide +kernel
theorem dL_law_319 : decode cL_law 319 = .ok (.iconst 1, 1) := by decide +kernel
theorem dL_law_320 : decode cL_law 320 = .ok (.goto 4, 3) := by decide +kernel
theorem dL_law_323 : decode cL_law 323 = .ok (.iconst 0, 1) := by decide +kernel
theorem dL_law_324 : decode cL_law 324 = .ok (.istore_n 2, 1) := by decide +kernel
theorem dL_law_325 : decode cL_law 325 = .ok (.iload_n 2, 1) := by decide +kernel
theorem dL_law_326 : decode cL_law 326 = .ok (.ifCond .eq 71, 3) := by decide +kernel
theorem dL_law_329 : decode cL_law 329 = .ok (.iload 5, 2) := by decide +kernel
theorem dL_law_331 : decode cL_law 331 = .ok (.iconst 5, 1) := by decide +kernel
theorem dL_law_332 : decode cL_law 332 = .ok (.irem, 1) := by decide +kernel
theorem dL_law_333 : decode cL_law 333 = .ok (.iconst 4, 1) := by decide +kernel
theorem dL_law_334 : decode cL_law 334 = .ok (.if_icmp .ne 63, 3) := by decide +kernel
theorem dL_law_337 : decode cL_law 337 = .ok (.aload_n 1, 1) := by decide +kernel
theorem dL_law_338 : decode cL_law 338 = .ok (.invokestatic 31, 3) := by decide +kernel
theorem dL_law_341 : decode cL_law 341 = .ok (.lstore 9, 2) := by decide +kernel
theorem dL_law_343 : decode cL_law 343 = .ok (.aload_n 1, 1) := by decide +kernel
theorem dL_law_344 : decode cL_law 344 = .ok (.iload 6, 2) := by decide +kernel
theorem dL_law_346 : decode cL_law 346 = .ok (.sipush 501, 3) := by decide +kernel
theorem dL_law_349 : decode cL_law 349 = .ok (.invokestatic 95, 3) := by decide +kernel
theorem dL_law_352 : decode cL_law 352 = .ok (.invokevirtual 46, 3) := by decide +kernel
theorem dL_law_355 : decode cL_law 355 = .ok (.ifCond .lt 40, 3) := by decide +kernel
theorem dL_law_358 : decode cL_law 358 = .ok (.aload_n 1, 1) := by decide +kernel
theorem dL_law_359 : decode cL_law 359 = .ok (.bipush 77, 2) := by decide +kernel
theorem dL_law_361 : decode cL_law 361 = .ok (.invokevirtual 43, 3) := by decide +kernel
theorem dL_law_364 : decode cL_law 364 = .ok (.ifCond .lt 31, 3) := by decide +kernel
theorem dL_law_367 : decode cL_law 367 = .ok (.aload_n 1, 1) := by decide +kernel
theorem dL_law_368 : decode cL_law 368 = .ok (.invokevirtual 90, 3) := by decide +kernel
theorem dL_law_371 : decode cL_law 371 = .ok (.ifCond .lt 24, 3) := by decide +kernel
theorem dL_law_374 : decode cL_law 374 = .ok (.aload_n 1, 1) := by decide +kernel
theorem dL_law_375 : decode cL_law 375 = .ok (.invokevirtual 90, 3) := by decide +kernel
theorem dL_law_378 : decode cL_law 378 = .ok (.ifCond .lt 17, 3) := by decide +kernel
theorem dL_law_381 : decode cL_law 381 = .ok (.aload_n 1, 1) := by decide +kernel
theorem dL_law_382 : decode cL_law 382 = .ok (.invokestatic 31, 3) := by decide +kernel
theorem dL_law_385 : decode cL_law 385 = .ok (.lload 9, 2) := by decide +kernel
theorem dL_law_387 : decode cL_law 387 = .ok (.lcmp, 1) := by decide +kernel
theorem dL_law_388 : decode cL_law 388 = .ok (.ifCond .ne 7, 3) := by decide +kernel
theorem dL_law_391 : decode cL_law 391 = .ok (.iconst 1, 1) := by decide +kernel
theorem dL_law_392 : decode cL_law 392 = .ok (.goto 4, 3) := by decide +kernel
theorem dL_law_395 : decode cL_law 395 = .ok (.iconst 0, 1) := by decide +kernel
theorem dL_law_396 : decode cL_law 396 = .ok (.istore_n 2, 1) := by decide +kernel
theorem dL_law_397 : decode cL_law 397 = .ok (.iinc 5 1, 3) := by decide +kernel
theorem dL_law_400 : decode cL_law 400 = .ok (.goto (-210), 3) := by decide +kernel
theorem dL_law_403 : decode cL_law 403 = .ok (.iload_n 2, 1) := by decide +kernel
theorem dL_law_404 : decode cL_law 404 = .ok (.ifCond .eq 14, 3) := by decide +kernel
theorem dL_law_407 : decode cL_law 407 = .ok (.aload_n 1, 1) := by decide +kernel
theorem dL_law_408 : decode cL_law 408 = .ok (.invokestatic 102, 3) := by decide +kernel
theorem dL_law_411 : decode cL_law 411 = .ok (.ifCond .eq 7, 3) := by decide +kernel
theorem dL_law_414 : decode cL_law 414 = .ok (.iconst 1, 1) := by decide +kernel
theorem dL_law_415 : decode cL_law 415 = .ok (.goto 4, 3) := by decide +kernel
theorem dL_law_418 : decode cL_law 418 = .ok (.iconst 0, 1) := by decide +kernel
theorem dL_law_419 : decode cL_law 419 = .ok (.ireturn, 1) := by decide +kernel
