theorem d_L_law_284 : decode b_L_law 284 = .ok (.iconst 2, 1) := by decide +kernel
theorem d_L_law_285 : decode b_L_law 285 = .ok (.iadd, 1) := by decide +kernel
theorem d_L_law_286 : decode b_L_law 286 = .ok (.iaload, 1) := by decide +kernel
theorem d_L_law_287 : decode b_L_law 287 = .ok (.invokevirtual 49, 3) := by decide +kernel
theorem d_L_law_290 : decode b_L_law 290 = .ok (.aload_n 2, 1) := by decide +kernel
theorem d_L_law_291 : decode b_L_law 291 = .ok (.aload_n 0, 1) := by decide +kernel
theorem d_L_law_292 : decode b_L_law 292 = .ok (.iload 4, 2) := by decide +kernel
theorem d_L_law_294 : decode b_L_law 294 = .ok (.iconst 1, 1) := by decide +kernel
theorem d_L_law_295 : decode b_L_law 295 = .ok (.iadd, 1) := by decide +kernel
theorem d_L_law_296 : decode b_L_law 296 = .ok (.iaload, 1) := by decide +kernel
theorem d_L_law_297 : decode b_L_law 297 = .ok (.aload_n 0, 1) := by decide +kernel
theorem d_L_law_298 : decode b_L_law 298 = .ok (.iload 4, 2) := by decide +kernel
theorem d_L_law_300 : decode b_L_law 300 = .ok (.iconst 2, 1) := by decide +kernel
theorem d_L_law_301 : decode b_L_law 301 = .ok (.iadd, 1) := by decide +kernel
theorem d_L_law_302 : decode b_L_law 302 = .ok (.iaload, 1) := by decide +kernel
theorem d_L_law_303 : decode b_L_law 303 = .ok (.invokevirtual 52, 3) := by decide +kernel
theorem d_L_law_306 : decode b_L_law 306 = .ok (.if_icmp .eq 276, 3) := by decide +kernel
theorem d_L_law_309 : decode b_L_law 309 = .ok (.iconst 0, 1) := by decide +kernel
theorem d_L_law_310 : decode b_L_law 310 = .ok (.ireturn, 1) := by decide +kernel
theorem d_L_law_311 : decode b_L_law 311 = .ok (.aload_n 1, 1) := by decide +kernel
theorem d_L_law_312 : decode b_L_law 312 = .ok (.aload_n 0, 1) := by decide +kernel
theorem d_L_law_313 : decode b_L_law 313 = .ok (.iload 4, 2) := by decide +kernel
theorem d_L_law_315 : decode b_L_law 315 = .ok (.iconst 1, 1) := by decide +kernel
theorem d_L_law_316 : decode b_L_law 316 = .ok (.iadd, 1) := by decide +kernel
theorem d_L_law_317 : decode b_L_law 317 = .ok (.iaload, 1) := by decide +kernel
theorem d_L_law_318 : decode b_L_law 318 = .ok (.aload_n 0, 1) := by decide +kernel
theorem d_L_law_319 : decode b_L_law 319 = .ok (.iload 4, 2) := by decide +kernel
theorem d_L_law_321 : decode b_L_law 321 = .ok (.iconst 2, 1) := by decide +kernel
theorem d_L_law_322 : decode b_L_law 322 = .ok (.iadd, 1) := by decide +kernel
theorem d_L_law_323 : decode b_L_law 323 = .ok (.iaload, 1) := by decide +kernel
theorem d_L_law_324 : decode b_L_law 324 = .ok (.invokevirtual 53, 3) := by decide +kernel
theorem d_L_law_327 : decode b_L_law 327 = .ok (.aload_n 2, 1) := by decide +kernel
theorem d_L_law_328 : decode b_L_law 328 = .ok (.aload_n 0, 1) := by decide +kernel
theorem d_L_law_329 : decode b_L_law 329 = .ok (.iload 4, 2) := by decide +kernel
theorem d_L_law_331 : decode b_L_law 331 = .ok (.iconst 1, 1) := by decide +kernel
theorem d_L_law_332 : decode b_L_law 332 = .ok (.iadd, 1) := by decide +kernel
theorem d_L_law_333 : decode b_L_law 333 = .ok (.iaload, 1) := by decide +kernel
theorem d_L_law_334 : decode b_L_law 334 = .ok (.aload_n 0, 1) := by decide +kernel
theorem d_L_law_335 : decode b_L_law 335 = .ok (.iload 4, 2) := by decide +kernel
theorem d_L_law_337 : decode b_L_law 337 = .ok (.iconst 2, 1) := by decide +kernel
theorem d_L_law_338 : decode b_L_law 338 = .ok (.iadd, 1) := by decide +kernel
theorem d_L_law_339 : decode b_L_law 339 = .ok (.iaload, 1) := by decide +kernel
theorem d_L_law_340 : decode b_L_law 340 = .ok (.invokevirtual 56, 3) := by decide +kernel
theorem d_L_law_343 : decode b_L_law 343 = .ok (.if_icmp .eq 239, 3) := by decide +kernel
theorem d_L_law_346 : decode b_L_law 346 = .ok (.iconst 0, 1) := by decide +kernel
theorem d_L_law_347 : decode b_L_law 347 = .ok (.ireturn, 1) := by decide +kernel
theorem d_L_law_348 : decode b_L_law 348 = .ok (.aload_n 1, 1) := by decide +kernel
theorem d_L_law_349 : decode b_L_law 349 = .ok (.aload_n 0, 1) := by decide +kernel
theorem d_L_law_350 : decode b_L_law 350 = .ok (.iload 4, 2) := by decide +kernel
theorem d_L_law_352 : decode b_L_law 352 = .ok (.iconst 1, 1) := by decide +kernel
theorem d_L_law_353 : decode b_L_law 353 = .ok (.iadd, 1) := by decide +kernel
theorem d_L_law_354 : decode b_L_law 354 = .ok (.iaload, 1) := by decide +kernel
theorem d_L_law_355 : decode b_L_law 355 = .ok (.aload_n 0, 1) := by decide +kernel
theorem d_L_law_356 : decode b_L_law 356 = .ok (.iload 4, 2) := by decide +kernel
theorem d_L_law_358 : decode b_L_law 358 = .ok (.iconst 2, 1) := by decide +kernel
theorem d_L_law_359 : decode b_L_law 359 = .ok (.iadd, 1) := by decide +kernel
theorem d_L_law_360 : decode b_L_law 360 = .ok (.iaload, 1) := by decide +kernel
theorem d_L_law_361 : decode b_L_law 361 = .ok (.aload_n 3, 1) := by decide +kernel
theorem d_L_law_362 : decode b_L_law 362 = .ok (.invokestatic 57, 3) := by decide +kernel
theorem d_L_law_365 : decode b_L_law 365 = .ok (.istore 5, 2) := by decide +kernel
theorem d_L_law_367 : decode b_L_law 367 = .ok (.aload_n 2, 1) := by decide +kernel
theorem d_L_law_368 : decode b_L_law 368 = .ok (.aload_n 0, 1) := by decide +kernel
theorem d_L_law_369 : decode b_L_law 369 = .ok (.iload 4, 2) := by decide +kernel
theorem d_L_law_371 : decode b_L_law 371 = .ok (.iconst 1, 1) := by decide +kernel
theorem d_L_law_372 : decode b_L_law 372 = .ok (.iadd, 1) := by decide +kernel
theorem d_L_law_373 : decode b_L_law 373 = .ok (.iaload, 1) := by decide +kernel
theorem d_L_law_374 : decode b_L_law 374 = .ok (.aload_n 0, 1) := by decide +kernel
theorem d_L_law_375 : decode b_L_law 375 = .ok (.iload 4, 2) := by decide +kernel
theorem d_L_law_377 : decode b_L_law 377 = .ok (.iconst 2, 1) := by decide +kernel
theorem d_L_law_378 : decode b_L_law 378 = .ok (.iadd, 1) := by decide +kernel
theorem d_L_law_379 : decode b_L_law 379 = .ok (.iaload, 1) := by decide +kernel
theorem d_L_law_380 : decode b_L_law 380 = .ok (.invokevirtual 60, 3) := by decide +kernel
theorem d_L_law_383 : decode b_L_law 383 = .ok (.istore 6, 2) := by decide +kernel
theorem d_L_law_385 : decode b_L_law 385 = .ok (.aload_n 2, 1) := by decide +kernel
theorem d_L_law_386 : decode b_L_law 386 = .ok (.invokevirtual 41, 3) := by decide +kernel
theorem d_L_law_389 : decode b_L_law 389 = .ok (.iload 5, 2) := by decide +kernel
theorem d_L_law_391 : decode b_L_law 391 = .ok (.if_icmp .eq 5, 3) := by decide +kernel
theorem d_L_law_394 : decode b_L_law 394 = .ok (.iconst 0, 1) := by decide +kernel
theorem d_L_law_395 : decode b_L_law 395 = .ok (.ireturn, 1) := by decide +kernel
theorem d_L_law_396 : decode b_L_law 396 = .ok (.iload 5, 2) := by decide +kernel
theorem d_L_law_398 : decode b_L_law 398 = .ok (.ifCond .ne 15, 3) := by decide +kernel
theorem d_L_law_401 : decode b_L_law 401 = .ok (.aload_n 3, 1) := by decide +kernel
theorem d_L_law_402 : decode b_L_law 402 = .ok (.iconst 0, 1) := by decide +kernel
theorem d_L_law_403 : decode b_L_law 403 = .ok (.laload, 1) := by decide +kernel
theorem d_L_law_404 : decode b_L_law 404 = .ok (.iload 6, 2) := by decide +kernel
theorem d_L_law_406 : decode b_L_law 406 = .ok (.i2l, 1) := by decide +kernel
theorem d_L_law_407 : decode b_L_law 407 = .ok (.lcmp, 1) := by decide +kernel
theorem d_L_law_408 : decode b_L_law 408 = .ok (.ifCond .eq 5, 3) := by decide +kernel
theorem d_L_law_411 : decode b_L_law 411 = .ok (.iconst 0, 1) := by decide +kernel
theorem d_L_law_412 : decode b_L_law 412 = .ok (.ireturn, 1) := by decide +kernel
theorem d_L_law_413 : decode b_L_law 413 = .ok (.goto 169, 3) := by decide +kernel
theorem d_L_law_416 : decode b_L_law 416 = .ok (.aload_n 1, 1) := by decide +kernel
theorem d_L_law_417 : decode b_L_law 417 = .ok (.aload_n 0, 1) := by decide +kernel
theorem d_L_law_418 : decode b_L_law 418 = .ok (.iload 4, 2) := by decide +kernel
theorem d_L_law_420 : decode b_L_law 420 = .ok (.iconst 1, 1) := by decide +kernel
theorem d_L_law_421 : decode b_L_law 421 = .ok (.iadd, 1) := by decide +kernel
theorem d_L_law_422 : decode b_L_law 422 = .ok (.iaload, 1) := by decide +kernel
theorem d_L_law_423 : decode b_L_law 423 = .ok (.invokevirtual 61, 3) := by decide +kernel
theorem d_L_law_426 : decode b_L_law 426 = .ok (.aload_n 2, 1) := by decide +kernel
theorem d_L_law_427 : decode b_L_law 427 = .ok (.aload_n 0, 1) := by decide +kernel
theorem d_L_law_428 : decode b_L_law 428 = .ok (.iload 4, 2) := by decide +kernel
theorem d_L_law_430 : decode b_L_law 430 = .ok (.iconst 1, 1) := by decide +kernel
theorem d_L_law_431 : decode b_L_law 431 = .ok (.iadd, 1) := by decide +kernel
theorem d_L_law_432 : decode b_L_law 432 = .ok (.iaload, 1) := by decide +kernel
theorem d_L_law_433 : decode b_L_law 433 = .ok (.invokevirtual 65, 3) := by decide +kernel
theorem d_L_law_436 : decode b_L_law 436 = .ok (.if_icmp .eq 146, 3) := by decide +kernel
theorem d_L_law_439 : decode b_L_law 439 = .ok (.iconst 0, 1) := by decide +kernel
theorem d_L_law_440 : decode b_L_law 440 = .ok (.ireturn, 1) := by decide +kernel
theorem d_L_law_441 : decode b_L_law 441 = .ok (.aload_n 1, 1) := by decide +kernel
theorem d_L_law_442 : decode b_L_law 442 = .ok (.aload_n 0, 1) := by decide +kernel
theorem d_L_law_443 : decode b_L_law 443 = .ok (.iload 4, 2) := by decide +kernel
theorem d_L_law_445 : decode b_L_law 445 = .ok (.iconst 1, 1) := by decide +kernel
theorem d_L_law_446 : decode b_L_law 446 = .ok (.iadd, 1) := by decide +kernel
theorem d_L_law_447 : decode b_L_law 447 = .ok (.iaload, 1) := by decide +kernel
theorem d_L_law_448 : decode b_L_law 448 = .ok (.aload_n 0, 1) := by decide +kernel
theorem d_L_law_449 : decode b_L_law 449 = .ok (.iload 4, 2) := by decide +kernel
theorem d_L_law_451 : decode b_L_law 451 = .ok (.iconst 2, 1) := by decide +kernel
theorem d_L_law_452 : decode b_L_law 452 = .ok (.iadd, 1) := by decide +kernel
theorem d_L_law_453 : decode b_L_law 453 = .ok (.iaload, 1) := by decide +kernel
theorem d_L_law_454 : decode b_L_law 454 = .ok (.invokevirtual 66, 3) := by decide +kernel
theorem d_L_law_457 : decode b_L_law 457 = .ok (.aload_n 2, 1) := by decide +kernel
theorem d_L_law_458 : decode b_L_law 458 = .ok (.aload_n 0, 1) := by decide +kernel
theorem d_L_law_459 : decode b_L_law 459 = .ok (.iload 4, 2) := by decide +kernel
theorem d_L_law_461 : decode b_L_law 461 = .ok (.iconst 1, 1) := by decide +kernel
theorem d_L_law_462 : decode b_L_law 462 = .ok (.iadd, 1) := by decide +kernel
theorem d_L_law_463 : decode b_L_law 463 = .ok (.iaload, 1) := by decide +kernel
theorem d_L_law_464 : decode b_L_law 464 = .ok (.aload_n 0, 1) := by decide +kernel
theorem d_L_law_465 : decode b_L_law 465 = .ok (.iload 4, 2) := by decide +kernel
theorem d_L_law_467 : decode b_L_law 467 = .ok (.iconst 2, 1) := by decide +kernel
theorem d_L_law_468 : decode b_L_law 468 = .ok (.iadd, 1) := by decide +kernel
theorem d_L_law_469 : decode b_L_law 469 = .ok (.iaload, 1) := by decide +kernel
theorem d_L_law_470 : decode b_L_law 470 = .ok (.invokevirtual 70, 3) := by decide +kernel
theorem d_L_law_473 : decode b_L_law 473 = .ok (.if_icmp .eq 109, 3) := by decide +kernel
theorem d_L_law_476 : decode b_L_law 476 = .ok (.iconst 0, 1) := by decide +kernel
theorem d_L_law_477 : decode b_L_law 477 = .ok (.ireturn, 1) := by decide +kernel
theorem d_L_law_478 : decode b_L_law 478 = .ok (.aload_n 1, 1) := by decide +kernel
theorem d_L_law_479 : decode b_L_law 479 = .ok (.aload_n 0, 1) := by decide +kernel
theorem d_L_law_480 : decode b_L_law 480 = .ok (.iload 4, 2) := by decide +kernel
theorem d_L_law_482 : decode b_L_law 482 = .ok (.iconst 1, 1) := by decide +kernel
theorem d_L_law_483 : decode b_L_law 483 = .ok (.iadd, 1) := by decide +kernel
theorem d_L_law_484 : decode b_L_law 484 = .ok (.iaload, 1) := by decide +kernel
theorem d_L_law_485 : decode b_L_law 485 = .ok (.aload_n 0, 1) := by decide +kernel
theorem d_L_law_486 : decode b_L_law 486 = .ok (.iload 4, 2) := by decide +kernel
theorem d_L_law_488 : decode b_L_law 488 = .ok (.iconst 2, 1) := by decide +kernel
theorem d_L_law_489 : decode b_L_law 489 = .ok (.iadd, 1) := by decide +kernel
theorem d_L_law_490 : decode b_L_law 490 = .ok (.iaload, 1) := by decide +kernel
theorem d_L_law_491 : decode b_L_law 491 = .ok (.aload_n 0, 1) := by decide +kernel
theorem d_L_law_492 : decode b_L_law 492 = .ok (.iload 4, 2) := by decide +kernel
theorem d_L_law_494 : decode b_L_law 494 = .ok (.iconst 3, 1) := by decide +kernel
theorem d_L_law_495 : decode b_L_law 495 = .ok (.iadd, 1) := by decide +kernel
theorem d_L_law_496 : decode b_L_law 496 = .ok (.iaload, 1) := by decide +kernel
theorem d_L_law_497 : decode b_L_law 497 = .ok (.aload_n 3, 1) := by decide +kernel
theorem d_L_law_498 : decode b_L_law 498 = .ok (.invokestatic 71, 3) := by decide +kernel
theorem d_L_law_501 : decode b_L_law 501 = .ok (.istore 5, 2) := by decide +kernel
theorem d_L_law_503 : decode b_L_law 503 = .ok (.aload_n 2, 1) := by decide +kernel
theorem d_L_law_504 : decode b_L_law 504 = .ok (.aload_n 0, 1) := by decide +kernel
theorem d_L_law_505 : decode b_L_law 505 = .ok (.iload 4, 2) := by decide +kernel
theorem d_L_law_507 : decode b_L_law 507 = .ok (.iconst 1, 1) := by decide +kernel
theorem d_L_law_508 : decode b_L_law 508 = .ok (.iadd, 1) := by decide +kernel
theorem d_L_law_509 : decode b_L_law 509 = .ok (.iaload, 1) := by decide +kernel
theorem d_L_law_510 : decode b_L_law 510 = .ok (.aload_n 0, 1) := by decide +kernel
theorem d_L_law_511 : decode b_L_law 511 = .ok (.iload 4, 2) := by decide +kernel
theorem d_L_law_513 : decode b_L_law 513 = .ok (.iconst 2, 1) := by decide +kernel
theorem d_L_law_514 : decode b_L_law 514 = .ok (.iadd, 1) := by decide +kernel
theorem d_L_law_515 : decode b_L_law 515 = .ok (.iaload, 1) := by decide +kernel
theorem d_L_law_516 : decode b_L_law 516 = .ok (.aload_n 0, 1) := by decide +kernel
theorem d_L_law_517 : decode b_L_law 517 = .ok (.iload 4, 2) := by decide +kernel
theorem d_L_law_519 : decode b_L_law 519 = .ok (.iconst 3, 1) := by decide +kernel
theorem d_L_law_520 : decode b_L_law 520 = .ok (.iadd, 1) := by decide +kernel
theorem d_L_law_521 : decode b_L_law 521 = .ok (.iaload, 1) := by decide +kernel
theorem d_L_law_522 : decode b_L_law 522 = .ok (.invokevirtual 73, 3) := by decide +kernel
theorem d_L_law_525 : decode b_L_law 525 = .ok (.istore 6, 2) := by decide +kernel
theorem d_L_law_527 : decode b_L_law 527 = .ok (.aload_n 2, 1) := by decide +kernel
theorem d_L_law_528 : decode b_L_law 528 = .ok (.invokevirtual 41, 3) := by decide +kernel
theorem d_L_law_531 : decode b_L_law 531 = .ok (.iload 5, 2) := by decide +kernel
theorem d_L_law_533 : decode b_L_law 533 = .ok (.if_icmp .eq 5, 3) := by decide +kernel
theorem d_L_law_536 : decode b_L_law 536 = .ok (.iconst 0, 1) := by decide +kernel
theorem d_L_law_537 : decode b_L_law 537 = .ok (.ireturn, 1) := by decide +kernel
theorem d_L_law_538 : decode b_L_law 538 = .ok (.iload 5, 2) := by decide +kernel
theorem d_L_law_540 : decode b_L_law 540 = .ok (.ifCond .ne 15, 3) := by decide +kernel
theorem d_L_law_543 : decode b_L_law 543 = .ok (.aload_n 3, 1) := by decide +kernel
theorem d_L_law_544 : decode b_L_law 544 = .ok (.iconst 0, 1) := by decide +kernel
theorem d_L_law_545 : decode b_L_law 545 = .ok (.laload, 1) := by decide +kernel
theorem d_L_law_546 : decode b_L_law 546 = .ok (.iload 6, 2) := by decide +kernel
theorem d_L_law_548 : decode b_L_law 548 = .ok (.i2l, 1) := by decide +kernel
theorem d_L_law_549 : decode b_L_law 549 = .ok (.lcmp, 1) := by decide +kernel
theorem d_L_law_550 : decode b_L_law 550 = .ok (.ifCond .eq 5, 3) := by decide +kernel
theorem d_L_law_553 : decode b_L_law 553 = .ok (.iconst 0, 1) := by decide +kernel
theorem d_L_law_554 : decode b_L_law 554 = .ok (.ireturn, 1) := by decide +kernel
theorem d_L_law_555 : decode b_L_law 555 = .ok (.goto 27, 3) := by decide +kernel
theorem d_L_law_558 : decode b_L_law 558 = .ok (.aload_n 1, 1) := by decide +kernel
theorem d_L_law_559 : decode b_L_law 559 = .ok (.invokevirtual 74, 3) := by decide +kernel
theorem d_L_law_562 : decode b_L_law 562 = .ok (.aload_n 2, 1) := by decide +kernel
theorem d_L_law_563 : decode b_L_law 563 = .ok (.invokevirtual 77, 3) := by decide +kernel
theorem d_L_law_566 : decode b_L_law 566 = .ok (.goto 16, 3) := by decide +kernel
theorem d_L_law_569 : decode b_L_law 569 = .ok (.aload_n 1, 1) := by decide +kernel
theorem d_L_law_570 : decode b_L_law 570 = .ok (.invokevirtual 78, 3) := by decide +kernel
theorem d_L_law_573 : decode b_L_law 573 = .ok (.aload_n 2, 1) := by decide +kernel
theorem d_L_law_574 : decode b_L_law 574 = .ok (.invokevirtual 81, 3) := by decide +kernel
theorem d_L_law_577 : decode b_L_law 577 = .ok (.if_icmp .eq 5, 3) := by decide +kernel
theorem d_L_law_580 : decode b_L_law 580 = .ok (.iconst 0, 1) := by decide +kernel
theorem d_L_law_581 : decode b_L_law 581 = .ok (.ireturn, 1) := by decide +kernel
theorem d_L_law_582 : decode b_L_law 582 = .ok (.iinc 4 5, 3) := by decide +kernel
theorem d_L_law_585 : decode b_L_law 585 = .ok (.goto (-562), 3) := by decide +kernel
theorem d_L_law_588 : decode b_L_law 588 = .ok (.iconst 1, 1) := by decide +kernel
theorem d_L_law_589 : decode b_L_law 589 = .ok (.ireturn, 1) := by decide +kernel
