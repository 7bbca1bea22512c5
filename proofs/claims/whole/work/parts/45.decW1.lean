theorem d_L_law_316 : decode b_L_law 316 = .ok (.if_icmp .eq 5, 3) := by decide +kernel
theorem d_L_law_319 : decode b_L_law 319 = .ok (.iconst 0, 1) := by decide +kernel
theorem d_L_law_320 : decode b_L_law 320 = .ok (.ireturn, 1) := by decide +kernel
theorem d_L_law_321 : decode b_L_law 321 = .ok (.goto 536, 3) := by decide +kernel
theorem d_L_law_324 : decode b_L_law 324 = .ok (.aload_n 1, 1) := by decide +kernel
theorem d_L_law_325 : decode b_L_law 325 = .ok (.aload_n 0, 1) := by decide +kernel
theorem d_L_law_326 : decode b_L_law 326 = .ok (.iload 4, 2) := by decide +kernel
theorem d_L_law_328 : decode b_L_law 328 = .ok (.iconst 1, 1) := by decide +kernel
theorem d_L_law_329 : decode b_L_law 329 = .ok (.iadd, 1) := by decide +kernel
theorem d_L_law_330 : decode b_L_law 330 = .ok (.iaload, 1) := by decide +kernel
theorem d_L_law_331 : decode b_L_law 331 = .ok (.aload_n 0, 1) := by decide +kernel
theorem d_L_law_332 : decode b_L_law 332 = .ok (.iload 4, 2) := by decide +kernel
theorem d_L_law_334 : decode b_L_law 334 = .ok (.iconst 2, 1) := by decide +kernel
theorem d_L_law_335 : decode b_L_law 335 = .ok (.iadd, 1) := by decide +kernel
theorem d_L_law_336 : decode b_L_law 336 = .ok (.iaload, 1) := by decide +kernel
theorem d_L_law_337 : decode b_L_law 337 = .ok (.aload_n 3, 1) := by decide +kernel
theorem d_L_law_338 : decode b_L_law 338 = .ok (.invokestatic 78, 3) := by decide +kernel
theorem d_L_law_341 : decode b_L_law 341 = .ok (.istore 5, 2) := by decide +kernel
theorem d_L_law_343 : decode b_L_law 343 = .ok (.aload_n 2, 1) := by decide +kernel
theorem d_L_law_344 : decode b_L_law 344 = .ok (.aload_n 0, 1) := by decide +kernel
theorem d_L_law_345 : decode b_L_law 345 = .ok (.iload 4, 2) := by decide +kernel
theorem d_L_law_347 : decode b_L_law 347 = .ok (.iconst 1, 1) := by decide +kernel
theorem d_L_law_348 : decode b_L_law 348 = .ok (.iadd, 1) := by decide +kernel
theorem d_L_law_349 : decode b_L_law 349 = .ok (.iaload, 1) := by decide +kernel
theorem d_L_law_350 : decode b_L_law 350 = .ok (.aload_n 0, 1) := by decide +kernel
theorem d_L_law_351 : decode b_L_law 351 = .ok (.iload 4, 2) := by decide +kernel
theorem d_L_law_353 : decode b_L_law 353 = .ok (.iconst 2, 1) := by decide +kernel
theorem d_L_law_354 : decode b_L_law 354 = .ok (.iadd, 1) := by decide +kernel
theorem d_L_law_355 : decode b_L_law 355 = .ok (.iaload, 1) := by decide +kernel
theorem d_L_law_356 : decode b_L_law 356 = .ok (.invokevirtual 80, 3) := by decide +kernel
theorem d_L_law_359 : decode b_L_law 359 = .ok (.istore 6, 2) := by decide +kernel
theorem d_L_law_361 : decode b_L_law 361 = .ok (.aload_n 2, 1) := by decide +kernel
theorem d_L_law_362 : decode b_L_law 362 = .ok (.invokevirtual 66, 3) := by decide +kernel
theorem d_L_law_365 : decode b_L_law 365 = .ok (.iload 5, 2) := by decide +kernel
theorem d_L_law_367 : decode b_L_law 367 = .ok (.if_icmp .eq 5, 3) := by decide +kernel
theorem d_L_law_370 : decode b_L_law 370 = .ok (.iconst 0, 1) := by decide +kernel
theorem d_L_law_371 : decode b_L_law 371 = .ok (.ireturn, 1) := by decide +kernel
theorem d_L_law_372 : decode b_L_law 372 = .ok (.iload 5, 2) := by decide +kernel
theorem d_L_law_374 : decode b_L_law 374 = .ok (.ifCond .ne 15, 3) := by decide +kernel
theorem d_L_law_377 : decode b_L_law 377 = .ok (.aload_n 3, 1) := by decide +kernel
theorem d_L_law_378 : decode b_L_law 378 = .ok (.iconst 0, 1) := by decide +kernel
theorem d_L_law_379 : decode b_L_law 379 = .ok (.laload, 1) := by decide +kernel
theorem d_L_law_380 : decode b_L_law 380 = .ok (.iload 6, 2) := by decide +kernel
theorem d_L_law_382 : decode b_L_law 382 = .ok (.i2l, 1) := by decide +kernel
theorem d_L_law_383 : decode b_L_law 383 = .ok (.lcmp, 1) := by decide +kernel
theorem d_L_law_384 : decode b_L_law 384 = .ok (.ifCond .eq 5, 3) := by decide +kernel
theorem d_L_law_387 : decode b_L_law 387 = .ok (.iconst 0, 1) := by decide +kernel
theorem d_L_law_388 : decode b_L_law 388 = .ok (.ireturn, 1) := by decide +kernel
theorem d_L_law_389 : decode b_L_law 389 = .ok (.goto 468, 3) := by decide +kernel
theorem d_L_law_392 : decode b_L_law 392 = .ok (.aload_n 1, 1) := by decide +kernel
theorem d_L_law_393 : decode b_L_law 393 = .ok (.aload_n 0, 1) := by decide +kernel
theorem d_L_law_394 : decode b_L_law 394 = .ok (.iload 4, 2) := by decide +kernel
theorem d_L_law_396 : decode b_L_law 396 = .ok (.iconst 1, 1) := by decide +kernel
theorem d_L_law_397 : decode b_L_law 397 = .ok (.iadd, 1) := by decide +kernel
theorem d_L_law_398 : decode b_L_law 398 = .ok (.iaload, 1) := by decide +kernel
theorem d_L_law_399 : decode b_L_law 399 = .ok (.aload_n 0, 1) := by decide +kernel
theorem d_L_law_400 : decode b_L_law 400 = .ok (.iload 4, 2) := by decide +kernel
theorem d_L_law_402 : decode b_L_law 402 = .ok (.iconst 2, 1) := by decide +kernel
theorem d_L_law_403 : decode b_L_law 403 = .ok (.iadd, 1) := by decide +kernel
theorem d_L_law_404 : decode b_L_law 404 = .ok (.iaload, 1) := by decide +kernel
theorem d_L_law_405 : decode b_L_law 405 = .ok (.aload_n 3, 1) := by decide +kernel
theorem d_L_law_406 : decode b_L_law 406 = .ok (.invokestatic 81, 3) := by decide +kernel
theorem d_L_law_409 : decode b_L_law 409 = .ok (.istore 5, 2) := by decide +kernel
theorem d_L_law_411 : decode b_L_law 411 = .ok (.aload_n 2, 1) := by decide +kernel
theorem d_L_law_412 : decode b_L_law 412 = .ok (.aload_n 0, 1) := by decide +kernel
theorem d_L_law_413 : decode b_L_law 413 = .ok (.iload 4, 2) := by decide +kernel
theorem d_L_law_415 : decode b_L_law 415 = .ok (.iconst 1, 1) := by decide +kernel
theorem d_L_law_416 : decode b_L_law 416 = .ok (.iadd, 1) := by decide +kernel
theorem d_L_law_417 : decode b_L_law 417 = .ok (.iaload, 1) := by decide +kernel
theorem d_L_law_418 : decode b_L_law 418 = .ok (.aload_n 0, 1) := by decide +kernel
theorem d_L_law_419 : decode b_L_law 419 = .ok (.iload 4, 2) := by decide +kernel
theorem d_L_law_421 : decode b_L_law 421 = .ok (.iconst 2, 1) := by decide +kernel
theorem d_L_law_422 : decode b_L_law 422 = .ok (.iadd, 1) := by decide +kernel
theorem d_L_law_423 : decode b_L_law 423 = .ok (.iaload, 1) := by decide +kernel
theorem d_L_law_424 : decode b_L_law 424 = .ok (.invokevirtual 83, 3) := by decide +kernel
theorem d_L_law_427 : decode b_L_law 427 = .ok (.istore 6, 2) := by decide +kernel
theorem d_L_law_429 : decode b_L_law 429 = .ok (.aload_n 2, 1) := by decide +kernel
theorem d_L_law_430 : decode b_L_law 430 = .ok (.invokevirtual 66, 3) := by decide +kernel
theorem d_L_law_433 : decode b_L_law 433 = .ok (.iload 5, 2) := by decide +kernel
theorem d_L_law_435 : decode b_L_law 435 = .ok (.if_icmp .eq 5, 3) := by decide +kernel
theorem d_L_law_438 : decode b_L_law 438 = .ok (.iconst 0, 1) := by decide +kernel
theorem d_L_law_439 : decode b_L_law 439 = .ok (.ireturn, 1) := by decide +kernel
theorem d_L_law_440 : decode b_L_law 440 = .ok (.iload 5, 2) := by decide +kernel
theorem d_L_law_442 : decode b_L_law 442 = .ok (.ifCond .ne 22, 3) := by decide +kernel
theorem d_L_law_445 : decode b_L_law 445 = .ok (.aload_n 3, 1) := by decide +kernel
theorem d_L_law_446 : decode b_L_law 446 = .ok (.iconst 0, 1) := by decide +kernel
theorem d_L_law_447 : decode b_L_law 447 = .ok (.laload, 1) := by decide +kernel
theorem d_L_law_448 : decode b_L_law 448 = .ok (.iload 6, 2) := by decide +kernel
theorem d_L_law_450 : decode b_L_law 450 = .ok (.ifCond .eq 7, 3) := by decide +kernel
theorem d_L_law_453 : decode b_L_law 453 = .ok (.lconst 1, 1) := by decide +kernel
theorem d_L_law_454 : decode b_L_law 454 = .ok (.goto 4, 3) := by decide +kernel
theorem d_L_law_457 : decode b_L_law 457 = .ok (.lconst 0, 1) := by decide +kernel
theorem d_L_law_458 : decode b_L_law 458 = .ok (.lcmp, 1) := by decide +kernel
theorem d_L_law_459 : decode b_L_law 459 = .ok (.ifCond .eq 5, 3) := by decide +kernel
theorem d_L_law_462 : decode b_L_law 462 = .ok (.iconst 0, 1) := by decide +kernel
theorem d_L_law_463 : decode b_L_law 463 = .ok (.ireturn, 1) := by decide +kernel
theorem d_L_law_464 : decode b_L_law 464 = .ok (.goto 393, 3) := by decide +kernel
theorem d_L_law_467 : decode b_L_law 467 = .ok (.aload_n 1, 1) := by decide +kernel
theorem d_L_law_468 : decode b_L_law 468 = .ok (.aload_n 0, 1) := by decide +kernel
theorem d_L_law_469 : decode b_L_law 469 = .ok (.iload 4, 2) := by decide +kernel
theorem d_L_law_471 : decode b_L_law 471 = .ok (.iconst 1, 1) := by decide +kernel
theorem d_L_law_472 : decode b_L_law 472 = .ok (.iadd, 1) := by decide +kernel
theorem d_L_law_473 : decode b_L_law 473 = .ok (.iaload, 1) := by decide +kernel
theorem d_L_law_474 : decode b_L_law 474 = .ok (.aload_n 0, 1) := by decide +kernel
theorem d_L_law_475 : decode b_L_law 475 = .ok (.iload 4, 2) := by decide +kernel
theorem d_L_law_477 : decode b_L_law 477 = .ok (.iconst 2, 1) := by decide +kernel
theorem d_L_law_478 : decode b_L_law 478 = .ok (.iadd, 1) := by decide +kernel
theorem d_L_law_479 : decode b_L_law 479 = .ok (.iaload, 1) := by decide +kernel
theorem d_L_law_480 : decode b_L_law 480 = .ok (.aload_n 3, 1) := by decide +kernel
theorem d_L_law_481 : decode b_L_law 481 = .ok (.invokestatic 84, 3) := by decide +kernel
theorem d_L_law_484 : decode b_L_law 484 = .ok (.istore 5, 2) := by decide +kernel
theorem d_L_law_486 : decode b_L_law 486 = .ok (.aload_n 2, 1) := by decide +kernel
theorem d_L_law_487 : decode b_L_law 487 = .ok (.aload_n 0, 1) := by decide +kernel
theorem d_L_law_488 : decode b_L_law 488 = .ok (.iload 4, 2) := by decide +kernel
theorem d_L_law_490 : decode b_L_law 490 = .ok (.iconst 1, 1) := by decide +kernel
theorem d_L_law_491 : decode b_L_law 491 = .ok (.iadd, 1) := by decide +kernel
theorem d_L_law_492 : decode b_L_law 492 = .ok (.iaload, 1) := by decide +kernel
theorem d_L_law_493 : decode b_L_law 493 = .ok (.aload_n 0, 1) := by decide +kernel
theorem d_L_law_494 : decode b_L_law 494 = .ok (.iload 4, 2) := by decide +kernel
theorem d_L_law_496 : decode b_L_law 496 = .ok (.iconst 2, 1) := by decide +kernel
theorem d_L_law_497 : decode b_L_law 497 = .ok (.iadd, 1) := by decide +kernel
theorem d_L_law_498 : decode b_L_law 498 = .ok (.iaload, 1) := by decide +kernel
theorem d_L_law_499 : decode b_L_law 499 = .ok (.invokevirtual 86, 3) := by decide +kernel
theorem d_L_law_502 : decode b_L_law 502 = .ok (.istore 6, 2) := by decide +kernel
theorem d_L_law_504 : decode b_L_law 504 = .ok (.aload_n 2, 1) := by decide +kernel
theorem d_L_law_505 : decode b_L_law 505 = .ok (.invokevirtual 66, 3) := by decide +kernel
theorem d_L_law_508 : decode b_L_law 508 = .ok (.iload 5, 2) := by decide +kernel
theorem d_L_law_510 : decode b_L_law 510 = .ok (.if_icmp .eq 5, 3) := by decide +kernel
theorem d_L_law_513 : decode b_L_law 513 = .ok (.iconst 0, 1) := by decide +kernel
theorem d_L_law_514 : decode b_L_law 514 = .ok (.ireturn, 1) := by decide +kernel
theorem d_L_law_515 : decode b_L_law 515 = .ok (.iload 5, 2) := by decide +kernel
theorem d_L_law_517 : decode b_L_law 517 = .ok (.ifCond .ne 15, 3) := by decide +kernel
theorem d_L_law_520 : decode b_L_law 520 = .ok (.aload_n 3, 1) := by decide +kernel
theorem d_L_law_521 : decode b_L_law 521 = .ok (.iconst 0, 1) := by decide +kernel
theorem d_L_law_522 : decode b_L_law 522 = .ok (.laload, 1) := by decide +kernel
theorem d_L_law_523 : decode b_L_law 523 = .ok (.iload 6, 2) := by decide +kernel
theorem d_L_law_525 : decode b_L_law 525 = .ok (.i2l, 1) := by decide +kernel
theorem d_L_law_526 : decode b_L_law 526 = .ok (.lcmp, 1) := by decide +kernel
theorem d_L_law_527 : decode b_L_law 527 = .ok (.ifCond .eq 5, 3) := by decide +kernel
theorem d_L_law_530 : decode b_L_law 530 = .ok (.iconst 0, 1) := by decide +kernel
theorem d_L_law_531 : decode b_L_law 531 = .ok (.ireturn, 1) := by decide +kernel
theorem d_L_law_532 : decode b_L_law 532 = .ok (.goto 325, 3) := by decide +kernel
theorem d_L_law_535 : decode b_L_law 535 = .ok (.aload_n 1, 1) := by decide +kernel
theorem d_L_law_536 : decode b_L_law 536 = .ok (.aload_n 0, 1) := by decide +kernel
theorem d_L_law_537 : decode b_L_law 537 = .ok (.iload 4, 2) := by decide +kernel
theorem d_L_law_539 : decode b_L_law 539 = .ok (.iconst 1, 1) := by decide +kernel
theorem d_L_law_540 : decode b_L_law 540 = .ok (.iadd, 1) := by decide +kernel
theorem d_L_law_541 : decode b_L_law 541 = .ok (.iaload, 1) := by decide +kernel
theorem d_L_law_542 : decode b_L_law 542 = .ok (.aload_n 0, 1) := by decide +kernel
theorem d_L_law_543 : decode b_L_law 543 = .ok (.iload 4, 2) := by decide +kernel
theorem d_L_law_545 : decode b_L_law 545 = .ok (.iconst 2, 1) := by decide +kernel
theorem d_L_law_546 : decode b_L_law 546 = .ok (.iadd, 1) := by decide +kernel
theorem d_L_law_547 : decode b_L_law 547 = .ok (.iaload, 1) := by decide +kernel
theorem d_L_law_548 : decode b_L_law 548 = .ok (.aload_n 3, 1) := by decide +kernel
theorem d_L_law_549 : decode b_L_law 549 = .ok (.invokestatic 87, 3) := by decide +kernel
theorem d_L_law_552 : decode b_L_law 552 = .ok (.istore 5, 2) := by decide +kernel
theorem d_L_law_554 : decode b_L_law 554 = .ok (.aload_n 2, 1) := by decide +kernel
theorem d_L_law_555 : decode b_L_law 555 = .ok (.aload_n 0, 1) := by decide +kernel
theorem d_L_law_556 : decode b_L_law 556 = .ok (.iload 4, 2) := by decide +kernel
theorem d_L_law_558 : decode b_L_law 558 = .ok (.iconst 1, 1) := by decide +kernel
theorem d_L_law_559 : decode b_L_law 559 = .ok (.iadd, 1) := by decide +kernel
theorem d_L_law_560 : decode b_L_law 560 = .ok (.iaload, 1) := by decide +kernel
theorem d_L_law_561 : decode b_L_law 561 = .ok (.aload_n 0, 1) := by decide +kernel
theorem d_L_law_562 : decode b_L_law 562 = .ok (.iload 4, 2) := by decide +kernel
theorem d_L_law_564 : decode b_L_law 564 = .ok (.iconst 2, 1) := by decide +kernel
theorem d_L_law_565 : decode b_L_law 565 = .ok (.iadd, 1) := by decide +kernel
theorem d_L_law_566 : decode b_L_law 566 = .ok (.iaload, 1) := by decide +kernel
theorem d_L_law_567 : decode b_L_law 567 = .ok (.invokevirtual 89, 3) := by decide +kernel
theorem d_L_law_570 : decode b_L_law 570 = .ok (.istore 6, 2) := by decide +kernel
theorem d_L_law_572 : decode b_L_law 572 = .ok (.aload_n 2, 1) := by decide +kernel
theorem d_L_law_573 : decode b_L_law 573 = .ok (.invokevirtual 66, 3) := by decide +kernel
theorem d_L_law_576 : decode b_L_law 576 = .ok (.iload 5, 2) := by decide +kernel
theorem d_L_law_578 : decode b_L_law 578 = .ok (.if_icmp .eq 5, 3) := by decide +kernel
theorem d_L_law_581 : decode b_L_law 581 = .ok (.iconst 0, 1) := by decide +kernel
theorem d_L_law_582 : decode b_L_law 582 = .ok (.ireturn, 1) := by decide +kernel
theorem d_L_law_583 : decode b_L_law 583 = .ok (.iload 5, 2) := by decide +kernel
theorem d_L_law_585 : decode b_L_law 585 = .ok (.ifCond .ne 15, 3) := by decide +kernel
