theorem d_L_law_306 : decode code 306 = .ok (.i2l, 1) := by decide +kernel
theorem d_L_law_307 : decode code 307 = .ok (.lcmp, 1) := by decide +kernel
theorem d_L_law_308 : decode code 308 = .ok (.ifCond .eq 5, 3) := by decide +kernel
theorem d_L_law_311 : decode code 311 = .ok (.iconst 0, 1) := by decide +kernel
theorem d_L_law_312 : decode code 312 = .ok (.ireturn, 1) := by decide +kernel
theorem d_L_law_313 : decode code 313 = .ok (.goto 607, 3) := by decide +kernel
theorem d_L_law_316 : decode code 316 = .ok (.aload_n 1, 1) := by decide +kernel
theorem d_L_law_317 : decode code 317 = .ok (.aload_n 0, 1) := by decide +kernel
theorem d_L_law_318 : decode code 318 = .ok (.iload 4, 2) := by decide +kernel
theorem d_L_law_320 : decode code 320 = .ok (.iconst 1, 1) := by decide +kernel
theorem d_L_law_321 : decode code 321 = .ok (.iadd, 1) := by decide +kernel
theorem d_L_law_322 : decode code 322 = .ok (.iaload, 1) := by decide +kernel
theorem d_L_law_323 : decode code 323 = .ok (.aload_n 0, 1) := by decide +kernel
theorem d_L_law_324 : decode code 324 = .ok (.iload 4, 2) := by decide +kernel
theorem d_L_law_326 : decode code 326 = .ok (.iconst 2, 1) := by decide +kernel
theorem d_L_law_327 : decode code 327 = .ok (.iadd, 1) := by decide +kernel
theorem d_L_law_328 : decode code 328 = .ok (.iaload, 1) := by decide +kernel
theorem d_L_law_329 : decode code 329 = .ok (.aload_n 0, 1) := by decide +kernel
theorem d_L_law_330 : decode code 330 = .ok (.iload 4, 2) := by decide +kernel
theorem d_L_law_332 : decode code 332 = .ok (.iconst 3, 1) := by decide +kernel
theorem d_L_law_333 : decode code 333 = .ok (.iadd, 1) := by decide +kernel
theorem d_L_law_334 : decode code 334 = .ok (.iaload, 1) := by decide +kernel
theorem d_L_law_335 : decode code 335 = .ok (.aload_n 0, 1) := by decide +kernel
theorem d_L_law_336 : decode code 336 = .ok (.iload 4, 2) := by decide +kernel
theorem d_L_law_338 : decode code 338 = .ok (.iconst 4, 1) := by decide +kernel
theorem d_L_law_339 : decode code 339 = .ok (.iadd, 1) := by decide +kernel
theorem d_L_law_340 : decode code 340 = .ok (.iaload, 1) := by decide +kernel
theorem d_L_law_341 : decode code 341 = .ok (.aload_n 3, 1) := by decide +kernel
theorem d_L_law_342 : decode code 342 = .ok (.invokestatic 78, 3) := by decide +kernel
theorem d_L_law_345 : decode code 345 = .ok (.istore 5, 2) := by decide +kernel
theorem d_L_law_347 : decode code 347 = .ok (.aload_n 2, 1) := by decide +kernel
theorem d_L_law_348 : decode code 348 = .ok (.aload_n 0, 1) := by decide +kernel
theorem d_L_law_349 : decode code 349 = .ok (.iload 4, 2) := by decide +kernel
theorem d_L_law_351 : decode code 351 = .ok (.iconst 1, 1) := by decide +kernel
theorem d_L_law_352 : decode code 352 = .ok (.iadd, 1) := by decide +kernel
theorem d_L_law_353 : decode code 353 = .ok (.iaload, 1) := by decide +kernel
theorem d_L_law_354 : decode code 354 = .ok (.aload_n 0, 1) := by decide +kernel
theorem d_L_law_355 : decode code 355 = .ok (.iload 4, 2) := by decide +kernel
theorem d_L_law_357 : decode code 357 = .ok (.iconst 2, 1) := by decide +kernel
theorem d_L_law_358 : decode code 358 = .ok (.iadd, 1) := by decide +kernel
theorem d_L_law_359 : decode code 359 = .ok (.iaload, 1) := by decide +kernel
theorem d_L_law_360 : decode code 360 = .ok (.aload_n 0, 1) := by decide +kernel
theorem d_L_law_361 : decode code 361 = .ok (.iload 4, 2) := by decide +kernel
theorem d_L_law_363 : decode code 363 = .ok (.iconst 3, 1) := by decide +kernel
theorem d_L_law_364 : decode code 364 = .ok (.iadd, 1) := by decide +kernel
theorem d_L_law_365 : decode code 365 = .ok (.iaload, 1) := by decide +kernel
theorem d_L_law_366 : decode code 366 = .ok (.aload_n 0, 1) := by decide +kernel
theorem d_L_law_367 : decode code 367 = .ok (.iload 4, 2) := by decide +kernel
theorem d_L_law_369 : decode code 369 = .ok (.iconst 4, 1) := by decide +kernel
theorem d_L_law_370 : decode code 370 = .ok (.iadd, 1) := by decide +kernel
theorem d_L_law_371 : decode code 371 = .ok (.iaload, 1) := by decide +kernel
theorem d_L_law_372 : decode code 372 = .ok (.invokevirtual 81, 3) := by decide +kernel
theorem d_L_law_375 : decode code 375 = .ok (.lstore 6, 2) := by decide +kernel
theorem d_L_law_377 : decode code 377 = .ok (.aload_n 2, 1) := by decide +kernel
theorem d_L_law_378 : decode code 378 = .ok (.invokevirtual 67, 3) := by decide +kernel
theorem d_L_law_381 : decode code 381 = .ok (.iload 5, 2) := by decide +kernel
theorem d_L_law_383 : decode code 383 = .ok (.if_icmp .eq 5, 3) := by decide +kernel
theorem d_L_law_386 : decode code 386 = .ok (.iconst 0, 1) := by decide +kernel
theorem d_L_law_387 : decode code 387 = .ok (.ireturn, 1) := by decide +kernel
theorem d_L_law_388 : decode code 388 = .ok (.iload 5, 2) := by decide +kernel
theorem d_L_law_390 : decode code 390 = .ok (.ifCond .ne 14, 3) := by decide +kernel
theorem d_L_law_393 : decode code 393 = .ok (.aload_n 3, 1) := by decide +kernel
theorem d_L_law_394 : decode code 394 = .ok (.iconst 0, 1) := by decide +kernel
theorem d_L_law_395 : decode code 395 = .ok (.laload, 1) := by decide +kernel
theorem d_L_law_396 : decode code 396 = .ok (.lload 6, 2) := by decide +kernel
theorem d_L_law_398 : decode code 398 = .ok (.lcmp, 1) := by decide +kernel
theorem d_L_law_399 : decode code 399 = .ok (.ifCond .eq 5, 3) := by decide +kernel
theorem d_L_law_402 : decode code 402 = .ok (.iconst 0, 1) := by decide +kernel
theorem d_L_law_403 : decode code 403 = .ok (.ireturn, 1) := by decide +kernel
theorem d_L_law_404 : decode code 404 = .ok (.goto 516, 3) := by decide +kernel
theorem d_L_law_407 : decode code 407 = .ok (.aload_n 1, 1) := by decide +kernel
theorem d_L_law_408 : decode code 408 = .ok (.aload_n 0, 1) := by decide +kernel
theorem d_L_law_409 : decode code 409 = .ok (.iload 4, 2) := by decide +kernel
theorem d_L_law_411 : decode code 411 = .ok (.iconst 1, 1) := by decide +kernel
theorem d_L_law_412 : decode code 412 = .ok (.iadd, 1) := by decide +kernel
theorem d_L_law_413 : decode code 413 = .ok (.iaload, 1) := by decide +kernel
theorem d_L_law_414 : decode code 414 = .ok (.aload_n 0, 1) := by decide +kernel
theorem d_L_law_415 : decode code 415 = .ok (.iload 4, 2) := by decide +kernel
theorem d_L_law_417 : decode code 417 = .ok (.iconst 2, 1) := by decide +kernel
theorem d_L_law_418 : decode code 418 = .ok (.iadd, 1) := by decide +kernel
theorem d_L_law_419 : decode code 419 = .ok (.iaload, 1) := by decide +kernel
theorem d_L_law_420 : decode code 420 = .ok (.aload_n 3, 1) := by decide +kernel
theorem d_L_law_421 : decode code 421 = .ok (.invokestatic 82, 3) := by decide +kernel
theorem d_L_law_424 : decode code 424 = .ok (.istore 5, 2) := by decide +kernel
theorem d_L_law_426 : decode code 426 = .ok (.aload_n 2, 1) := by decide +kernel
theorem d_L_law_427 : decode code 427 = .ok (.aload_n 0, 1) := by decide +kernel
theorem d_L_law_428 : decode code 428 = .ok (.iload 4, 2) := by decide +kernel
theorem d_L_law_430 : decode code 430 = .ok (.iconst 1, 1) := by decide +kernel
theorem d_L_law_431 : decode code 431 = .ok (.iadd, 1) := by decide +kernel
theorem d_L_law_432 : decode code 432 = .ok (.iaload, 1) := by decide +kernel
theorem d_L_law_433 : decode code 433 = .ok (.aload_n 0, 1) := by decide +kernel
theorem d_L_law_434 : decode code 434 = .ok (.iload 4, 2) := by decide +kernel
theorem d_L_law_436 : decode code 436 = .ok (.iconst 2, 1) := by decide +kernel
theorem d_L_law_437 : decode code 437 = .ok (.iadd, 1) := by decide +kernel
theorem d_L_law_438 : decode code 438 = .ok (.iaload, 1) := by decide +kernel
theorem d_L_law_439 : decode code 439 = .ok (.invokevirtual 84, 3) := by decide +kernel
theorem d_L_law_442 : decode code 442 = .ok (.lstore 6, 2) := by decide +kernel
theorem d_L_law_444 : decode code 444 = .ok (.aload_n 2, 1) := by decide +kernel
theorem d_L_law_445 : decode code 445 = .ok (.invokevirtual 67, 3) := by decide +kernel
theorem d_L_law_448 : decode code 448 = .ok (.iload 5, 2) := by decide +kernel
theorem d_L_law_450 : decode code 450 = .ok (.if_icmp .eq 5, 3) := by decide +kernel
theorem d_L_law_453 : decode code 453 = .ok (.iconst 0, 1) := by decide +kernel
theorem d_L_law_454 : decode code 454 = .ok (.ireturn, 1) := by decide +kernel
theorem d_L_law_455 : decode code 455 = .ok (.iload 5, 2) := by decide +kernel
theorem d_L_law_457 : decode code 457 = .ok (.ifCond .ne 14, 3) := by decide +kernel
theorem d_L_law_460 : decode code 460 = .ok (.aload_n 3, 1) := by decide +kernel
theorem d_L_law_461 : decode code 461 = .ok (.iconst 0, 1) := by decide +kernel
theorem d_L_law_462 : decode code 462 = .ok (.laload, 1) := by decide +kernel
theorem d_L_law_463 : decode code 463 = .ok (.lload 6, 2) := by decide +kernel
theorem d_L_law_465 : decode code 465 = .ok (.lcmp, 1) := by decide +kernel
theorem d_L_law_466 : decode code 466 = .ok (.ifCond .eq 5, 3) := by decide +kernel
theorem d_L_law_469 : decode code 469 = .ok (.iconst 0, 1) := by decide +kernel
theorem d_L_law_470 : decode code 470 = .ok (.ireturn, 1) := by decide +kernel
theorem d_L_law_471 : decode code 471 = .ok (.goto 449, 3) := by decide +kernel
theorem d_L_law_474 : decode code 474 = .ok (.aload_n 1, 1) := by decide +kernel
theorem d_L_law_475 : decode code 475 = .ok (.aload_n 0, 1) := by decide +kernel
theorem d_L_law_476 : decode code 476 = .ok (.iload 4, 2) := by decide +kernel
theorem d_L_law_478 : decode code 478 = .ok (.iconst 1, 1) := by decide +kernel
theorem d_L_law_479 : decode code 479 = .ok (.iadd, 1) := by decide +kernel
theorem d_L_law_480 : decode code 480 = .ok (.iaload, 1) := by decide +kernel
theorem d_L_law_481 : decode code 481 = .ok (.aload_n 0, 1) := by decide +kernel
theorem d_L_law_482 : decode code 482 = .ok (.iload 4, 2) := by decide +kernel
theorem d_L_law_484 : decode code 484 = .ok (.iconst 2, 1) := by decide +kernel
theorem d_L_law_485 : decode code 485 = .ok (.iadd, 1) := by decide +kernel
theorem d_L_law_486 : decode code 486 = .ok (.iaload, 1) := by decide +kernel
theorem d_L_law_487 : decode code 487 = .ok (.aload_n 0, 1) := by decide +kernel
theorem d_L_law_488 : decode code 488 = .ok (.iload 4, 2) := by decide +kernel
theorem d_L_law_490 : decode code 490 = .ok (.iconst 3, 1) := by decide +kernel
theorem d_L_law_491 : decode code 491 = .ok (.iadd, 1) := by decide +kernel
theorem d_L_law_492 : decode code 492 = .ok (.iaload, 1) := by decide +kernel
theorem d_L_law_493 : decode code 493 = .ok (.aload_n 3, 1) := by decide +kernel
theorem d_L_law_494 : decode code 494 = .ok (.invokestatic 85, 3) := by decide +kernel
theorem d_L_law_497 : decode code 497 = .ok (.istore 5, 2) := by decide +kernel
theorem d_L_law_499 : decode code 499 = .ok (.aload_n 2, 1) := by decide +kernel
theorem d_L_law_500 : decode code 500 = .ok (.aload_n 0, 1) := by decide +kernel
theorem d_L_law_501 : decode code 501 = .ok (.iload 4, 2) := by decide +kernel
theorem d_L_law_503 : decode code 503 = .ok (.iconst 1, 1) := by decide +kernel
theorem d_L_law_504 : decode code 504 = .ok (.iadd, 1) := by decide +kernel
theorem d_L_law_505 : decode code 505 = .ok (.iaload, 1) := by decide +kernel
theorem d_L_law_506 : decode code 506 = .ok (.aload_n 0, 1) := by decide +kernel
theorem d_L_law_507 : decode code 507 = .ok (.iload 4, 2) := by decide +kernel
theorem d_L_law_509 : decode code 509 = .ok (.iconst 2, 1) := by decide +kernel
theorem d_L_law_510 : decode code 510 = .ok (.iadd, 1) := by decide +kernel
theorem d_L_law_511 : decode code 511 = .ok (.iaload, 1) := by decide +kernel
theorem d_L_law_512 : decode code 512 = .ok (.aload_n 0, 1) := by decide +kernel
theorem d_L_law_513 : decode code 513 = .ok (.iload 4, 2) := by decide +kernel
theorem d_L_law_515 : decode code 515 = .ok (.iconst 3, 1) := by decide +kernel
theorem d_L_law_516 : decode code 516 = .ok (.iadd, 1) := by decide +kernel
theorem d_L_law_517 : decode code 517 = .ok (.iaload, 1) := by decide +kernel
theorem d_L_law_518 : decode code 518 = .ok (.invokevirtual 88, 3) := by decide +kernel
theorem d_L_law_521 : decode code 521 = .ok (.istore 6, 2) := by decide +kernel
theorem d_L_law_523 : decode code 523 = .ok (.aload_n 2, 1) := by decide +kernel
theorem d_L_law_524 : decode code 524 = .ok (.invokevirtual 67, 3) := by decide +kernel
theorem d_L_law_527 : decode code 527 = .ok (.iload 5, 2) := by decide +kernel
theorem d_L_law_529 : decode code 529 = .ok (.if_icmp .eq 5, 3) := by decide +kernel
theorem d_L_law_532 : decode code 532 = .ok (.iconst 0, 1) := by decide +kernel
theorem d_L_law_533 : decode code 533 = .ok (.ireturn, 1) := by decide +kernel
theorem d_L_law_534 : decode code 534 = .ok (.iload 5, 2) := by decide +kernel
theorem d_L_law_536 : decode code 536 = .ok (.ifCond .ne 15, 3) := by decide +kernel
theorem d_L_law_539 : decode code 539 = .ok (.aload_n 3, 1) := by decide +kernel
theorem d_L_law_540 : decode code 540 = .ok (.iconst 0, 1) := by decide +kernel
theorem d_L_law_541 : decode code 541 = .ok (.laload, 1) := by decide +kernel
theorem d_L_law_542 : decode code 542 = .ok (.iload 6, 2) := by decide +kernel
theorem d_L_law_544 : decode code 544 = .ok (.i2l, 1) := by decide +kernel
theorem d_L_law_545 : decode code 545 = .ok (.lcmp, 1) := by decide +kernel
theorem d_L_law_546 : decode code 546 = .ok (.ifCond .eq 5, 3) := by decide +kernel
theorem d_L_law_549 : decode code 549 = .ok (.iconst 0, 1) := by decide +kernel
theorem d_L_law_550 : decode code 550 = .ok (.ireturn, 1) := by decide +kernel
theorem d_L_law_551 : decode code 551 = .ok (.goto 369, 3) := by decide +kernel
theorem d_L_law_554 : decode code 554 = .ok (.aload_n 1, 1) := by decide +kernel
theorem d_L_law_555 : decode code 555 = .ok (.aload_n 0, 1) := by decide +kernel
theorem d_L_law_556 : decode code 556 = .ok (.iload 4, 2) := by decide +kernel
theorem d_L_law_558 : decode code 558 = .ok (.iconst 1, 1) := by decide +kernel
theorem d_L_law_559 : decode code 559 = .ok (.iadd, 1) := by decide +kernel
theorem d_L_law_560 : decode code 560 = .ok (.iaload, 1) := by decide +kernel
theorem d_L_law_561 : decode code 561 = .ok (.i2l, 1) := by decide +kernel
theorem d_L_law_562 : decode code 562 = .ok (.bipush 32, 2) := by decide +kernel
theorem d_L_law_564 : decode code 564 = .ok (.lshl, 1) := by decide +kernel
theorem d_L_law_565 : decode code 565 = .ok (.aload_n 0, 1) := by decide +kernel
theorem d_L_law_566 : decode code 566 = .ok (.iload 4, 2) := by decide +kernel
theorem d_L_law_568 : decode code 568 = .ok (.iconst 2, 1) := by decide +kernel
theorem d_L_law_569 : decode code 569 = .ok (.iadd, 1) := by decide +kernel
theorem d_L_law_570 : decode code 570 = .ok (.iaload, 1) := by decide +kernel
theorem d_L_law_571 : decode code 571 = .ok (.i2l, 1) := by decide +kernel
theorem d_L_law_572 : decode code 572 = .ok (.ldc2_w 89, 3) := by decide +kernel
theorem d_L_law_575 : decode code 575 = .ok (.land, 1) := by decide +kernel
theorem d_L_law_576 : decode code 576 = .ok (.lor, 1) := by decide +kernel
theorem d_L_law_577 : decode code 577 = .ok (.aload_n 3, 1) := by decide +kernel
theorem d_L_law_578 : decode code 578 = .ok (.invokestatic 91, 3) := by decide +kernel
theorem d_L_law_581 : decode code 581 = .ok (.istore 5, 2) := by decide +kernel
theorem d_L_law_583 : decode code 583 = .ok (.aload_n 2, 1) := by decide +kernel
theorem d_L_law_584 : decode code 584 = .ok (.aload_n 0, 1) := by decide +kernel
theorem d_L_law_585 : decode code 585 = .ok (.iload 4, 2) := by decide +kernel
theorem d_L_law_587 : decode code 587 = .ok (.iconst 1, 1) := by decide +kernel
theorem d_L_law_588 : decode code 588 = .ok (.iadd, 1) := by decide +kernel
theorem d_L_law_589 : decode code 589 = .ok (.iaload, 1) := by decide +kernel
theorem d_L_law_590 : decode code 590 = .ok (.i2l, 1) := by decide +kernel
theorem d_L_law_591 : decode code 591 = .ok (.bipush 32, 2) := by decide +kernel
theorem d_L_law_593 : decode code 593 = .ok (.lshl, 1) := by decide +kernel
theorem d_L_law_594 : decode code 594 = .ok (.aload_n 0, 1) := by decide +kernel
theorem d_L_law_595 : decode code 595 = .ok (.iload 4, 2) := by decide +kernel
theorem d_L_law_597 : decode code 597 = .ok (.iconst 2, 1) := by decide +kernel
theorem d_L_law_598 : decode code 598 = .ok (.iadd, 1) := by decide +kernel
theorem d_L_law_599 : decode code 599 = .ok (.iaload, 1) := by decide +kernel
theorem d_L_law_600 : decode code 600 = .ok (.i2l, 1) := by decide +kernel
theorem d_L_law_601 : decode code 601 = .ok (.ldc2_w 89, 3) := by decide +kernel
theorem d_L_law_604 : decode code 604 = .ok (.land, 1) := by decide +kernel
theorem d_L_law_605 : decode code 605 = .ok (.lor, 1) := by decide +kernel
theorem d_L_law_606 : decode code 606 = .ok (.invokevirtual 94, 3) := by decide +kernel
theorem d_L_law_609 : decode code 609 = .ok (.istore 6, 2) := by decide +kernel
theorem d_L_law_611 : decode code 611 = .ok (.aload_n 2, 1) := by decide +kernel
theorem d_L_law_612 : decode code 612 = .ok (.invokevirtual 67, 3) := by decide +kernel
theorem d_L_law_615 : decode code 615 = .ok (.iload 5, 2) := by decide +kernel
theorem d_L_law_617 : decode code 617 = .ok (.if_icmp .eq 5, 3) := by decide +kernel
theorem d_L_law_620 : decode code 620 = .ok (.iconst 0, 1) := by decide +kernel
theorem d_L_law_621 : decode code 621 = .ok (.ireturn, 1) := by decide +kernel
theorem d_L_law_622 : decode code 622 = .ok (.iload 5, 2) := by decide +kernel
theorem d_L_law_624 : decode code 624 = .ok (.ifCond .ne 15, 3) := by decide +kernel
theorem d_L_law_627 : decode code 627 = .ok (.aload_n 3, 1) := by decide +kernel
theorem d_L_law_628 : decode code 628 = .ok (.iconst 0, 1) := by decide +kernel
theorem d_L_law_629 : decode code 629 = .ok (.laload, 1) := by decide +kernel
theorem d_L_law_630 : decode code 630 = .ok (.iload 6, 2) := by decide +kernel
theorem d_L_law_632 : decode code 632 = .ok (.i2l, 1) := by decide +kernel
theorem d_L_law_633 : decode code 633 = .ok (.lcmp, 1) := by decide +kernel
theorem d_L_law_634 : decode code 634 = .ok (.ifCond .eq 5, 3) := by decide +kernel
theorem d_L_law_637 : decode code 637 = .ok (.iconst 0, 1) := by decide +kernel
theorem d_L_law_638 : decode code 638 = .ok (.ireturn, 1) := by decide +kernel
theorem d_L_law_639 : decode code 639 = .ok (.goto 281, 3) := by decide +kernel
theorem d_L_law_642 : decode code 642 = .ok (.aload_n 1, 1) := by decide +kernel
theorem d_L_law_643 : decode code 643 = .ok (.aload_n 0, 1) := by decide +kernel
theorem d_L_law_644 : decode code 644 = .ok (.iload 4, 2) := by decide +kernel
theorem d_L_law_646 : decode code 646 = .ok (.iconst 1, 1) := by decide +kernel
theorem d_L_law_647 : decode code 647 = .ok (.iadd, 1) := by decide +kernel
theorem d_L_law_648 : decode code 648 = .ok (.iaload, 1) := by decide +kernel
theorem d_L_law_649 : decode code 649 = .ok (.aload_n 0, 1) := by decide +kernel
theorem d_L_law_650 : decode code 650 = .ok (.iload 4, 2) := by decide +kernel
theorem d_L_law_652 : decode code 652 = .ok (.iconst 2, 1) := by decide +kernel
theorem d_L_law_653 : decode code 653 = .ok (.iadd, 1) := by decide +kernel
theorem d_L_law_654 : decode code 654 = .ok (.iaload, 1) := by decide +kernel
theorem d_L_law_655 : decode code 655 = .ok (.aload_n 3, 1) := by decide +kernel
theorem d_L_law_656 : decode code 656 = .ok (.invokestatic 95, 3) := by decide +kernel
theorem d_L_law_659 : decode code 659 = .ok (.istore 5, 2) := by decide +kernel
theorem d_L_law_661 : decode code 661 = .ok (.aload_n 2, 1) := by decide +kernel
theorem d_L_law_662 : decode code 662 = .ok (.aload_n 0, 1) := by decide +kernel
theorem d_L_law_663 : decode code 663 = .ok (.iload 4, 2) := by decide +kernel
theorem d_L_law_665 : decode code 665 = .ok (.iconst 1, 1) := by decide +kernel
theorem d_L_law_666 : decode code 666 = .ok (.iadd, 1) := by decide +kernel
theorem d_L_law_667 : decode code 667 = .ok (.iaload, 1) := by decide +kernel
theorem d_L_law_668 : decode code 668 = .ok (.aload_n 0, 1) := by decide +kernel
theorem d_L_law_669 : decode code 669 = .ok (.iload 4, 2) := by decide +kernel
theorem d_L_law_671 : decode code 671 = .ok (.iconst 2, 1) := by decide +kernel
theorem d_L_law_672 : decode code 672 = .ok (.iadd, 1) := by decide +kernel
theorem d_L_law_673 : decode code 673 = .ok (.iaload, 1) := by decide +kernel
theorem d_L_law_674 : decode code 674 = .ok (.invokevirtual 97, 3) := by decide +kernel
theorem d_L_law_677 : decode code 677 = .ok (.lstore 6, 2) := by decide +kernel
theorem d_L_law_679 : decode code 679 = .ok (.aload_n 2, 1) := by decide +kernel
theorem d_L_law_680 : decode code 680 = .ok (.invokevirtual 67, 3) := by decide +kernel
theorem d_L_law_683 : decode code 683 = .ok (.iload 5, 2) := by decide +kernel
theorem d_L_law_685 : decode code 685 = .ok (.if_icmp .eq 5, 3) := by decide +kernel
theorem d_L_law_688 : decode code 688 = .ok (.iconst 0, 1) := by decide +kernel
theorem d_L_law_689 : decode code 689 = .ok (.ireturn, 1) := by decide +kernel
theorem d_L_law_690 : decode code 690 = .ok (.iload 5, 2) := by decide +kernel
theorem d_L_law_692 : decode code 692 = .ok (.ifCond .ne 14, 3) := by decide +kernel
theorem d_L_law_695 : decode code 695 = .ok (.aload_n 3, 1) := by decide +kernel
theorem d_L_law_696 : decode code 696 = .ok (.iconst 0, 1) := by decide +kernel
theorem d_L_law_697 : decode code 697 = .ok (.laload, 1) := by decide +kernel
theorem d_L_law_698 : decode code 698 = .ok (.lload 6, 2) := by decide +kernel
theorem d_L_law_700 : decode code 700 = .ok (.lcmp, 1) := by decide +kernel
theorem d_L_law_701 : decode code 701 = .ok (.ifCond .eq 5, 3) := by decide +kernel
theorem d_L_law_704 : decode code 704 = .ok (.iconst 0, 1) := by decide +kernel
theorem d_L_law_705 : decode code 705 = .ok (.ireturn, 1) := by decide +kernel
theorem d_L_law_706 : decode code 706 = .ok (.goto 214, 3) := by decide +kernel
theorem d_L_law_709 : decode code 709 = .ok (.aload_n 1, 1) := by decide +kernel
theorem d_L_law_710 : decode code 710 = .ok (.aload_n 0, 1) := by decide +kernel
theorem d_L_law_711 : decode code 711 = .ok (.iload 4, 2) := by decide +kernel
theorem d_L_law_713 : decode code 713 = .ok (.iconst 1, 1) := by decide +kernel
theorem d_L_law_714 : decode code 714 = .ok (.iadd, 1) := by decide +kernel
theorem d_L_law_715 : decode code 715 = .ok (.iaload, 1) := by decide +kernel
theorem d_L_law_716 : decode code 716 = .ok (.i2l, 1) := by decide +kernel
theorem d_L_law_717 : decode code 717 = .ok (.bipush 32, 2) := by decide +kernel
theorem d_L_law_719 : decode code 719 = .ok (.lshl, 1) := by decide +kernel
theorem d_L_law_720 : decode code 720 = .ok (.aload_n 0, 1) := by decide +kernel
theorem d_L_law_721 : decode code 721 = .ok (.iload 4, 2) := by decide +kernel
theorem d_L_law_723 : decode code 723 = .ok (.iconst 2, 1) := by decide +kernel
theorem d_L_law_724 : decode code 724 = .ok (.iadd, 1) := by decide +kernel
theorem d_L_law_725 : decode code 725 = .ok (.iaload, 1) := by decide +kernel
theorem d_L_law_726 : decode code 726 = .ok (.i2l, 1) := by decide +kernel
theorem d_L_law_727 : decode code 727 = .ok (.ldc2_w 89, 3) := by decide +kernel
theorem d_L_law_730 : decode code 730 = .ok (.land, 1) := by decide +kernel
theorem d_L_law_731 : decode code 731 = .ok (.lor, 1) := by decide +kernel
theorem d_L_law_732 : decode code 732 = .ok (.aload_n 0, 1) := by decide +kernel
theorem d_L_law_733 : decode code 733 = .ok (.iload 4, 2) := by decide +kernel
theorem d_L_law_735 : decode code 735 = .ok (.iconst 3, 1) := by decide +kernel
theorem d_L_law_736 : decode code 736 = .ok (.iadd, 1) := by decide +kernel
theorem d_L_law_737 : decode code 737 = .ok (.iaload, 1) := by decide +kernel
theorem d_L_law_738 : decode code 738 = .ok (.aload_n 3, 1) := by decide +kernel
theorem d_L_law_739 : decode code 739 = .ok (.invokestatic 98, 3) := by decide +kernel
theorem d_L_law_742 : decode code 742 = .ok (.istore 5, 2) := by decide +kernel
theorem d_L_law_744 : decode code 744 = .ok (.aload_n 2, 1) := by decide +kernel
theorem d_L_law_745 : decode code 745 = .ok (.aload_n 0, 1) := by decide +kernel
theorem d_L_law_746 : decode code 746 = .ok (.iload 4, 2) := by decide +kernel
theorem d_L_law_748 : decode code 748 = .ok (.iconst 1, 1) := by decide +kernel
theorem d_L_law_749 : decode code 749 = .ok (.iadd, 1) := by decide +kernel
theorem d_L_law_750 : decode code 750 = .ok (.iaload, 1) := by decide +kernel
theorem d_L_law_751 : decode code 751 = .ok (.i2l, 1) := by decide +kernel
theorem d_L_law_752 : decode code 752 = .ok (.bipush 32, 2) := by decide +kernel
theorem d_L_law_754 : decode code 754 = .ok (.lshl, 1) := by decide +kernel
theorem d_L_law_755 : decode code 755 = .ok (.aload_n 0, 1) := by decide +kernel
theorem d_L_law_756 : decode code 756 = .ok (.iload 4, 2) := by decide +kernel
theorem d_L_law_758 : decode code 758 = .ok (.iconst 2, 1) := by decide +kernel
theorem d_L_law_759 : decode code 759 = .ok (.iadd, 1) := by decide +kernel
theorem d_L_law_760 : decode code 760 = .ok (.iaload, 1) := by decide +kernel
theorem d_L_law_761 : decode code 761 = .ok (.i2l, 1) := by decide +kernel
theorem d_L_law_762 : decode code 762 = .ok (.ldc2_w 89, 3) := by decide +kernel
theorem d_L_law_765 : decode code 765 = .ok (.land, 1) := by decide +kernel
theorem d_L_law_766 : decode code 766 = .ok (.lor, 1) := by decide +kernel
theorem d_L_law_767 : decode code 767 = .ok (.aload_n 0, 1) := by decide +kernel
theorem d_L_law_768 : decode code 768 = .ok (.iload 4, 2) := by decide +kernel
theorem d_L_law_770 : decode code 770 = .ok (.iconst 3, 1) := by decide +kernel
theorem d_L_law_771 : decode code 771 = .ok (.iadd, 1) := by decide +kernel
