/-! the instructions -/
theorem d_law_303 : decode code 303 = .ok (.ireturn, 1) := by decide +kernel
theorem d_law_304 : decode code 304 = .ok (.iload 5, 2) := by decide +kernel
theorem d_law_306 : decode code 306 = .ok (.ifCond .ne 15, 3) := by decide +kernel
theorem d_law_309 : decode code 309 = .ok (.aload_n 3, 1) := by decide +kernel
theorem d_law_310 : decode code 310 = .ok (.iconst 0, 1) := by decide +kernel
theorem d_law_311 : decode code 311 = .ok (.laload, 1) := by decide +kernel
theorem d_law_312 : decode code 312 = .ok (.iload 6, 2) := by decide +kernel
theorem d_law_314 : decode code 314 = .ok (.i2l, 1) := by decide +kernel
theorem d_law_315 : decode code 315 = .ok (.lcmp, 1) := by decide +kernel
theorem d_law_316 : decode code 316 = .ok (.ifCond .eq 5, 3) := by decide +kernel
theorem d_law_319 : decode code 319 = .ok (.iconst 0, 1) := by decide +kernel
theorem d_law_320 : decode code 320 = .ok (.ireturn, 1) := by decide +kernel
theorem d_law_321 : decode code 321 = .ok (.goto 1425, 3) := by decide +kernel
theorem d_law_324 : decode code 324 = .ok (.aload_n 1, 1) := by decide +kernel
theorem d_law_325 : decode code 325 = .ok (.aload_n 0, 1) := by decide +kernel
theorem d_law_326 : decode code 326 = .ok (.iload 4, 2) := by decide +kernel
theorem d_law_328 : decode code 328 = .ok (.iconst 1, 1) := by decide +kernel
theorem d_law_329 : decode code 329 = .ok (.iadd, 1) := by decide +kernel
theorem d_law_330 : decode code 330 = .ok (.iaload, 1) := by decide +kernel
theorem d_law_331 : decode code 331 = .ok (.aload_n 0, 1) := by decide +kernel
theorem d_law_332 : decode code 332 = .ok (.iload 4, 2) := by decide +kernel
theorem d_law_334 : decode code 334 = .ok (.iconst 2, 1) := by decide +kernel
theorem d_law_335 : decode code 335 = .ok (.iadd, 1) := by decide +kernel
theorem d_law_336 : decode code 336 = .ok (.iaload, 1) := by decide +kernel
theorem d_law_337 : decode code 337 = .ok (.aload_n 0, 1) := by decide +kernel
theorem d_law_338 : decode code 338 = .ok (.iload 4, 2) := by decide +kernel
theorem d_law_340 : decode code 340 = .ok (.iconst 3, 1) := by decide +kernel
theorem d_law_341 : decode code 341 = .ok (.iadd, 1) := by decide +kernel
theorem d_law_342 : decode code 342 = .ok (.iaload, 1) := by decide +kernel
theorem d_law_343 : decode code 343 = .ok (.ifCond .eq 7, 3) := by decide +kernel
theorem d_law_346 : decode code 346 = .ok (.iconst 1, 1) := by decide +kernel
theorem d_law_347 : decode code 347 = .ok (.goto 4, 3) := by decide +kernel
theorem d_law_350 : decode code 350 = .ok (.iconst 0, 1) := by decide +kernel
theorem d_law_351 : decode code 351 = .ok (.aload_n 3, 1) := by decide +kernel
theorem d_law_352 : decode code 352 = .ok (.invokestatic 103, 3) := by decide +kernel
theorem d_law_355 : decode code 355 = .ok (.istore 5, 2) := by decide +kernel
theorem d_law_357 : decode code 357 = .ok (.aload_n 2, 1) := by decide +kernel
theorem d_law_358 : decode code 358 = .ok (.aload_n 0, 1) := by decide +kernel
theorem d_law_359 : decode code 359 = .ok (.iload 4, 2) := by decide +kernel
theorem d_law_361 : decode code 361 = .ok (.iconst 1, 1) := by decide +kernel
theorem d_law_362 : decode code 362 = .ok (.iadd, 1) := by decide +kernel
theorem d_law_363 : decode code 363 = .ok (.iaload, 1) := by decide +kernel
theorem d_law_364 : decode code 364 = .ok (.aload_n 0, 1) := by decide +kernel
theorem d_law_365 : decode code 365 = .ok (.iload 4, 2) := by decide +kernel
theorem d_law_367 : decode code 367 = .ok (.iconst 2, 1) := by decide +kernel
theorem d_law_368 : decode code 368 = .ok (.iadd, 1) := by decide +kernel
theorem d_law_369 : decode code 369 = .ok (.iaload, 1) := by decide +kernel
theorem d_law_370 : decode code 370 = .ok (.aload_n 0, 1) := by decide +kernel
theorem d_law_371 : decode code 371 = .ok (.iload 4, 2) := by decide +kernel
theorem d_law_373 : decode code 373 = .ok (.iconst 3, 1) := by decide +kernel
theorem d_law_374 : decode code 374 = .ok (.iadd, 1) := by decide +kernel
theorem d_law_375 : decode code 375 = .ok (.iaload, 1) := by decide +kernel
theorem d_law_376 : decode code 376 = .ok (.ifCond .eq 7, 3) := by decide +kernel
theorem d_law_379 : decode code 379 = .ok (.iconst 1, 1) := by decide +kernel
theorem d_law_380 : decode code 380 = .ok (.goto 4, 3) := by decide +kernel
theorem d_law_383 : decode code 383 = .ok (.iconst 0, 1) := by decide +kernel
theorem d_law_384 : decode code 384 = .ok (.invokevirtual 106, 3) := by decide +kernel
theorem d_law_387 : decode code 387 = .ok (.istore 6, 2) := by decide +kernel
theorem d_law_389 : decode code 389 = .ok (.aload_n 2, 1) := by decide +kernel
theorem d_law_390 : decode code 390 = .ok (.invokevirtual 96, 3) := by decide +kernel
theorem d_law_393 : decode code 393 = .ok (.iload 5, 2) := by decide +kernel
theorem d_law_395 : decode code 395 = .ok (.if_icmp .eq 5, 3) := by decide +kernel
theorem d_law_398 : decode code 398 = .ok (.iconst 0, 1) := by decide +kernel
theorem d_law_399 : decode code 399 = .ok (.ireturn, 1) := by decide +kernel
theorem d_law_400 : decode code 400 = .ok (.iload 5, 2) := by decide +kernel
theorem d_law_402 : decode code 402 = .ok (.ifCond .ne 22, 3) := by decide +kernel
theorem d_law_405 : decode code 405 = .ok (.aload_n 3, 1) := by decide +kernel
theorem d_law_406 : decode code 406 = .ok (.iconst 0, 1) := by decide +kernel
theorem d_law_407 : decode code 407 = .ok (.laload, 1) := by decide +kernel
theorem d_law_408 : decode code 408 = .ok (.iload 6, 2) := by decide +kernel
theorem d_law_410 : decode code 410 = .ok (.ifCond .eq 7, 3) := by decide +kernel
theorem d_law_413 : decode code 413 = .ok (.lconst 1, 1) := by decide +kernel
theorem d_law_414 : decode code 414 = .ok (.goto 4, 3) := by decide +kernel
theorem d_law_417 : decode code 417 = .ok (.lconst 0, 1) := by decide +kernel
theorem d_law_418 : decode code 418 = .ok (.lcmp, 1) := by decide +kernel
theorem d_law_419 : decode code 419 = .ok (.ifCond .eq 5, 3) := by decide +kernel
theorem d_law_422 : decode code 422 = .ok (.iconst 0, 1) := by decide +kernel
theorem d_law_423 : decode code 423 = .ok (.ireturn, 1) := by decide +kernel
theorem d_law_424 : decode code 424 = .ok (.goto 1322, 3) := by decide +kernel
theorem d_law_427 : decode code 427 = .ok (.aload_n 1, 1) := by decide +kernel
theorem d_law_428 : decode code 428 = .ok (.aload_n 0, 1) := by decide +kernel
theorem d_law_429 : decode code 429 = .ok (.iload 4, 2) := by decide +kernel
theorem d_law_431 : decode code 431 = .ok (.iconst 1, 1) := by decide +kernel
theorem d_law_432 : decode code 432 = .ok (.iadd, 1) := by decide +kernel
theorem d_law_433 : decode code 433 = .ok (.iaload, 1) := by decide +kernel
theorem d_law_434 : decode code 434 = .ok (.aload_n 0, 1) := by decide +kernel
theorem d_law_435 : decode code 435 = .ok (.iload 4, 2) := by decide +kernel
theorem d_law_437 : decode code 437 = .ok (.iconst 2, 1) := by decide +kernel
theorem d_law_438 : decode code 438 = .ok (.iadd, 1) := by decide +kernel
theorem d_law_439 : decode code 439 = .ok (.iaload, 1) := by decide +kernel
theorem d_law_440 : decode code 440 = .ok (.ifCond .eq 7, 3) := by decide +kernel
theorem d_law_443 : decode code 443 = .ok (.iconst 1, 1) := by decide +kernel
theorem d_law_444 : decode code 444 = .ok (.goto 4, 3) := by decide +kernel
theorem d_law_447 : decode code 447 = .ok (.iconst 0, 1) := by decide +kernel
theorem d_law_448 : decode code 448 = .ok (.aload_n 3, 1) := by decide +kernel
theorem d_law_449 : decode code 449 = .ok (.invokestatic 107, 3) := by decide +kernel
theorem d_law_452 : decode code 452 = .ok (.istore 5, 2) := by decide +kernel
theorem d_law_454 : decode code 454 = .ok (.aload_n 2, 1) := by decide +kernel
theorem d_law_455 : decode code 455 = .ok (.aload_n 0, 1) := by decide +kernel
theorem d_law_456 : decode code 456 = .ok (.iload 4, 2) := by decide +kernel
theorem d_law_458 : decode code 458 = .ok (.iconst 1, 1) := by decide +kernel
theorem d_law_459 : decode code 459 = .ok (.iadd, 1) := by decide +kernel
theorem d_law_460 : decode code 460 = .ok (.iaload, 1) := by decide +kernel
theorem d_law_461 : decode code 461 = .ok (.aload_n 0, 1) := by decide +kernel
theorem d_law_462 : decode code 462 = .ok (.iload 4, 2) := by decide +kernel
theorem d_law_464 : decode code 464 = .ok (.iconst 2, 1) := by decide +kernel
theorem d_law_465 : decode code 465 = .ok (.iadd, 1) := by decide +kernel
theorem d_law_466 : decode code 466 = .ok (.iaload, 1) := by decide +kernel
theorem d_law_467 : decode code 467 = .ok (.ifCond .eq 7, 3) := by decide +kernel
theorem d_law_470 : decode code 470 = .ok (.iconst 1, 1) := by decide +kernel
theorem d_law_471 : decode code 471 = .ok (.goto 4, 3) := by decide +kernel
theorem d_law_474 : decode code 474 = .ok (.iconst 0, 1) := by decide +kernel
theorem d_law_475 : decode code 475 = .ok (.invokevirtual 110, 3) := by decide +kernel
theorem d_law_478 : decode code 478 = .ok (.istore 6, 2) := by decide +kernel
theorem d_law_480 : decode code 480 = .ok (.aload_n 2, 1) := by decide +kernel
theorem d_law_481 : decode code 481 = .ok (.invokevirtual 96, 3) := by decide +kernel
theorem d_law_484 : decode code 484 = .ok (.iload 5, 2) := by decide +kernel
theorem d_law_486 : decode code 486 = .ok (.if_icmp .eq 5, 3) := by decide +kernel
theorem d_law_489 : decode code 489 = .ok (.iconst 0, 1) := by decide +kernel
theorem d_law_490 : decode code 490 = .ok (.ireturn, 1) := by decide +kernel
theorem d_law_491 : decode code 491 = .ok (.iload 5, 2) := by decide +kernel
theorem d_law_493 : decode code 493 = .ok (.ifCond .ne 22, 3) := by decide +kernel
theorem d_law_496 : decode code 496 = .ok (.aload_n 3, 1) := by decide +kernel
theorem d_law_497 : decode code 497 = .ok (.iconst 0, 1) := by decide +kernel
theorem d_law_498 : decode code 498 = .ok (.laload, 1) := by decide +kernel
theorem d_law_499 : decode code 499 = .ok (.iload 6, 2) := by decide +kernel
theorem d_law_501 : decode code 501 = .ok (.ifCond .eq 7, 3) := by decide +kernel
theorem d_law_504 : decode code 504 = .ok (.lconst 1, 1) := by decide +kernel
theorem d_law_505 : decode code 505 = .ok (.goto 4, 3) := by decide +kernel
theorem d_law_508 : decode code 508 = .ok (.lconst 0, 1) := by decide +kernel
theorem d_law_509 : decode code 509 = .ok (.lcmp, 1) := by decide +kernel
theorem d_law_510 : decode code 510 = .ok (.ifCond .eq 5, 3) := by decide +kernel
theorem d_law_513 : decode code 513 = .ok (.iconst 0, 1) := by decide +kernel
theorem d_law_514 : decode code 514 = .ok (.ireturn, 1) := by decide +kernel
theorem d_law_515 : decode code 515 = .ok (.goto 1231, 3) := by decide +kernel
theorem d_law_518 : decode code 518 = .ok (.aload_n 1, 1) := by decide +kernel
theorem d_law_519 : decode code 519 = .ok (.aload_n 0, 1) := by decide +kernel
theorem d_law_520 : decode code 520 = .ok (.iload 4, 2) := by decide +kernel
theorem d_law_522 : decode code 522 = .ok (.iconst 1, 1) := by decide +kernel
theorem d_law_523 : decode code 523 = .ok (.iadd, 1) := by decide +kernel
theorem d_law_524 : decode code 524 = .ok (.iaload, 1) := by decide +kernel
theorem d_law_525 : decode code 525 = .ok (.aload_n 0, 1) := by decide +kernel
theorem d_law_526 : decode code 526 = .ok (.iload 4, 2) := by decide +kernel
theorem d_law_528 : decode code 528 = .ok (.iconst 2, 1) := by decide +kernel
theorem d_law_529 : decode code 529 = .ok (.iadd, 1) := by decide +kernel
theorem d_law_530 : decode code 530 = .ok (.iaload, 1) := by decide +kernel
theorem d_law_531 : decode code 531 = .ok (.ifCond .eq 7, 3) := by decide +kernel
theorem d_law_534 : decode code 534 = .ok (.iconst 1, 1) := by decide +kernel
theorem d_law_535 : decode code 535 = .ok (.goto 4, 3) := by decide +kernel
theorem d_law_538 : decode code 538 = .ok (.iconst 0, 1) := by decide +kernel
theorem d_law_539 : decode code 539 = .ok (.aload_n 3, 1) := by decide +kernel
theorem d_law_540 : decode code 540 = .ok (.invokestatic 111, 3) := by decide +kernel
theorem d_law_543 : decode code 543 = .ok (.istore 5, 2) := by decide +kernel
theorem d_law_545 : decode code 545 = .ok (.aload_n 2, 1) := by decide +kernel
theorem d_law_546 : decode code 546 = .ok (.aload_n 0, 1) := by decide +kernel
theorem d_law_547 : decode code 547 = .ok (.iload 4, 2) := by decide +kernel
theorem d_law_549 : decode code 549 = .ok (.iconst 1, 1) := by decide +kernel
theorem d_law_550 : decode code 550 = .ok (.iadd, 1) := by decide +kernel
theorem d_law_551 : decode code 551 = .ok (.iaload, 1) := by decide +kernel
theorem d_law_552 : decode code 552 = .ok (.aload_n 0, 1) := by decide +kernel
theorem d_law_553 : decode code 553 = .ok (.iload 4, 2) := by decide +kernel
theorem d_law_555 : decode code 555 = .ok (.iconst 2, 1) := by decide +kernel
theorem d_law_556 : decode code 556 = .ok (.iadd, 1) := by decide +kernel
theorem d_law_557 : decode code 557 = .ok (.iaload, 1) := by decide +kernel
theorem d_law_558 : decode code 558 = .ok (.ifCond .eq 7, 3) := by decide +kernel
theorem d_law_561 : decode code 561 = .ok (.iconst 1, 1) := by decide +kernel
theorem d_law_562 : decode code 562 = .ok (.goto 4, 3) := by decide +kernel
theorem d_law_565 : decode code 565 = .ok (.iconst 0, 1) := by decide +kernel
theorem d_law_566 : decode code 566 = .ok (.invokevirtual 113, 3) := by decide +kernel
theorem d_law_569 : decode code 569 = .ok (.istore 6, 2) := by decide +kernel
theorem d_law_571 : decode code 571 = .ok (.aload_n 2, 1) := by decide +kernel
theorem d_law_572 : decode code 572 = .ok (.invokevirtual 96, 3) := by decide +kernel
theorem d_law_575 : decode code 575 = .ok (.iload 5, 2) := by decide +kernel
theorem d_law_577 : decode code 577 = .ok (.if_icmp .eq 5, 3) := by decide +kernel
theorem d_law_580 : decode code 580 = .ok (.iconst 0, 1) := by decide +kernel
theorem d_law_581 : decode code 581 = .ok (.ireturn, 1) := by decide +kernel
theorem d_law_582 : decode code 582 = .ok (.iload 5, 2) := by decide +kernel
theorem d_law_584 : decode code 584 = .ok (.ifCond .ne 22, 3) := by decide +kernel
theorem d_law_587 : decode code 587 = .ok (.aload_n 3, 1) := by decide +kernel
theorem d_law_588 : decode code 588 = .ok (.iconst 0, 1) := by decide +kernel
theorem d_law_589 : decode code 589 = .ok (.laload, 1) := by decide +kernel
theorem d_law_590 : decode code 590 = .ok (.iload 6, 2) := by decide +kernel
theorem d_law_592 : decode code 592 = .ok (.ifCond .eq 7, 3) := by decide +kernel
theorem d_law_595 : decode code 595 = .ok (.lconst 1, 1) := by decide +kernel
theorem d_law_596 : decode code 596 = .ok (.goto 4, 3) := by decide +kernel
theorem d_law_599 : decode code 599 = .ok (.lconst 0, 1) := by decide +kernel
theorem d_law_600 : decode code 600 = .ok (.lcmp, 1) := by decide +kernel
theorem d_law_601 : decode code 601 = .ok (.ifCond .eq 5, 3) := by decide +kernel
theorem d_law_604 : decode code 604 = .ok (.iconst 0, 1) := by decide +kernel
theorem d_law_605 : decode code 605 = .ok (.ireturn, 1) := by decide +kernel
theorem d_law_606 : decode code 606 = .ok (.goto 1140, 3) := by decide +kernel
theorem d_law_609 : decode code 609 = .ok (.aload_n 1, 1) := by decide +kernel
theorem d_law_610 : decode code 610 = .ok (.aload_n 0, 1) := by decide +kernel
theorem d_law_611 : decode code 611 = .ok (.iload 4, 2) := by decide +kernel
theorem d_law_613 : decode code 613 = .ok (.iconst 1, 1) := by decide +kernel
theorem d_law_614 : decode code 614 = .ok (.iadd, 1) := by decide +kernel
theorem d_law_615 : decode code 615 = .ok (.iaload, 1) := by decide +kernel
theorem d_law_616 : decode code 616 = .ok (.ifCond .eq 7, 3) := by decide +kernel
theorem d_law_619 : decode code 619 = .ok (.iconst 1, 1) := by decide +kernel
theorem d_law_620 : decode code 620 = .ok (.goto 4, 3) := by decide +kernel
theorem d_law_623 : decode code 623 = .ok (.iconst 0, 1) := by decide +kernel
theorem d_law_624 : decode code 624 = .ok (.invokevirtual 114, 3) := by decide +kernel
theorem d_law_627 : decode code 627 = .ok (.aload_n 2, 1) := by decide +kernel
theorem d_law_628 : decode code 628 = .ok (.aload_n 0, 1) := by decide +kernel
theorem d_law_629 : decode code 629 = .ok (.iload 4, 2) := by decide +kernel
theorem d_law_631 : decode code 631 = .ok (.iconst 1, 1) := by decide +kernel
theorem d_law_632 : decode code 632 = .ok (.iadd, 1) := by decide +kernel
theorem d_law_633 : decode code 633 = .ok (.iaload, 1) := by decide +kernel
theorem d_law_634 : decode code 634 = .ok (.ifCond .eq 7, 3) := by decide +kernel
theorem d_law_637 : decode code 637 = .ok (.iconst 1, 1) := by decide +kernel
theorem d_law_638 : decode code 638 = .ok (.goto 4, 3) := by decide +kernel
theorem d_law_641 : decode code 641 = .ok (.iconst 0, 1) := by decide +kernel
theorem d_law_642 : decode code 642 = .ok (.invokevirtual 118, 3) := by decide +kernel
theorem d_law_645 : decode code 645 = .ok (.if_icmp .eq 1101, 3) := by decide +kernel
theorem d_law_648 : decode code 648 = .ok (.iconst 0, 1) := by decide +kernel
theorem d_law_649 : decode code 649 = .ok (.ireturn, 1) := by decide +kernel
theorem d_law_650 : decode code 650 = .ok (.aload_n 1, 1) := by decide +kernel
theorem d_law_651 : decode code 651 = .ok (.aload_n 0, 1) := by decide +kernel
theorem d_law_652 : decode code 652 = .ok (.iload 4, 2) := by decide +kernel
theorem d_law_654 : decode code 654 = .ok (.iconst 1, 1) := by decide +kernel
theorem d_law_655 : decode code 655 = .ok (.iadd, 1) := by decide +kernel
theorem d_law_656 : decode code 656 = .ok (.iaload, 1) := by decide +kernel
theorem d_law_657 : decode code 657 = .ok (.aload_n 0, 1) := by decide +kernel
theorem d_law_658 : decode code 658 = .ok (.iload 4, 2) := by decide +kernel
theorem d_law_660 : decode code 660 = .ok (.iconst 2, 1) := by decide +kernel
theorem d_law_661 : decode code 661 = .ok (.iadd, 1) := by decide +kernel
theorem d_law_662 : decode code 662 = .ok (.iaload, 1) := by decide +kernel
theorem d_law_663 : decode code 663 = .ok (.aload_n 3, 1) := by decide +kernel
theorem d_law_664 : decode code 664 = .ok (.invokestatic 119, 3) := by decide +kernel
theorem d_law_667 : decode code 667 = .ok (.istore 5, 2) := by decide +kernel
theorem d_law_669 : decode code 669 = .ok (.aload_n 2, 1) := by decide +kernel
theorem d_law_670 : decode code 670 = .ok (.aload_n 0, 1) := by decide +kernel
theorem d_law_671 : decode code 671 = .ok (.iload 4, 2) := by decide +kernel
theorem d_law_673 : decode code 673 = .ok (.iconst 1, 1) := by decide +kernel
theorem d_law_674 : decode code 674 = .ok (.iadd, 1) := by decide +kernel
theorem d_law_675 : decode code 675 = .ok (.iaload, 1) := by decide +kernel
theorem d_law_676 : decode code 676 = .ok (.aload_n 0, 1) := by decide +kernel
theorem d_law_677 : decode code 677 = .ok (.iload 4, 2) := by decide +kernel
theorem d_law_679 : decode code 679 = .ok (.iconst 2, 1) := by decide +kernel
theorem d_law_680 : decode code 680 = .ok (.iadd, 1) := by decide +kernel
theorem d_law_681 : decode code 681 = .ok (.iaload, 1) := by decide +kernel
theorem d_law_682 : decode code 682 = .ok (.invokevirtual 122, 3) := by decide +kernel
theorem d_law_685 : decode code 685 = .ok (.istore 6, 2) := by decide +kernel
theorem d_law_687 : decode code 687 = .ok (.aload_n 2, 1) := by decide +kernel
theorem d_law_688 : decode code 688 = .ok (.invokevirtual 96, 3) := by decide +kernel
theorem d_law_691 : decode code 691 = .ok (.iload 5, 2) := by decide +kernel
theorem d_law_693 : decode code 693 = .ok (.if_icmp .eq 5, 3) := by decide +kernel
theorem d_law_696 : decode code 696 = .ok (.iconst 0, 1) := by decide +kernel
theorem d_law_697 : decode code 697 = .ok (.ireturn, 1) := by decide +kernel
theorem d_law_698 : decode code 698 = .ok (.iload 5, 2) := by decide +kernel
theorem d_law_700 : decode code 700 = .ok (.ifCond .ne 15, 3) := by decide +kernel
theorem d_law_703 : decode code 703 = .ok (.aload_n 3, 1) := by decide +kernel
theorem d_law_704 : decode code 704 = .ok (.iconst 0, 1) := by decide +kernel
theorem d_law_705 : decode code 705 = .ok (.laload, 1) := by decide +kernel
theorem d_law_706 : decode code 706 = .ok (.iload 6, 2) := by decide +kernel
theorem d_law_708 : decode code 708 = .ok (.i2l, 1) := by decide +kernel
theorem d_law_709 : decode code 709 = .ok (.lcmp, 1) := by decide +kernel
theorem d_law_710 : decode code 710 = .ok (.ifCond .eq 5, 3) := by decide +kernel
theorem d_law_713 : decode code 713 = .ok (.iconst 0, 1) := by decide +kernel
theorem d_law_714 : decode code 714 = .ok (.ireturn, 1) := by decide +kernel
theorem d_law_715 : decode code 715 = .ok (.goto 1031, 3) := by decide +kernel
theorem d_law_718 : decode code 718 = .ok (.aload_n 1, 1) := by decide +kernel
theorem d_law_719 : decode code 719 = .ok (.aload_n 0, 1) := by decide +kernel
theorem d_law_720 : decode code 720 = .ok (.iload 4, 2) := by decide +kernel
theorem d_law_722 : decode code 722 = .ok (.iconst 1, 1) := by decide +kernel
theorem d_law_723 : decode code 723 = .ok (.iadd, 1) := by decide +kernel
theorem d_law_724 : decode code 724 = .ok (.iaload, 1) := by decide +kernel
theorem d_law_725 : decode code 725 = .ok (.aload_n 0, 1) := by decide +kernel
theorem d_law_726 : decode code 726 = .ok (.iload 4, 2) := by decide +kernel
theorem d_law_728 : decode code 728 = .ok (.iconst 2, 1) := by decide +kernel
theorem d_law_729 : decode code 729 = .ok (.iadd, 1) := by decide +kernel
theorem d_law_730 : decode code 730 = .ok (.iaload, 1) := by decide +kernel
theorem d_law_731 : decode code 731 = .ok (.aload_n 3, 1) := by decide +kernel
theorem d_law_732 : decode code 732 = .ok (.invokestatic 123, 3) := by decide +kernel
theorem d_law_735 : decode code 735 = .ok (.istore 5, 2) := by decide +kernel
theorem d_law_737 : decode code 737 = .ok (.aload_n 2, 1) := by decide +kernel
theorem d_law_738 : decode code 738 = .ok (.aload_n 0, 1) := by decide +kernel
theorem d_law_739 : decode code 739 = .ok (.iload 4, 2) := by decide +kernel
theorem d_law_741 : decode code 741 = .ok (.iconst 1, 1) := by decide +kernel
theorem d_law_742 : decode code 742 = .ok (.iadd, 1) := by decide +kernel
theorem d_law_743 : decode code 743 = .ok (.iaload, 1) := by decide +kernel
theorem d_law_744 : decode code 744 = .ok (.aload_n 0, 1) := by decide +kernel
theorem d_law_745 : decode code 745 = .ok (.iload 4, 2) := by decide +kernel
theorem d_law_747 : decode code 747 = .ok (.iconst 2, 1) := by decide +kernel
theorem d_law_748 : decode code 748 = .ok (.iadd, 1) := by decide +kernel
theorem d_law_749 : decode code 749 = .ok (.iaload, 1) := by decide +kernel
theorem d_law_750 : decode code 750 = .ok (.invokevirtual 125, 3) := by decide +kernel
theorem d_law_753 : decode code 753 = .ok (.istore 6, 2) := by decide +kernel
theorem d_law_755 : decode code 755 = .ok (.aload_n 2, 1) := by decide +kernel
theorem d_law_756 : decode code 756 = .ok (.invokevirtual 96, 3) := by decide +kernel
theorem d_law_759 : decode code 759 = .ok (.iload 5, 2) := by decide +kernel
theorem d_law_761 : decode code 761 = .ok (.if_icmp .eq 5, 3) := by decide +kernel
theorem d_law_764 : decode code 764 = .ok (.iconst 0, 1) := by decide +kernel
theorem d_law_765 : decode code 765 = .ok (.ireturn, 1) := by decide +kernel
theorem d_law_766 : decode code 766 = .ok (.iload 5, 2) := by decide +kernel
theorem d_law_768 : decode code 768 = .ok (.ifCond .ne 15, 3) := by decide +kernel
theorem d_law_771 : decode code 771 = .ok (.aload_n 3, 1) := by decide +kernel
theorem d_law_772 : decode code 772 = .ok (.iconst 0, 1) := by decide +kernel
theorem d_law_773 : decode code 773 = .ok (.laload, 1) := by decide +kernel
theorem d_law_774 : decode code 774 = .ok (.iload 6, 2) := by decide +kernel
theorem d_law_776 : decode code 776 = .ok (.i2l, 1) := by decide +kernel
theorem d_law_777 : decode code 777 = .ok (.lcmp, 1) := by decide +kernel
theorem d_law_778 : decode code 778 = .ok (.ifCond .eq 5, 3) := by decide +kernel
theorem d_law_781 : decode code 781 = .ok (.iconst 0, 1) := by decide +kernel
theorem d_law_782 : decode code 782 = .ok (.ireturn, 1) := by decide +kernel
theorem d_law_783 : decode code 783 = .ok (.goto 963, 3) := by decide +kernel
theorem d_law_786 : decode code 786 = .ok (.aload_n 1, 1) := by decide +kernel
theorem d_law_787 : decode code 787 = .ok (.aload_n 0, 1) := by decide +kernel
theorem d_law_788 : decode code 788 = .ok (.iload 4, 2) := by decide +kernel
theorem d_law_790 : decode code 790 = .ok (.iconst 1, 1) := by decide +kernel
theorem d_law_791 : decode code 791 = .ok (.iadd, 1) := by decide +kernel
theorem d_law_792 : decode code 792 = .ok (.iaload, 1) := by decide +kernel
theorem d_law_793 : decode code 793 = .ok (.aload_n 3, 1) := by decide +kernel
theorem d_law_794 : decode code 794 = .ok (.invokestatic 126, 3) := by decide +kernel
theorem d_law_797 : decode code 797 = .ok (.istore 5, 2) := by decide +kernel
theorem d_law_799 : decode code 799 = .ok (.aload_n 2, 1) := by decide +kernel
theorem d_law_800 : decode code 800 = .ok (.aload_n 0, 1) := by decide +kernel
theorem d_law_801 : decode code 801 = .ok (.iload 4, 2) := by decide +kernel
theorem d_law_803 : decode code 803 = .ok (.iconst 1, 1) := by decide +kernel
theorem d_law_804 : decode code 804 = .ok (.iadd, 1) := by decide +kernel
theorem d_law_805 : decode code 805 = .ok (.iaload, 1) := by decide +kernel
theorem d_law_806 : decode code 806 = .ok (.invokevirtual 129, 3) := by decide +kernel
theorem d_law_809 : decode code 809 = .ok (.istore 6, 2) := by decide +kernel
theorem d_law_811 : decode code 811 = .ok (.aload_n 2, 1) := by decide +kernel
theorem d_law_812 : decode code 812 = .ok (.invokevirtual 96, 3) := by decide +kernel
theorem d_law_815 : decode code 815 = .ok (.iload 5, 2) := by decide +kernel
theorem d_law_817 : decode code 817 = .ok (.if_icmp .eq 5, 3) := by decide +kernel
theorem d_law_820 : decode code 820 = .ok (.iconst 0, 1) := by decide +kernel
theorem d_law_821 : decode code 821 = .ok (.ireturn, 1) := by decide +kernel
theorem d_law_822 : decode code 822 = .ok (.iload 5, 2) := by decide +kernel
theorem d_law_824 : decode code 824 = .ok (.ifCond .ne 15, 3) := by decide +kernel
theorem d_law_827 : decode code 827 = .ok (.aload_n 3, 1) := by decide +kernel
theorem d_law_828 : decode code 828 = .ok (.iconst 0, 1) := by decide +kernel
theorem d_law_829 : decode code 829 = .ok (.laload, 1) := by decide +kernel
theorem d_law_830 : decode code 830 = .ok (.iload 6, 2) := by decide +kernel
theorem d_law_832 : decode code 832 = .ok (.i2l, 1) := by decide +kernel
theorem d_law_833 : decode code 833 = .ok (.lcmp, 1) := by decide +kernel
theorem d_law_834 : decode code 834 = .ok (.ifCond .eq 5, 3) := by decide +kernel
theorem d_law_837 : decode code 837 = .ok (.iconst 0, 1) := by decide +kernel
theorem d_law_838 : decode code 838 = .ok (.ireturn, 1) := by decide +kernel
theorem d_law_839 : decode code 839 = .ok (.goto 907, 3) := by decide +kernel
theorem d_law_842 : decode code 842 = .ok (.aload_n 1, 1) := by decide +kernel
theorem d_law_843 : decode code 843 = .ok (.aload_n 0, 1) := by decide +kernel
theorem d_law_844 : decode code 844 = .ok (.iload 4, 2) := by decide +kernel
theorem d_law_846 : decode code 846 = .ok (.iconst 1, 1) := by decide +kernel
theorem d_law_847 : decode code 847 = .ok (.iadd, 1) := by decide +kernel
theorem d_law_848 : decode code 848 = .ok (.iaload, 1) := by decide +kernel
theorem d_law_849 : decode code 849 = .ok (.ifCond .eq 7, 3) := by decide +kernel
theorem d_law_852 : decode code 852 = .ok (.iconst 1, 1) := by decide +kernel
theorem d_law_853 : decode code 853 = .ok (.goto 4, 3) := by decide +kernel
theorem d_law_856 : decode code 856 = .ok (.iconst 0, 1) := by decide +kernel
theorem d_law_857 : decode code 857 = .ok (.invokevirtual 130, 3) := by decide +kernel
theorem d_law_860 : decode code 860 = .ok (.aload_n 2, 1) := by decide +kernel
theorem d_law_861 : decode code 861 = .ok (.aload_n 0, 1) := by decide +kernel
theorem d_law_862 : decode code 862 = .ok (.iload 4, 2) := by decide +kernel
theorem d_law_864 : decode code 864 = .ok (.iconst 1, 1) := by decide +kernel
theorem d_law_865 : decode code 865 = .ok (.iadd, 1) := by decide +kernel
theorem d_law_866 : decode code 866 = .ok (.iaload, 1) := by decide +kernel
theorem d_law_867 : decode code 867 = .ok (.ifCond .eq 7, 3) := by decide +kernel
theorem d_law_870 : decode code 870 = .ok (.iconst 1, 1) := by decide +kernel
theorem d_law_871 : decode code 871 = .ok (.goto 4, 3) := by decide +kernel
theorem d_law_874 : decode code 874 = .ok (.iconst 0, 1) := by decide +kernel
theorem d_law_875 : decode code 875 = .ok (.invokevirtual 133, 3) := by decide +kernel
theorem d_law_878 : decode code 878 = .ok (.if_icmp .eq 868, 3) := by decide +kernel
theorem d_law_881 : decode code 881 = .ok (.iconst 0, 1) := by decide +kernel
theorem d_law_882 : decode code 882 = .ok (.ireturn, 1) := by decide +kernel
theorem d_law_883 : decode code 883 = .ok (.aload_n 1, 1) := by decide +kernel
theorem d_law_884 : decode code 884 = .ok (.aload_n 0, 1) := by decide +kernel
theorem d_law_885 : decode code 885 = .ok (.iload 4, 2) := by decide +kernel
theorem d_law_887 : decode code 887 = .ok (.iconst 1, 1) := by decide +kernel
theorem d_law_888 : decode code 888 = .ok (.iadd, 1) := by decide +kernel
theorem d_law_889 : decode code 889 = .ok (.iaload, 1) := by decide +kernel
theorem d_law_890 : decode code 890 = .ok (.aload_n 3, 1) := by decide +kernel
theorem d_law_891 : decode code 891 = .ok (.invokestatic 134, 3) := by decide +kernel
theorem d_law_894 : decode code 894 = .ok (.istore 5, 2) := by decide +kernel
theorem d_law_896 : decode code 896 = .ok (.aload_n 2, 1) := by decide +kernel
theorem d_law_897 : decode code 897 = .ok (.aload_n 0, 1) := by decide +kernel
theorem d_law_898 : decode code 898 = .ok (.iload 4, 2) := by decide +kernel
theorem d_law_900 : decode code 900 = .ok (.iconst 1, 1) := by decide +kernel
theorem d_law_901 : decode code 901 = .ok (.iadd, 1) := by decide +kernel
theorem d_law_902 : decode code 902 = .ok (.iaload, 1) := by decide +kernel
theorem d_law_903 : decode code 903 = .ok (.invokevirtual 136, 3) := by decide +kernel
theorem d_law_906 : decode code 906 = .ok (.istore 6, 2) := by decide +kernel
theorem d_law_908 : decode code 908 = .ok (.aload_n 2, 1) := by decide +kernel
theorem d_law_909 : decode code 909 = .ok (.invokevirtual 96, 3) := by decide +kernel
theorem d_law_912 : decode code 912 = .ok (.iload 5, 2) := by decide +kernel
theorem d_law_914 : decode code 914 = .ok (.if_icmp .eq 5, 3) := by decide +kernel
theorem d_law_917 : decode code 917 = .ok (.iconst 0, 1) := by decide +kernel
theorem d_law_918 : decode code 918 = .ok (.ireturn, 1) := by decide +kernel
theorem d_law_919 : decode code 919 = .ok (.iload 5, 2) := by decide +kernel
theorem d_law_921 : decode code 921 = .ok (.ifCond .ne 15, 3) := by decide +kernel
theorem d_law_924 : decode code 924 = .ok (.aload_n 3, 1) := by decide +kernel
theorem d_law_925 : decode code 925 = .ok (.iconst 0, 1) := by decide +kernel
theorem d_law_926 : decode code 926 = .ok (.laload, 1) := by decide +kernel
theorem d_law_927 : decode code 927 = .ok (.iload 6, 2) := by decide +kernel
theorem d_law_929 : decode code 929 = .ok (.i2l, 1) := by decide +kernel
theorem d_law_930 : decode code 930 = .ok (.lcmp, 1) := by decide +kernel
theorem d_law_931 : decode code 931 = .ok (.ifCond .eq 5, 3) := by decide +kernel
theorem d_law_934 : decode code 934 = .ok (.iconst 0, 1) := by decide +kernel
theorem d_law_935 : decode code 935 = .ok (.ireturn, 1) := by decide +kernel
theorem d_law_936 : decode code 936 = .ok (.goto 810, 3) := by decide +kernel
theorem d_law_939 : decode code 939 = .ok (.aload_n 1, 1) := by decide +kernel
theorem d_law_940 : decode code 940 = .ok (.aload_n 3, 1) := by decide +kernel
theorem d_law_941 : decode code 941 = .ok (.invokestatic 137, 3) := by decide +kernel
theorem d_law_944 : decode code 944 = .ok (.istore 5, 2) := by decide +kernel
theorem d_law_946 : decode code 946 = .ok (.aload_n 2, 1) := by decide +kernel
theorem d_law_947 : decode code 947 = .ok (.invokevirtual 140, 3) := by decide +kernel
theorem d_law_950 : decode code 950 = .ok (.istore 6, 2) := by decide +kernel
theorem d_law_952 : decode code 952 = .ok (.aload_n 2, 1) := by decide +kernel
theorem d_law_953 : decode code 953 = .ok (.invokevirtual 96, 3) := by decide +kernel
theorem d_law_956 : decode code 956 = .ok (.iload 5, 2) := by decide +kernel
theorem d_law_958 : decode code 958 = .ok (.if_icmp .eq 5, 3) := by decide +kernel
theorem d_law_961 : decode code 961 = .ok (.iconst 0, 1) := by decide +kernel
theorem d_law_962 : decode code 962 = .ok (.ireturn, 1) := by decide +kernel
theorem d_law_963 : decode code 963 = .ok (.iload 5, 2) := by decide +kernel
theorem d_law_965 : decode code 965 = .ok (.ifCond .ne 15, 3) := by decide +kernel
theorem d_law_968 : decode code 968 = .ok (.aload_n 3, 1) := by decide +kernel
theorem d_law_969 : decode code 969 = .ok (.iconst 0, 1) := by decide +kernel
theorem d_law_970 : decode code 970 = .ok (.laload, 1) := by decide +kernel
theorem d_law_971 : decode code 971 = .ok (.iload 6, 2) := by decide +kernel
theorem d_law_973 : decode code 973 = .ok (.i2l, 1) := by decide +kernel
theorem d_law_974 : decode code 974 = .ok (.lcmp, 1) := by decide +kernel
theorem d_law_975 : decode code 975 = .ok (.ifCond .eq 5, 3) := by decide +kernel
theorem d_law_978 : decode code 978 = .ok (.iconst 0, 1) := by decide +kernel
theorem d_law_979 : decode code 979 = .ok (.ireturn, 1) := by decide +kernel
theorem d_law_980 : decode code 980 = .ok (.goto 766, 3) := by decide +kernel
theorem d_law_983 : decode code 983 = .ok (.aload_n 1, 1) := by decide +kernel
theorem d_law_984 : decode code 984 = .ok (.aload_n 3, 1) := by decide +kernel
theorem d_law_985 : decode code 985 = .ok (.invokestatic 141, 3) := by decide +kernel
theorem d_law_988 : decode code 988 = .ok (.istore 5, 2) := by decide +kernel
theorem d_law_990 : decode code 990 = .ok (.aload_n 2, 1) := by decide +kernel
theorem d_law_991 : decode code 991 = .ok (.invokevirtual 143, 3) := by decide +kernel
theorem d_law_994 : decode code 994 = .ok (.istore 6, 2) := by decide +kernel
theorem d_law_996 : decode code 996 = .ok (.aload_n 2, 1) := by decide +kernel
theorem d_law_997 : decode code 997 = .ok (.invokevirtual 96, 3) := by decide +kernel
theorem d_law_1000 : decode code 1000 = .ok (.iload 5, 2) := by decide +kernel
theorem d_law_1002 : decode code 1002 = .ok (.if_icmp .eq 5, 3) := by decide +kernel
theorem d_law_1005 : decode code 1005 = .ok (.iconst 0, 1) := by decide +kernel
theorem d_law_1006 : decode code 1006 = .ok (.ireturn, 1) := by decide +kernel
theorem d_law_1007 : decode code 1007 = .ok (.iload 5, 2) := by decide +kernel
theorem d_law_1009 : decode code 1009 = .ok (.ifCond .ne 15, 3) := by decide +kernel
theorem d_law_1012 : decode code 1012 = .ok (.aload_n 3, 1) := by decide +kernel
theorem d_law_1013 : decode code 1013 = .ok (.iconst 0, 1) := by decide +kernel
theorem d_law_1014 : decode code 1014 = .ok (.laload, 1) := by decide +kernel
theorem d_law_1015 : decode code 1015 = .ok (.iload 6, 2) := by decide +kernel
theorem d_law_1017 : decode code 1017 = .ok (.i2l, 1) := by decide +kernel
theorem d_law_1018 : decode code 1018 = .ok (.lcmp, 1) := by decide +kernel
theorem d_law_1019 : decode code 1019 = .ok (.ifCond .eq 5, 3) := by decide +kernel
theorem d_law_1022 : decode code 1022 = .ok (.iconst 0, 1) := by decide +kernel
theorem d_law_1023 : decode code 1023 = .ok (.ireturn, 1) := by decide +kernel
theorem d_law_1024 : decode code 1024 = .ok (.goto 722, 3) := by decide +kernel
theorem d_law_1027 : decode code 1027 = .ok (.aload_n 1, 1) := by decide +kernel
theorem d_law_1028 : decode code 1028 = .ok (.aload_n 0, 1) := by decide +kernel
theorem d_law_1029 : decode code 1029 = .ok (.iload 4, 2) := by decide +kernel
theorem d_law_1031 : decode code 1031 = .ok (.iconst 1, 1) := by decide +kernel
theorem d_law_1032 : decode code 1032 = .ok (.iadd, 1) := by decide +kernel
theorem d_law_1033 : decode code 1033 = .ok (.iaload, 1) := by decide +kernel
theorem d_law_1034 : decode code 1034 = .ok (.aload_n 3, 1) := by decide +kernel
theorem d_law_1035 : decode code 1035 = .ok (.invokestatic 144, 3) := by decide +kernel
theorem d_law_1038 : decode code 1038 = .ok (.istore 5, 2) := by decide +kernel
theorem d_law_1040 : decode code 1040 = .ok (.aload_n 2, 1) := by decide +kernel
theorem d_law_1041 : decode code 1041 = .ok (.aload_n 0, 1) := by decide +kernel
theorem d_law_1042 : decode code 1042 = .ok (.iload 4, 2) := by decide +kernel
theorem d_law_1044 : decode code 1044 = .ok (.iconst 1, 1) := by decide +kernel
theorem d_law_1045 : decode code 1045 = .ok (.iadd, 1) := by decide +kernel
theorem d_law_1046 : decode code 1046 = .ok (.iaload, 1) := by decide +kernel
theorem d_law_1047 : decode code 1047 = .ok (.invokevirtual 146, 3) := by decide +kernel
theorem d_law_1050 : decode code 1050 = .ok (.istore 6, 2) := by decide +kernel
theorem d_law_1052 : decode code 1052 = .ok (.aload_n 2, 1) := by decide +kernel
theorem d_law_1053 : decode code 1053 = .ok (.invokevirtual 96, 3) := by decide +kernel
theorem d_law_1056 : decode code 1056 = .ok (.iload 5, 2) := by decide +kernel
theorem d_law_1058 : decode code 1058 = .ok (.if_icmp .eq 5, 3) := by decide +kernel
theorem d_law_1061 : decode code 1061 = .ok (.iconst 0, 1) := by decide +kernel
theorem d_law_1062 : decode code 1062 = .ok (.ireturn, 1) := by decide +kernel
theorem d_law_1063 : decode code 1063 = .ok (.iload 5, 2) := by decide +kernel
theorem d_law_1065 : decode code 1065 = .ok (.ifCond .ne 15, 3) := by decide +kernel
theorem d_law_1068 : decode code 1068 = .ok (.aload_n 3, 1) := by decide +kernel
theorem d_law_1069 : decode code 1069 = .ok (.iconst 0, 1) := by decide +kernel
theorem d_law_1070 : decode code 1070 = .ok (.laload, 1) := by decide +kernel
theorem d_law_1071 : decode code 1071 = .ok (.iload 6, 2) := by decide +kernel
theorem d_law_1073 : decode code 1073 = .ok (.i2l, 1) := by decide +kernel
theorem d_law_1074 : decode code 1074 = .ok (.lcmp, 1) := by decide +kernel
theorem d_law_1075 : decode code 1075 = .ok (.ifCond .eq 5, 3) := by decide +kernel
theorem d_law_1078 : decode code 1078 = .ok (.iconst 0, 1) := by decide +kernel
theorem d_law_1079 : decode code 1079 = .ok (.ireturn, 1) := by decide +kernel
theorem d_law_1080 : decode code 1080 = .ok (.goto 666, 3) := by decide +kernel
theorem d_law_1083 : decode code 1083 = .ok (.aload_n 1, 1) := by decide +kernel
theorem d_law_1084 : decode code 1084 = .ok (.aload_n 0, 1) := by decide +kernel
theorem d_law_1085 : decode code 1085 = .ok (.iload 4, 2) := by decide +kernel
theorem d_law_1087 : decode code 1087 = .ok (.iconst 1, 1) := by decide +kernel
theorem d_law_1088 : decode code 1088 = .ok (.iadd, 1) := by decide +kernel
theorem d_law_1089 : decode code 1089 = .ok (.iaload, 1) := by decide +kernel
theorem d_law_1090 : decode code 1090 = .ok (.aload_n 0, 1) := by decide +kernel
theorem d_law_1091 : decode code 1091 = .ok (.iload 4, 2) := by decide +kernel
theorem d_law_1093 : decode code 1093 = .ok (.iconst 2, 1) := by decide +kernel
theorem d_law_1094 : decode code 1094 = .ok (.iadd, 1) := by decide +kernel
theorem d_law_1095 : decode code 1095 = .ok (.iaload, 1) := by decide +kernel
theorem d_law_1096 : decode code 1096 = .ok (.aload_n 0, 1) := by decide +kernel
theorem d_law_1097 : decode code 1097 = .ok (.iload 4, 2) := by decide +kernel
theorem d_law_1099 : decode code 1099 = .ok (.iconst 3, 1) := by decide +kernel
theorem d_law_1100 : decode code 1100 = .ok (.iadd, 1) := by decide +kernel
theorem d_law_1101 : decode code 1101 = .ok (.iaload, 1) := by decide +kernel
theorem d_law_1102 : decode code 1102 = .ok (.ifCond .eq 7, 3) := by decide +kernel
theorem d_law_1105 : decode code 1105 = .ok (.iconst 1, 1) := by decide +kernel
theorem d_law_1106 : decode code 1106 = .ok (.goto 4, 3) := by decide +kernel
theorem d_law_1109 : decode code 1109 = .ok (.iconst 0, 1) := by decide +kernel
theorem d_law_1110 : decode code 1110 = .ok (.aload_n 3, 1) := by decide +kernel
theorem d_law_1111 : decode code 1111 = .ok (.invokestatic 147, 3) := by decide +kernel
theorem d_law_1114 : decode code 1114 = .ok (.istore 5, 2) := by decide +kernel
theorem d_law_1116 : decode code 1116 = .ok (.aload_n 2, 1) := by decide +kernel
theorem d_law_1117 : decode code 1117 = .ok (.aload_n 0, 1) := by decide +kernel
theorem d_law_1118 : decode code 1118 = .ok (.iload 4, 2) := by decide +kernel
theorem d_law_1120 : decode code 1120 = .ok (.iconst 1, 1) := by decide +kernel
theorem d_law_1121 : decode code 1121 = .ok (.iadd, 1) := by decide +kernel
theorem d_law_1122 : decode code 1122 = .ok (.iaload, 1) := by decide +kernel
theorem d_law_1123 : decode code 1123 = .ok (.aload_n 0, 1) := by decide +kernel
theorem d_law_1124 : decode code 1124 = .ok (.iload 4, 2) := by decide +kernel
theorem d_law_1126 : decode code 1126 = .ok (.iconst 2, 1) := by decide +kernel
theorem d_law_1127 : decode code 1127 = .ok (.iadd, 1) := by decide +kernel
theorem d_law_1128 : decode code 1128 = .ok (.iaload, 1) := by decide +kernel
theorem d_law_1129 : decode code 1129 = .ok (.aload_n 0, 1) := by decide +kernel
theorem d_law_1130 : decode code 1130 = .ok (.iload 4, 2) := by decide +kernel
theorem d_law_1132 : decode code 1132 = .ok (.iconst 3, 1) := by decide +kernel
theorem d_law_1133 : decode code 1133 = .ok (.iadd, 1) := by decide +kernel
theorem d_law_1134 : decode code 1134 = .ok (.iaload, 1) := by decide +kernel
theorem d_law_1135 : decode code 1135 = .ok (.ifCond .eq 7, 3) := by decide +kernel
theorem d_law_1138 : decode code 1138 = .ok (.iconst 1, 1) := by decide +kernel
theorem d_law_1139 : decode code 1139 = .ok (.goto 4, 3) := by decide +kernel
theorem d_law_1142 : decode code 1142 = .ok (.iconst 0, 1) := by decide +kernel
theorem d_law_1143 : decode code 1143 = .ok (.invokevirtual 149, 3) := by decide +kernel
theorem d_law_1146 : decode code 1146 = .ok (.istore 6, 2) := by decide +kernel
theorem d_law_1148 : decode code 1148 = .ok (.aload_n 2, 1) := by decide +kernel
theorem d_law_1149 : decode code 1149 = .ok (.invokevirtual 96, 3) := by decide +kernel
theorem d_law_1152 : decode code 1152 = .ok (.iload 5, 2) := by decide +kernel
theorem d_law_1154 : decode code 1154 = .ok (.if_icmp .eq 5, 3) := by decide +kernel
theorem d_law_1157 : decode code 1157 = .ok (.iconst 0, 1) := by decide +kernel
theorem d_law_1158 : decode code 1158 = .ok (.ireturn, 1) := by decide +kernel
theorem d_law_1159 : decode code 1159 = .ok (.iload 5, 2) := by decide +kernel
theorem d_law_1161 : decode code 1161 = .ok (.ifCond .ne 22, 3) := by decide +kernel
theorem d_law_1164 : decode code 1164 = .ok (.aload_n 3, 1) := by decide +kernel
theorem d_law_1165 : decode code 1165 = .ok (.iconst 0, 1) := by decide +kernel
theorem d_law_1166 : decode code 1166 = .ok (.laload, 1) := by decide +kernel
theorem d_law_1167 : decode code 1167 = .ok (.iload 6, 2) := by decide +kernel
theorem d_law_1169 : decode code 1169 = .ok (.ifCond .eq 7, 3) := by decide +kernel
theorem d_law_1172 : decode code 1172 = .ok (.lconst 1, 1) := by decide +kernel
theorem d_law_1173 : decode code 1173 = .ok (.goto 4, 3) := by decide +kernel
theorem d_law_1176 : decode code 1176 = .ok (.lconst 0, 1) := by decide +kernel
theorem d_law_1177 : decode code 1177 = .ok (.lcmp, 1) := by decide +kernel
theorem d_law_1178 : decode code 1178 = .ok (.ifCond .eq 5, 3) := by decide +kernel
theorem d_law_1181 : decode code 1181 = .ok (.iconst 0, 1) := by decide +kernel
theorem d_law_1182 : decode code 1182 = .ok (.ireturn, 1) := by decide +kernel
theorem d_law_1183 : decode code 1183 = .ok (.goto 563, 3) := by decide +kernel
theorem d_law_1186 : decode code 1186 = .ok (.aload_n 1, 1) := by decide +kernel
theorem d_law_1187 : decode code 1187 = .ok (.aload_n 0, 1) := by decide +kernel
theorem d_law_1188 : decode code 1188 = .ok (.iload 4, 2) := by decide +kernel
theorem d_law_1190 : decode code 1190 = .ok (.iconst 1, 1) := by decide +kernel
theorem d_law_1191 : decode code 1191 = .ok (.iadd, 1) := by decide +kernel
theorem d_law_1192 : decode code 1192 = .ok (.iaload, 1) := by decide +kernel
theorem d_law_1193 : decode code 1193 = .ok (.aload_n 3, 1) := by decide +kernel
theorem d_law_1194 : decode code 1194 = .ok (.invokestatic 150, 3) := by decide +kernel
theorem d_law_1197 : decode code 1197 = .ok (.istore 5, 2) := by decide +kernel
theorem d_law_1199 : decode code 1199 = .ok (.aload_n 2, 1) := by decide +kernel
theorem d_law_1200 : decode code 1200 = .ok (.aload_n 0, 1) := by decide +kernel
theorem d_law_1201 : decode code 1201 = .ok (.iload 4, 2) := by decide +kernel
theorem d_law_1203 : decode code 1203 = .ok (.iconst 1, 1) := by decide +kernel
theorem d_law_1204 : decode code 1204 = .ok (.iadd, 1) := by decide +kernel
theorem d_law_1205 : decode code 1205 = .ok (.iaload, 1) := by decide +kernel
theorem d_law_1206 : decode code 1206 = .ok (.invokevirtual 152, 3) := by decide +kernel
theorem d_law_1209 : decode code 1209 = .ok (.istore 6, 2) := by decide +kernel
theorem d_law_1211 : decode code 1211 = .ok (.aload_n 2, 1) := by decide +kernel
theorem d_law_1212 : decode code 1212 = .ok (.invokevirtual 96, 3) := by decide +kernel
theorem d_law_1215 : decode code 1215 = .ok (.iload 5, 2) := by decide +kernel
theorem d_law_1217 : decode code 1217 = .ok (.if_icmp .eq 5, 3) := by decide +kernel
theorem d_law_1220 : decode code 1220 = .ok (.iconst 0, 1) := by decide +kernel
theorem d_law_1221 : decode code 1221 = .ok (.ireturn, 1) := by decide +kernel
theorem d_law_1222 : decode code 1222 = .ok (.iload 5, 2) := by decide +kernel
theorem d_law_1224 : decode code 1224 = .ok (.ifCond .ne 15, 3) := by decide +kernel
theorem d_law_1227 : decode code 1227 = .ok (.aload_n 3, 1) := by decide +kernel
theorem d_law_1228 : decode code 1228 = .ok (.iconst 0, 1) := by decide +kernel
theorem d_law_1229 : decode code 1229 = .ok (.laload, 1) := by decide +kernel
theorem d_law_1230 : decode code 1230 = .ok (.iload 6, 2) := by decide +kernel
theorem d_law_1232 : decode code 1232 = .ok (.i2l, 1) := by decide +kernel
theorem d_law_1233 : decode code 1233 = .ok (.lcmp, 1) := by decide +kernel
theorem d_law_1234 : decode code 1234 = .ok (.ifCond .eq 5, 3) := by decide +kernel
theorem d_law_1237 : decode code 1237 = .ok (.iconst 0, 1) := by decide +kernel
theorem d_law_1238 : decode code 1238 = .ok (.ireturn, 1) := by decide +kernel
theorem d_law_1239 : decode code 1239 = .ok (.goto 507, 3) := by decide +kernel
theorem d_law_1242 : decode code 1242 = .ok (.aload_n 1, 1) := by decide +kernel
theorem d_law_1243 : decode code 1243 = .ok (.aload_n 0, 1) := by decide +kernel
theorem d_law_1244 : decode code 1244 = .ok (.iload 4, 2) := by decide +kernel
theorem d_law_1246 : decode code 1246 = .ok (.iconst 1, 1) := by decide +kernel
theorem d_law_1247 : decode code 1247 = .ok (.iadd, 1) := by decide +kernel
theorem d_law_1248 : decode code 1248 = .ok (.iaload, 1) := by decide +kernel
theorem d_law_1249 : decode code 1249 = .ok (.aload_n 0, 1) := by decide +kernel
theorem d_law_1250 : decode code 1250 = .ok (.iload 4, 2) := by decide +kernel
theorem d_law_1252 : decode code 1252 = .ok (.iconst 2, 1) := by decide +kernel
theorem d_law_1253 : decode code 1253 = .ok (.iadd, 1) := by decide +kernel
theorem d_law_1254 : decode code 1254 = .ok (.iaload, 1) := by decide +kernel
theorem d_law_1255 : decode code 1255 = .ok (.aload_n 3, 1) := by decide +kernel
theorem d_law_1256 : decode code 1256 = .ok (.invokestatic 153, 3) := by decide +kernel
