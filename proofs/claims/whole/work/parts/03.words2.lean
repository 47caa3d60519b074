/-! words of the tables, by their places -/
set_option maxRecDepth 100000 in
theorem tw_440 : Cond.instanceMethod ⟨"OrganConsole", "checkStop", "(I)V"⟩ ∈ TB := tb_of 440 (by rfl) (by rfl)
set_option maxRecDepth 100000 in
theorem tw_441 : Cond.code ⟨"OrganConsole", "checkStop", "(I)V"⟩ prog_1_method_29_code 2 none ∈ TB := tb_of 441 (by rfl) (by rfl)
set_option maxRecDepth 100000 in
theorem tw_443 : Cond.methodLink "OrganConsole" 117 ⟨"OrganConsole$Stops", "moveByHand", "(IZ)V"⟩ ∈ TB := tb_of 443 (by rfl) (by rfl)
set_option maxRecDepth 100000 in
theorem tw_444 : Cond.instanceMethod ⟨"OrganConsole$Stops", "moveByHand", "(IZ)V"⟩ ∈ TB := tb_of 444 (by rfl) (by rfl)
set_option maxRecDepth 100000 in
theorem tw_445 : Cond.selects "OrganConsole$Stops" ⟨"OrganConsole$Stops", "moveByHand", "(IZ)V"⟩ ⟨"OrganConsole$Stops", "moveByHand", "(IZ)V"⟩ ∈ TB := tb_of 445 (by rfl) (by rfl)
set_option maxRecDepth 100000 in
theorem tw_446 : Cond.code ⟨"OrganConsole$Stops", "moveByHand", "(IZ)V"⟩ prog_5_method_6_code 3 none ∈ TB := tb_of 446 (by rfl) (by rfl)
set_option maxRecDepth 100000 in
theorem tw_447 : Cond.methodLink "OrganConsoleLaw" 111 ⟨"OrganConsoleLaw", "tab", "(LOrganConsole;IZ[J)I"⟩ ∈ TB := tb_of 447 (by rfl) (by rfl)
set_option maxRecDepth 100000 in
theorem tw_448 : Cond.static ⟨"OrganConsoleLaw", "tab", "(LOrganConsole;IZ[J)I"⟩ ∈ TB := tb_of 448 (by rfl) (by rfl)
set_option maxRecDepth 100000 in
theorem tw_449 : Cond.codeWith ⟨"OrganConsoleLaw", "tab", "(LOrganConsole;IZ[J)I"⟩ method_7_code 5 (some FieldType.int) [(0, 17, 20, 13)] ∈ TB := tb_of 449 (by rfl) (by rfl)
set_option maxRecDepth 100000 in
theorem tw_450 : Cond.methodLink "OrganConsoleLaw" 31 ⟨"OrganConsole", "tab", "(IZ)Z"⟩ ∈ TB := tb_of 450 (by rfl) (by rfl)
set_option maxRecDepth 100000 in
theorem tw_451 : Cond.instanceMethod ⟨"OrganConsole", "tab", "(IZ)Z"⟩ ∈ TB := tb_of 451 (by rfl) (by rfl)
set_option maxRecDepth 100000 in
theorem tw_452 : Cond.selects "OrganConsole" ⟨"OrganConsole", "tab", "(IZ)Z"⟩ ⟨"OrganConsole", "tab", "(IZ)Z"⟩ ∈ TB := tb_of 452 (by rfl) (by rfl)
set_option maxRecDepth 100000 in
theorem tw_453 : Cond.code ⟨"OrganConsole", "tab", "(IZ)Z"⟩ prog_1_method_6_code 4 (some FieldType.boolean) ∈ TB := tb_of 453 (by rfl) (by rfl)
set_option maxRecDepth 100000 in
theorem tw_455 : Cond.methodLink "OrganConsoleLaw" 119 ⟨"OrganConsoleLaw", "press", "(LOrganConsole;II[J)I"⟩ ∈ TB := tb_of 455 (by rfl) (by rfl)
set_option maxRecDepth 100000 in
theorem tw_456 : Cond.static ⟨"OrganConsoleLaw", "press", "(LOrganConsole;II[J)I"⟩ ∈ TB := tb_of 456 (by rfl) (by rfl)
set_option maxRecDepth 100000 in
theorem tw_457 : Cond.codeWith ⟨"OrganConsoleLaw", "press", "(LOrganConsole;II[J)I"⟩ method_8_code 5 (some FieldType.int) [(0, 10, 13, 13)] ∈ TB := tb_of 457 (by rfl) (by rfl)
set_option maxRecDepth 100000 in
theorem tw_458 : Cond.methodLink "OrganConsoleLaw" 34 ⟨"OrganConsole", "press", "(II)I"⟩ ∈ TB := tb_of 458 (by rfl) (by rfl)
set_option maxRecDepth 100000 in
theorem tw_459 : Cond.instanceMethod ⟨"OrganConsole", "press", "(II)I"⟩ ∈ TB := tb_of 459 (by rfl) (by rfl)
set_option maxRecDepth 100000 in
theorem tw_460 : Cond.selects "OrganConsole" ⟨"OrganConsole", "press", "(II)I"⟩ ⟨"OrganConsole", "press", "(II)I"⟩ ∈ TB := tb_of 460 (by rfl) (by rfl)
set_option maxRecDepth 100000 in
theorem tw_461 : Cond.code ⟨"OrganConsole", "press", "(II)I"⟩ prog_1_method_8_code 3 (some FieldType.int) ∈ TB := tb_of 461 (by rfl) (by rfl)
set_option maxRecDepth 100000 in
theorem tw_462 : Cond.methodLink "OrganConsole" 126 ⟨"OrganConsole", "checkPiston", "(II)V"⟩ ∈ TB := tb_of 462 (by rfl) (by rfl)
set_option maxRecDepth 100000 in
theorem tw_464 : Cond.instanceMethod ⟨"OrganConsole", "checkPiston", "(II)V"⟩ ∈ TB := tb_of 464 (by rfl) (by rfl)
set_option maxRecDepth 100000 in
theorem tw_465 : Cond.code ⟨"OrganConsole", "checkPiston", "(II)V"⟩ prog_1_method_30_code 3 none ∈ TB := tb_of 465 (by rfl) (by rfl)
set_option maxRecDepth 100000 in
theorem tw_466 : Cond.methodLink "OrganConsole" 280 ⟨"OrganConsole", "pistonsOf", "(I)I"⟩ ∈ TB := tb_of 466 (by rfl) (by rfl)
set_option maxRecDepth 100000 in
theorem tw_468 : Cond.instanceMethod ⟨"OrganConsole", "pistonsOf", "(I)I"⟩ ∈ TB := tb_of 468 (by rfl) (by rfl)
set_option maxRecDepth 100000 in
theorem tw_469 : Cond.code ⟨"OrganConsole", "pistonsOf", "(I)I"⟩ prog_1_method_33_code 2 (some FieldType.int) ∈ TB := tb_of 469 (by rfl) (by rfl)
set_option maxRecDepth 100000 in
theorem tw_471 : Cond.methodLink "OrganConsole" 130 ⟨"OrganConsole", "recallPiston", "(II)I"⟩ ∈ TB := tb_of 471 (by rfl) (by rfl)
set_option maxRecDepth 100000 in
theorem tw_473 : Cond.instanceMethod ⟨"OrganConsole", "recallPiston", "(II)I"⟩ ∈ TB := tb_of 473 (by rfl) (by rfl)
set_option maxRecDepth 100000 in
theorem tw_474 : Cond.code ⟨"OrganConsole", "recallPiston", "(II)I"⟩ prog_1_method_37_code 3 (some FieldType.int) ∈ TB := tb_of 474 (by rfl) (by rfl)
set_option maxRecDepth 100000 in
theorem tw_475 : Cond.methodLink "OrganConsole" 144 ⟨"OrganConsole", "rowOf", "(II)I"⟩ ∈ TB := tb_of 475 (by rfl) (by rfl)
set_option maxRecDepth 100000 in
theorem tw_477 : Cond.instanceMethod ⟨"OrganConsole", "rowOf", "(II)I"⟩ ∈ TB := tb_of 477 (by rfl) (by rfl)
set_option maxRecDepth 100000 in
theorem tw_478 : Cond.code ⟨"OrganConsole", "rowOf", "(II)I"⟩ prog_1_method_35_code 3 (some FieldType.int) ∈ TB := tb_of 478 (by rfl) (by rfl)
set_option maxRecDepth 100000 in
theorem tw_479 : Cond.methodLink "OrganConsole" 292 ⟨"OrganConsole$Memory", "generalRow", "(II)I"⟩ ∈ TB := tb_of 479 (by rfl) (by rfl)
set_option maxRecDepth 100000 in
theorem tw_480 : Cond.static ⟨"OrganConsole$Memory", "generalRow", "(II)I"⟩ ∈ TB := tb_of 480 (by rfl) (by rfl)
set_option maxRecDepth 100000 in
theorem tw_481 : Cond.code ⟨"OrganConsole$Memory", "generalRow", "(II)I"⟩ prog_4_method_2_code 2 (some FieldType.int) ∈ TB := tb_of 481 (by rfl) (by rfl)
set_option maxRecDepth 100000 in
theorem tw_482 : Cond.methodLink "OrganConsole" 295 ⟨"OrganConsole$Memory", "divisionalRow", "(II)I"⟩ ∈ TB := tb_of 482 (by rfl) (by rfl)
set_option maxRecDepth 100000 in
theorem tw_483 : Cond.static ⟨"OrganConsole$Memory", "divisionalRow", "(II)I"⟩ ∈ TB := tb_of 483 (by rfl) (by rfl)
set_option maxRecDepth 100000 in
theorem tw_484 : Cond.code ⟨"OrganConsole$Memory", "divisionalRow", "(II)I"⟩ prog_4_method_3_code 2 (some FieldType.int) ∈ TB := tb_of 484 (by rfl) (by rfl)
set_option maxRecDepth 100000 in
theorem tw_485 : Cond.methodLink "OrganConsole" 298 ⟨"OrganConsole$Memory", "frameRow", "(I)I"⟩ ∈ TB := tb_of 485 (by rfl) (by rfl)
set_option maxRecDepth 100000 in
theorem tw_486 : Cond.static ⟨"OrganConsole$Memory", "frameRow", "(I)I"⟩ ∈ TB := tb_of 486 (by rfl) (by rfl)
set_option maxRecDepth 100000 in
theorem tw_487 : Cond.code ⟨"OrganConsole$Memory", "frameRow", "(I)I"⟩ prog_4_method_4_code 1 (some FieldType.int) ∈ TB := tb_of 487 (by rfl) (by rfl)
set_option maxRecDepth 100000 in
theorem tw_488 : Cond.methodLink "OrganConsole" 137 ⟨"OrganConsole", "scopeOf", "(II)J"⟩ ∈ TB := tb_of 488 (by rfl) (by rfl)
set_option maxRecDepth 100000 in
theorem tw_490 : Cond.instanceMethod ⟨"OrganConsole", "scopeOf", "(II)J"⟩ ∈ TB := tb_of 490 (by rfl) (by rfl)
set_option maxRecDepth 100000 in
theorem tw_491 : Cond.code ⟨"OrganConsole", "scopeOf", "(II)J"⟩ prog_1_method_36_code 3 (some FieldType.long) ∈ TB := tb_of 491 (by rfl) (by rfl)
set_option maxRecDepth 100000 in
theorem tw_492 : Cond.methodLink "OrganConsole" 304 ⟨"OrganConsole$Stops", "all", "()J"⟩ ∈ TB := tb_of 492 (by rfl) (by rfl)
set_option maxRecDepth 100000 in
theorem tw_493 : Cond.instanceMethod ⟨"OrganConsole$Stops", "all", "()J"⟩ ∈ TB := tb_of 493 (by rfl) (by rfl)
set_option maxRecDepth 100000 in
theorem tw_494 : Cond.selects "OrganConsole$Stops" ⟨"OrganConsole$Stops", "all", "()J"⟩ ⟨"OrganConsole$Stops", "all", "()J"⟩ ∈ TB := tb_of 494 (by rfl) (by rfl)
set_option maxRecDepth 100000 in
theorem tw_495 : Cond.code ⟨"OrganConsole$Stops", "all", "()J"⟩ prog_5_method_3_code 1 (some FieldType.long) ∈ TB := tb_of 495 (by rfl) (by rfl)
set_option maxRecDepth 100000 in
theorem tw_496 : Cond.methodLink "OrganConsole" 307 ⟨"OrganConsole$Stops", "recall", "(JJ)I"⟩ ∈ TB := tb_of 496 (by rfl) (by rfl)
set_option maxRecDepth 100000 in
theorem tw_497 : Cond.instanceMethod ⟨"OrganConsole$Stops", "recall", "(JJ)I"⟩ ∈ TB := tb_of 497 (by rfl) (by rfl)
set_option maxRecDepth 100000 in
theorem tw_498 : Cond.selects "OrganConsole$Stops" ⟨"OrganConsole$Stops", "recall", "(JJ)I"⟩ ⟨"OrganConsole$Stops", "recall", "(JJ)I"⟩ ∈ TB := tb_of 498 (by rfl) (by rfl)
set_option maxRecDepth 100000 in
theorem tw_499 : Cond.code ⟨"OrganConsole$Stops", "recall", "(JJ)I"⟩ prog_5_method_5_code 8 (some FieldType.int) ∈ TB := tb_of 499 (by rfl) (by rfl)
set_option maxRecDepth 100000 in
theorem tw_500 : Cond.methodLink "OrganConsole$Stops" 46 ⟨"OrganConsole$Stops", "unlike", "(JJ)J"⟩ ∈ TB := tb_of 500 (by rfl) (by rfl)
set_option maxRecDepth 100000 in
theorem tw_501 : Cond.instanceMethod ⟨"OrganConsole$Stops", "unlike", "(JJ)J"⟩ ∈ TB := tb_of 501 (by rfl) (by rfl)
set_option maxRecDepth 100000 in
theorem tw_502 : Cond.selects "OrganConsole$Stops" ⟨"OrganConsole$Stops", "unlike", "(JJ)J"⟩ ⟨"OrganConsole$Stops", "unlike", "(JJ)J"⟩ ∈ TB := tb_of 502 (by rfl) (by rfl)
set_option maxRecDepth 100000 in
theorem tw_503 : Cond.code ⟨"OrganConsole$Stops", "unlike", "(JJ)J"⟩ prog_5_method_4_code 5 (some FieldType.long) ∈ TB := tb_of 503 (by rfl) (by rfl)
set_option maxRecDepth 100000 in
theorem tw_505 : Cond.methodLink "OrganConsole$Stops" 54 ⟨"java/lang/Long", "bitCount", "(J)I"⟩ ∈ TB := tb_of 505 (by rfl) (by rfl)
set_option maxRecDepth 100000 in
theorem tw_506 : Cond.static ⟨"java/lang/Long", "bitCount", "(J)I"⟩ ∈ TB := tb_of 506 (by rfl) (by rfl)
set_option maxRecDepth 100000 in
theorem tw_507 : Cond.code ⟨"java/lang/Long", "bitCount", "(J)I"⟩ prog_12_method_50_code 2 (some FieldType.int) ∈ TB := tb_of 507 (by rfl) (by rfl)
set_option maxRecDepth 100000 in
theorem tw_508 : Cond.constantLong "java/lang/Long" 314 (6148914691236517205 : Int64) ∈ TB := tb_of 508 (by rfl) (by rfl)
set_option maxRecDepth 100000 in
theorem tw_509 : Cond.constantLong "java/lang/Long" 316 (3689348814741910323 : Int64) ∈ TB := tb_of 509 (by rfl) (by rfl)
set_option maxRecDepth 100000 in
theorem tw_510 : Cond.constantLong "java/lang/Long" 318 (1085102592571150095 : Int64) ∈ TB := tb_of 510 (by rfl) (by rfl)
set_option maxRecDepth 100000 in
theorem tw_511 : Cond.methodLink "OrganConsoleLaw" 123 ⟨"OrganConsoleLaw", "set", "(LOrganConsole;II[J)I"⟩ ∈ TB := tb_of 511 (by rfl) (by rfl)
set_option maxRecDepth 100000 in
theorem tw_512 : Cond.static ⟨"OrganConsoleLaw", "set", "(LOrganConsole;II[J)I"⟩ ∈ TB := tb_of 512 (by rfl) (by rfl)
set_option maxRecDepth 100000 in
theorem tw_513 : Cond.codeWith ⟨"OrganConsoleLaw", "set", "(LOrganConsole;II[J)I"⟩ method_9_code 5 (some FieldType.int) [(0, 10, 13, 13), (0, 10, 17, 17)] ∈ TB := tb_of 513 (by rfl) (by rfl)
set_option maxRecDepth 100000 in
theorem tw_514 : Cond.methodLink "OrganConsoleLaw" 38 ⟨"OrganConsole", "set", "(II)I"⟩ ∈ TB := tb_of 514 (by rfl) (by rfl)
set_option maxRecDepth 100000 in
theorem tw_515 : Cond.instanceMethod ⟨"OrganConsole", "set", "(II)I"⟩ ∈ TB := tb_of 515 (by rfl) (by rfl)
set_option maxRecDepth 100000 in
theorem tw_516 : Cond.selects "OrganConsole" ⟨"OrganConsole", "set", "(II)I"⟩ ⟨"OrganConsole", "set", "(II)I"⟩ ∈ TB := tb_of 516 (by rfl) (by rfl)
set_option maxRecDepth 100000 in
theorem tw_517 : Cond.code ⟨"OrganConsole", "set", "(II)I"⟩ prog_1_method_9_code 5 (some FieldType.int) ∈ TB := tb_of 517 (by rfl) (by rfl)
set_option maxRecDepth 100000 in
theorem tw_518 : Cond.methodLink "OrganConsole" 134 ⟨"OrganConsole", "checkUnlocked", "()V"⟩ ∈ TB := tb_of 518 (by rfl) (by rfl)
set_option maxRecDepth 100000 in
theorem tw_520 : Cond.instanceMethod ⟨"OrganConsole", "checkUnlocked", "()V"⟩ ∈ TB := tb_of 520 (by rfl) (by rfl)
set_option maxRecDepth 100000 in
theorem tw_521 : Cond.code ⟨"OrganConsole", "checkUnlocked", "()V"⟩ prog_1_method_32_code 1 none ∈ TB := tb_of 521 (by rfl) (by rfl)
set_option maxRecDepth 100000 in
theorem tw_523 : Cond.methodLink "OrganConsole" 147 ⟨"java/lang/Long", "bitCount", "(J)I"⟩ ∈ TB := tb_of 523 (by rfl) (by rfl)
set_option maxRecDepth 100000 in
theorem tw_524 : Cond.methodLink "OrganConsoleLaw" 126 ⟨"OrganConsoleLaw", "level", "(LOrganConsole;I[J)I"⟩ ∈ TB := tb_of 524 (by rfl) (by rfl)
set_option maxRecDepth 100000 in
theorem tw_525 : Cond.static ⟨"OrganConsoleLaw", "level", "(LOrganConsole;I[J)I"⟩ ∈ TB := tb_of 525 (by rfl) (by rfl)
set_option maxRecDepth 100000 in
theorem tw_526 : Cond.codeWith ⟨"OrganConsoleLaw", "level", "(LOrganConsole;I[J)I"⟩ method_10_code 4 (some FieldType.int) [(0, 9, 12, 15)] ∈ TB := tb_of 526 (by rfl) (by rfl)
set_option maxRecDepth 100000 in
theorem tw_527 : Cond.methodLink "OrganConsoleLaw" 41 ⟨"OrganConsole", "level", "(I)I"⟩ ∈ TB := tb_of 527 (by rfl) (by rfl)
set_option maxRecDepth 100000 in
theorem tw_528 : Cond.instanceMethod ⟨"OrganConsole", "level", "(I)I"⟩ ∈ TB := tb_of 528 (by rfl) (by rfl)
set_option maxRecDepth 100000 in
theorem tw_529 : Cond.selects "OrganConsole" ⟨"OrganConsole", "level", "(I)I"⟩ ⟨"OrganConsole", "level", "(I)I"⟩ ∈ TB := tb_of 529 (by rfl) (by rfl)
set_option maxRecDepth 100000 in
theorem tw_530 : Cond.code ⟨"OrganConsole", "level", "(I)I"⟩ prog_1_method_10_code 3 (some FieldType.int) ∈ TB := tb_of 530 (by rfl) (by rfl)
set_option maxRecDepth 100000 in
theorem tw_532 : Cond.methodLink "OrganConsoleLaw" 134 ⟨"OrganConsoleLaw", "move", "(LOrganConsole;I[J)I"⟩ ∈ TB := tb_of 532 (by rfl) (by rfl)
set_option maxRecDepth 100000 in
theorem tw_533 : Cond.static ⟨"OrganConsoleLaw", "move", "(LOrganConsole;I[J)I"⟩ ∈ TB := tb_of 533 (by rfl) (by rfl)
set_option maxRecDepth 100000 in
theorem tw_534 : Cond.codeWith ⟨"OrganConsoleLaw", "move", "(LOrganConsole;I[J)I"⟩ method_11_code 4 (some FieldType.int) [(0, 9, 12, 15)] ∈ TB := tb_of 534 (by rfl) (by rfl)
set_option maxRecDepth 100000 in
theorem tw_535 : Cond.methodLink "OrganConsoleLaw" 45 ⟨"OrganConsole", "move", "(I)I"⟩ ∈ TB := tb_of 535 (by rfl) (by rfl)
set_option maxRecDepth 100000 in
theorem tw_536 : Cond.instanceMethod ⟨"OrganConsole", "move", "(I)I"⟩ ∈ TB := tb_of 536 (by rfl) (by rfl)
set_option maxRecDepth 100000 in
theorem tw_537 : Cond.selects "OrganConsole" ⟨"OrganConsole", "move", "(I)I"⟩ ⟨"OrganConsole", "move", "(I)I"⟩ ∈ TB := tb_of 537 (by rfl) (by rfl)
set_option maxRecDepth 100000 in
theorem tw_538 : Cond.code ⟨"OrganConsole", "move", "(I)I"⟩ prog_1_method_12_code 4 (some FieldType.int) ∈ TB := tb_of 538 (by rfl) (by rfl)
set_option maxRecDepth 100000 in
theorem tw_540 : Cond.methodLink "OrganConsoleLaw" 137 ⟨"OrganConsoleLaw", "insert", "(LOrganConsole;[J)I"⟩ ∈ TB := tb_of 540 (by rfl) (by rfl)
set_option maxRecDepth 100000 in
theorem tw_541 : Cond.static ⟨"OrganConsoleLaw", "insert", "(LOrganConsole;[J)I"⟩ ∈ TB := tb_of 541 (by rfl) (by rfl)
set_option maxRecDepth 100000 in
theorem tw_542 : Cond.codeWith ⟨"OrganConsoleLaw", "insert", "(LOrganConsole;[J)I"⟩ method_12_code 3 (some FieldType.int) [(0, 8, 11, 17)] ∈ TB := tb_of 542 (by rfl) (by rfl)
set_option maxRecDepth 100000 in
theorem tw_543 : Cond.methodLink "OrganConsoleLaw" 48 ⟨"OrganConsole", "insert", "()I"⟩ ∈ TB := tb_of 543 (by rfl) (by rfl)
set_option maxRecDepth 100000 in
theorem tw_544 : Cond.instanceMethod ⟨"OrganConsole", "insert", "()I"⟩ ∈ TB := tb_of 544 (by rfl) (by rfl)
set_option maxRecDepth 100000 in
theorem tw_545 : Cond.selects "OrganConsole" ⟨"OrganConsole", "insert", "()I"⟩ ⟨"OrganConsole", "insert", "()I"⟩ ∈ TB := tb_of 545 (by rfl) (by rfl)
set_option maxRecDepth 100000 in
theorem tw_546 : Cond.code ⟨"OrganConsole", "insert", "()I"⟩ prog_1_method_13_code 1 (some FieldType.int) ∈ TB := tb_of 546 (by rfl) (by rfl)
set_option maxRecDepth 100000 in
theorem tw_548 : Cond.methodLink "OrganConsole" 162 ⟨"OrganConsole$Memory", "openFrame", "(IJ)V"⟩ ∈ TB := tb_of 548 (by rfl) (by rfl)
set_option maxRecDepth 100000 in
theorem tw_549 : Cond.instanceMethod ⟨"OrganConsole$Memory", "openFrame", "(IJ)V"⟩ ∈ TB := tb_of 549 (by rfl) (by rfl)
set_option maxRecDepth 100000 in
theorem tw_550 : Cond.selects "OrganConsole$Memory" ⟨"OrganConsole$Memory", "openFrame", "(IJ)V"⟩ ⟨"OrganConsole$Memory", "openFrame", "(IJ)V"⟩ ∈ TB := tb_of 550 (by rfl) (by rfl)
set_option maxRecDepth 100000 in
theorem tw_551 : Cond.code ⟨"OrganConsole$Memory", "openFrame", "(IJ)V"⟩ prog_4_method_7_code 5 none ∈ TB := tb_of 551 (by rfl) (by rfl)
set_option maxRecDepth 100000 in
theorem tw_552 : Cond.methodLink "OrganConsole$Memory" 23 ⟨"OrganConsole$Memory", "frameRow", "(I)I"⟩ ∈ TB := tb_of 552 (by rfl) (by rfl)
set_option maxRecDepth 100000 in
theorem tw_553 : Cond.methodLink "OrganConsoleLaw" 141 ⟨"OrganConsoleLaw", "delete", "(LOrganConsole;[J)I"⟩ ∈ TB := tb_of 553 (by rfl) (by rfl)
set_option maxRecDepth 100000 in
theorem tw_554 : Cond.static ⟨"OrganConsoleLaw", "delete", "(LOrganConsole;[J)I"⟩ ∈ TB := tb_of 554 (by rfl) (by rfl)
set_option maxRecDepth 100000 in
theorem tw_555 : Cond.codeWith ⟨"OrganConsoleLaw", "delete", "(LOrganConsole;[J)I"⟩ method_13_code 3 (some FieldType.int) [(0, 8, 11, 17)] ∈ TB := tb_of 555 (by rfl) (by rfl)
set_option maxRecDepth 100000 in
theorem tw_556 : Cond.methodLink "OrganConsoleLaw" 52 ⟨"OrganConsole", "delete", "()I"⟩ ∈ TB := tb_of 556 (by rfl) (by rfl)
set_option maxRecDepth 100000 in
theorem tw_557 : Cond.instanceMethod ⟨"OrganConsole", "delete", "()I"⟩ ∈ TB := tb_of 557 (by rfl) (by rfl)
set_option maxRecDepth 100000 in
theorem tw_558 : Cond.selects "OrganConsole" ⟨"OrganConsole", "delete", "()I"⟩ ⟨"OrganConsole", "delete", "()I"⟩ ∈ TB := tb_of 558 (by rfl) (by rfl)
set_option maxRecDepth 100000 in
theorem tw_559 : Cond.code ⟨"OrganConsole", "delete", "()I"⟩ prog_1_method_14_code 1 (some FieldType.int) ∈ TB := tb_of 559 (by rfl) (by rfl)
set_option maxRecDepth 100000 in
theorem tw_561 : Cond.methodLink "OrganConsole" 168 ⟨"OrganConsole$Memory", "closeFrame", "(I)V"⟩ ∈ TB := tb_of 561 (by rfl) (by rfl)
set_option maxRecDepth 100000 in
theorem tw_562 : Cond.instanceMethod ⟨"OrganConsole$Memory", "closeFrame", "(I)V"⟩ ∈ TB := tb_of 562 (by rfl) (by rfl)
set_option maxRecDepth 100000 in
theorem tw_563 : Cond.selects "OrganConsole$Memory" ⟨"OrganConsole$Memory", "closeFrame", "(I)V"⟩ ⟨"OrganConsole$Memory", "closeFrame", "(I)V"⟩ ∈ TB := tb_of 563 (by rfl) (by rfl)
set_option maxRecDepth 100000 in
theorem tw_564 : Cond.code ⟨"OrganConsole$Memory", "closeFrame", "(I)V"⟩ prog_4_method_8_code 3 none ∈ TB := tb_of 564 (by rfl) (by rfl)
set_option maxRecDepth 100000 in
theorem tw_565 : Cond.methodLink "OrganConsoleLaw" 144 ⟨"OrganConsoleLaw", "pedal", "(LOrganConsole;I[J)I"⟩ ∈ TB := tb_of 565 (by rfl) (by rfl)
set_option maxRecDepth 100000 in
theorem tw_566 : Cond.static ⟨"OrganConsoleLaw", "pedal", "(LOrganConsole;I[J)I"⟩ ∈ TB := tb_of 566 (by rfl) (by rfl)
set_option maxRecDepth 100000 in
theorem tw_567 : Cond.codeWith ⟨"OrganConsoleLaw", "pedal", "(LOrganConsole;I[J)I"⟩ method_14_code 4 (some FieldType.int) [(0, 9, 12, 15)] ∈ TB := tb_of 567 (by rfl) (by rfl)
set_option maxRecDepth 100000 in
theorem tw_568 : Cond.methodLink "OrganConsoleLaw" 55 ⟨"OrganConsole", "pedal", "(I)I"⟩ ∈ TB := tb_of 568 (by rfl) (by rfl)
set_option maxRecDepth 100000 in
theorem tw_569 : Cond.instanceMethod ⟨"OrganConsole", "pedal", "(I)I"⟩ ∈ TB := tb_of 569 (by rfl) (by rfl)
set_option maxRecDepth 100000 in
theorem tw_570 : Cond.selects "OrganConsole" ⟨"OrganConsole", "pedal", "(I)I"⟩ ⟨"OrganConsole", "pedal", "(I)I"⟩ ∈ TB := tb_of 570 (by rfl) (by rfl)
set_option maxRecDepth 100000 in
theorem tw_571 : Cond.code ⟨"OrganConsole", "pedal", "(I)I"⟩ prog_1_method_15_code 3 (some FieldType.int) ∈ TB := tb_of 571 (by rfl) (by rfl)
set_option maxRecDepth 100000 in
theorem tw_573 : Cond.methodLink "OrganConsoleLaw" 147 ⟨"OrganConsoleLaw", "assign", "(LOrganConsole;IIZ[J)I"⟩ ∈ TB := tb_of 573 (by rfl) (by rfl)
set_option maxRecDepth 100000 in
theorem tw_574 : Cond.static ⟨"OrganConsoleLaw", "assign", "(LOrganConsole;IIZ[J)I"⟩ ∈ TB := tb_of 574 (by rfl) (by rfl)
set_option maxRecDepth 100000 in
theorem tw_575 : Cond.codeWith ⟨"OrganConsoleLaw", "assign", "(LOrganConsole;IIZ[J)I"⟩ method_15_code 6 (some FieldType.int) [(0, 19, 22, 13), (0, 19, 26, 15), (0, 19, 30, 17)] ∈ TB := tb_of 575 (by rfl) (by rfl)
set_option maxRecDepth 100000 in
theorem tw_576 : Cond.methodLink "OrganConsoleLaw" 58 ⟨"OrganConsole", "assign", "(IIZ)Z"⟩ ∈ TB := tb_of 576 (by rfl) (by rfl)
set_option maxRecDepth 100000 in
theorem tw_577 : Cond.instanceMethod ⟨"OrganConsole", "assign", "(IIZ)Z"⟩ ∈ TB := tb_of 577 (by rfl) (by rfl)
set_option maxRecDepth 100000 in
theorem tw_578 : Cond.selects "OrganConsole" ⟨"OrganConsole", "assign", "(IIZ)Z"⟩ ⟨"OrganConsole", "assign", "(IIZ)Z"⟩ ∈ TB := tb_of 578 (by rfl) (by rfl)
set_option maxRecDepth 100000 in
theorem tw_579 : Cond.code ⟨"OrganConsole", "assign", "(IIZ)Z"⟩ prog_1_method_16_code 6 (some FieldType.boolean) ∈ TB := tb_of 579 (by rfl) (by rfl)
set_option maxRecDepth 100000 in
theorem tw_581 : Cond.methodLink "OrganConsole" 175 ⟨"OrganConsole$Memory", "stepRow", "(I)I"⟩ ∈ TB := tb_of 581 (by rfl) (by rfl)
set_option maxRecDepth 100000 in
theorem tw_582 : Cond.static ⟨"OrganConsole$Memory", "stepRow", "(I)I"⟩ ∈ TB := tb_of 582 (by rfl) (by rfl)
set_option maxRecDepth 100000 in
theorem tw_583 : Cond.code ⟨"OrganConsole$Memory", "stepRow", "(I)I"⟩ prog_4_method_5_code 1 (some FieldType.int) ∈ TB := tb_of 583 (by rfl) (by rfl)
set_option maxRecDepth 100000 in
theorem tw_584 : Cond.methodLink "OrganConsoleLaw" 150 ⟨"OrganConsoleLaw", "tick", "(LOrganConsole;I[J)I"⟩ ∈ TB := tb_of 584 (by rfl) (by rfl)
set_option maxRecDepth 100000 in
theorem tw_585 : Cond.static ⟨"OrganConsoleLaw", "tick", "(LOrganConsole;I[J)I"⟩ ∈ TB := tb_of 585 (by rfl) (by rfl)
set_option maxRecDepth 100000 in
theorem tw_586 : Cond.codeWith ⟨"OrganConsoleLaw", "tick", "(LOrganConsole;I[J)I"⟩ method_16_code 4 (some FieldType.int) [(0, 9, 12, 15)] ∈ TB := tb_of 586 (by rfl) (by rfl)
set_option maxRecDepth 100000 in
theorem tw_587 : Cond.methodLink "OrganConsoleLaw" 61 ⟨"OrganConsole", "tick", "(I)I"⟩ ∈ TB := tb_of 587 (by rfl) (by rfl)
set_option maxRecDepth 100000 in
theorem tw_588 : Cond.instanceMethod ⟨"OrganConsole", "tick", "(I)I"⟩ ∈ TB := tb_of 588 (by rfl) (by rfl)
set_option maxRecDepth 100000 in
theorem tw_589 : Cond.selects "OrganConsole" ⟨"OrganConsole", "tick", "(I)I"⟩ ⟨"OrganConsole", "tick", "(I)I"⟩ ∈ TB := tb_of 589 (by rfl) (by rfl)
set_option maxRecDepth 100000 in
theorem tw_590 : Cond.code ⟨"OrganConsole", "tick", "(I)I"⟩ prog_1_method_17_code 2 (some FieldType.int) ∈ TB := tb_of 590 (by rfl) (by rfl)
set_option maxRecDepth 100000 in
theorem tw_592 : Cond.methodLink "OrganConsole" 181 ⟨"OrganConsole$Stops", "pullFor", "(I)I"⟩ ∈ TB := tb_of 592 (by rfl) (by rfl)
set_option maxRecDepth 100000 in
theorem tw_593 : Cond.instanceMethod ⟨"OrganConsole$Stops", "pullFor", "(I)I"⟩ ∈ TB := tb_of 593 (by rfl) (by rfl)
set_option maxRecDepth 100000 in
theorem tw_594 : Cond.selects "OrganConsole$Stops" ⟨"OrganConsole$Stops", "pullFor", "(I)I"⟩ ⟨"OrganConsole$Stops", "pullFor", "(I)I"⟩ ∈ TB := tb_of 594 (by rfl) (by rfl)
set_option maxRecDepth 100000 in
theorem tw_595 : Cond.code ⟨"OrganConsole$Stops", "pullFor", "(I)I"⟩ prog_5_method_7_code 4 (some FieldType.int) ∈ TB := tb_of 595 (by rfl) (by rfl)
set_option maxRecDepth 100000 in
theorem tw_596 : Cond.methodLink "OrganConsole$Stops" 60 ⟨"OrganConsole$Stops", "turn", "(I)I"⟩ ∈ TB := tb_of 596 (by rfl) (by rfl)
set_option maxRecDepth 100000 in
theorem tw_598 : Cond.instanceMethod ⟨"OrganConsole$Stops", "turn", "(I)I"⟩ ∈ TB := tb_of 598 (by rfl) (by rfl)
set_option maxRecDepth 100000 in
theorem tw_599 : Cond.code ⟨"OrganConsole$Stops", "turn", "(I)I"⟩ prog_5_method_8_code 2 (some FieldType.int) ∈ TB := tb_of 599 (by rfl) (by rfl)
set_option maxRecDepth 100000 in
theorem tw_600 : Cond.methodLink "OrganConsoleLaw" 153 ⟨"OrganConsoleLaw", "about", "(LOrganConsole;II[J)I"⟩ ∈ TB := tb_of 600 (by rfl) (by rfl)
set_option maxRecDepth 100000 in
theorem tw_601 : Cond.static ⟨"OrganConsoleLaw", "about", "(LOrganConsole;II[J)I"⟩ ∈ TB := tb_of 601 (by rfl) (by rfl)
set_option maxRecDepth 100000 in
theorem tw_602 : Cond.codeWith ⟨"OrganConsoleLaw", "about", "(LOrganConsole;II[J)I"⟩ method_17_code 5 (some FieldType.int) [(0, 10, 13, 13), (0, 10, 17, 15)] ∈ TB := tb_of 602 (by rfl) (by rfl)
set_option maxRecDepth 100000 in
theorem tw_603 : Cond.methodLink "OrganConsoleLaw" 64 ⟨"OrganConsole", "about", "(II)I"⟩ ∈ TB := tb_of 603 (by rfl) (by rfl)
set_option maxRecDepth 100000 in
theorem tw_604 : Cond.instanceMethod ⟨"OrganConsole", "about", "(II)I"⟩ ∈ TB := tb_of 604 (by rfl) (by rfl)
set_option maxRecDepth 100000 in
theorem tw_605 : Cond.selects "OrganConsole" ⟨"OrganConsole", "about", "(II)I"⟩ ⟨"OrganConsole", "about", "(II)I"⟩ ∈ TB := tb_of 605 (by rfl) (by rfl)
set_option maxRecDepth 100000 in
theorem tw_606 : Cond.code ⟨"OrganConsole", "about", "(II)I"⟩ prog_1_method_18_code 3 (some FieldType.int) ∈ TB := tb_of 606 (by rfl) (by rfl)
set_option maxRecDepth 100000 in
theorem tw_607 : Cond.methodLink "OrganConsole" 184 ⟨"OrganConsole", "speaking", "()J"⟩ ∈ TB := tb_of 607 (by rfl) (by rfl)
set_option maxRecDepth 100000 in
theorem tw_609 : Cond.instanceMethod ⟨"OrganConsole", "speaking", "()J"⟩ ∈ TB := tb_of 609 (by rfl) (by rfl)
set_option maxRecDepth 100000 in
theorem tw_610 : Cond.code ⟨"OrganConsole", "speaking", "()J"⟩ prog_1_method_38_code 1 (some FieldType.long) ∈ TB := tb_of 610 (by rfl) (by rfl)
set_option maxRecDepth 100000 in
theorem tw_611 : Cond.methodLink "OrganConsole" 311 ⟨"OrganConsole$Memory", "stepsUpTo", "(I)J"⟩ ∈ TB := tb_of 611 (by rfl) (by rfl)
set_option maxRecDepth 100000 in
theorem tw_612 : Cond.instanceMethod ⟨"OrganConsole$Memory", "stepsUpTo", "(I)J"⟩ ∈ TB := tb_of 612 (by rfl) (by rfl)
set_option maxRecDepth 100000 in
theorem tw_613 : Cond.selects "OrganConsole$Memory" ⟨"OrganConsole$Memory", "stepsUpTo", "(I)J"⟩ ⟨"OrganConsole$Memory", "stepsUpTo", "(I)J"⟩ ∈ TB := tb_of 613 (by rfl) (by rfl)
set_option maxRecDepth 100000 in
theorem tw_614 : Cond.code ⟨"OrganConsole$Memory", "stepsUpTo", "(I)J"⟩ prog_4_method_6_code 5 (some FieldType.long) ∈ TB := tb_of 614 (by rfl) (by rfl)
set_option maxRecDepth 100000 in
theorem tw_615 : Cond.methodLink "OrganConsole$Memory" 19 ⟨"OrganConsole$Memory", "stepRow", "(I)I"⟩ ∈ TB := tb_of 615 (by rfl) (by rfl)
set_option maxRecDepth 100000 in
theorem tw_616 : Cond.methodLink "OrganConsole" 191 ⟨"OrganConsole", "windedPipes", "(I)I"⟩ ∈ TB := tb_of 616 (by rfl) (by rfl)
set_option maxRecDepth 100000 in
theorem tw_618 : Cond.instanceMethod ⟨"OrganConsole", "windedPipes", "(I)I"⟩ ∈ TB := tb_of 618 (by rfl) (by rfl)
set_option maxRecDepth 100000 in
theorem tw_619 : Cond.code ⟨"OrganConsole", "windedPipes", "(I)I"⟩ prog_1_method_39_code 3 (some FieldType.int) ∈ TB := tb_of 619 (by rfl) (by rfl)
set_option maxRecDepth 100000 in
theorem tw_620 : Cond.methodLink "OrganConsole" 208 ⟨"OrganConsole$Keywork", "reachedBetween", "(III)I"⟩ ∈ TB := tb_of 620 (by rfl) (by rfl)
set_option maxRecDepth 100000 in
theorem tw_621 : Cond.instanceMethod ⟨"OrganConsole$Keywork", "reachedBetween", "(III)I"⟩ ∈ TB := tb_of 621 (by rfl) (by rfl)
set_option maxRecDepth 100000 in
theorem tw_622 : Cond.selects "OrganConsole$Keywork" ⟨"OrganConsole$Keywork", "reachedBetween", "(III)I"⟩ ⟨"OrganConsole$Keywork", "reachedBetween", "(III)I"⟩ ∈ TB := tb_of 622 (by rfl) (by rfl)
set_option maxRecDepth 100000 in
theorem tw_623 : Cond.code ⟨"OrganConsole$Keywork", "reachedBetween", "(III)I"⟩ prog_3_method_5_code 6 (some FieldType.int) ∈ TB := tb_of 623 (by rfl) (by rfl)
set_option maxRecDepth 100000 in
theorem tw_624 : Cond.methodLink "OrganConsole$Keywork" 43 ⟨"OrganConsole$Keywork", "reached", "(II)J"⟩ ∈ TB := tb_of 624 (by rfl) (by rfl)
set_option maxRecDepth 100000 in
theorem tw_626 : Cond.instanceMethod ⟨"OrganConsole$Keywork", "reached", "(II)J"⟩ ∈ TB := tb_of 626 (by rfl) (by rfl)
set_option maxRecDepth 100000 in
theorem tw_627 : Cond.code ⟨"OrganConsole$Keywork", "reached", "(II)J"⟩ prog_3_method_6_code 6 (some FieldType.long) ∈ TB := tb_of 627 (by rfl) (by rfl)
set_option maxRecDepth 100000 in
theorem tw_628 : Cond.methodLink "OrganConsole$Keywork" 51 ⟨"OrganConsole$Keywork", "shifted", "(JII)J"⟩ ∈ TB := tb_of 628 (by rfl) (by rfl)
set_option maxRecDepth 100000 in
theorem tw_629 : Cond.static ⟨"OrganConsole$Keywork", "shifted", "(JII)J"⟩ ∈ TB := tb_of 629 (by rfl) (by rfl)
set_option maxRecDepth 100000 in
theorem tw_630 : Cond.code ⟨"OrganConsole$Keywork", "shifted", "(JII)J"⟩ prog_3_method_7_code 5 (some FieldType.long) ∈ TB := tb_of 630 (by rfl) (by rfl)
set_option maxRecDepth 100000 in
theorem tw_632 : Cond.methodLink "OrganConsole$Keywork" 47 ⟨"OrganConsole$Keywork", "span", "(III)J"⟩ ∈ TB := tb_of 632 (by rfl) (by rfl)
set_option maxRecDepth 100000 in
theorem tw_633 : Cond.static ⟨"OrganConsole$Keywork", "span", "(III)J"⟩ ∈ TB := tb_of 633 (by rfl) (by rfl)
set_option maxRecDepth 100000 in
theorem tw_634 : Cond.code ⟨"OrganConsole$Keywork", "span", "(III)J"⟩ prog_3_method_8_code 6 (some FieldType.long) ∈ TB := tb_of 634 (by rfl) (by rfl)
set_option maxRecDepth 100000 in
theorem tw_635 : Cond.methodLink "OrganConsole$Keywork" 59 ⟨"java/lang/Math", "max", "(II)I"⟩ ∈ TB := tb_of 635 (by rfl) (by rfl)
set_option maxRecDepth 100000 in
theorem tw_636 : Cond.static ⟨"java/lang/Math", "max", "(II)I"⟩ ∈ TB := tb_of 636 (by rfl) (by rfl)
set_option maxRecDepth 100000 in
theorem tw_637 : Cond.code ⟨"java/lang/Math", "max", "(II)I"⟩ prog_13_method_65_code 2 (some FieldType.int) ∈ TB := tb_of 637 (by rfl) (by rfl)
set_option maxRecDepth 100000 in
theorem tw_638 : Cond.methodLink "OrganConsole$Keywork" 65 ⟨"java/lang/Math", "min", "(II)I"⟩ ∈ TB := tb_of 638 (by rfl) (by rfl)
set_option maxRecDepth 100000 in
theorem tw_639 : Cond.static ⟨"java/lang/Math", "min", "(II)I"⟩ ∈ TB := tb_of 639 (by rfl) (by rfl)
set_option maxRecDepth 100000 in
theorem tw_640 : Cond.code ⟨"java/lang/Math", "min", "(II)I"⟩ prog_13_method_69_code 2 (some FieldType.int) ∈ TB := tb_of 640 (by rfl) (by rfl)
set_option maxRecDepth 100000 in
theorem tw_641 : Cond.constantLong "OrganConsole$Keywork" 68 (-1 : Int64) ∈ TB := tb_of 641 (by rfl) (by rfl)
set_option maxRecDepth 100000 in
theorem tw_642 : Cond.methodLink "OrganConsole$Keywork" 33 ⟨"java/lang/Long", "bitCount", "(J)I"⟩ ∈ TB := tb_of 642 (by rfl) (by rfl)
set_option maxRecDepth 100000 in
theorem tw_644 : Cond.methodLink "OrganConsoleLaw" 156 ⟨"OrganConsoleLaw", "pipe", "(LOrganConsole;II[J)I"⟩ ∈ TB := tb_of 644 (by rfl) (by rfl)
set_option maxRecDepth 100000 in
theorem tw_645 : Cond.static ⟨"OrganConsoleLaw", "pipe", "(LOrganConsole;II[J)I"⟩ ∈ TB := tb_of 645 (by rfl) (by rfl)
set_option maxRecDepth 100000 in
theorem tw_646 : Cond.codeWith ⟨"OrganConsoleLaw", "pipe", "(LOrganConsole;II[J)I"⟩ method_18_code 5 (some FieldType.int) [(0, 17, 20, 13)] ∈ TB := tb_of 646 (by rfl) (by rfl)
set_option maxRecDepth 100000 in
theorem tw_647 : Cond.methodLink "OrganConsoleLaw" 67 ⟨"OrganConsole", "pipe", "(II)Z"⟩ ∈ TB := tb_of 647 (by rfl) (by rfl)
set_option maxRecDepth 100000 in
theorem tw_648 : Cond.instanceMethod ⟨"OrganConsole", "pipe", "(II)Z"⟩ ∈ TB := tb_of 648 (by rfl) (by rfl)
set_option maxRecDepth 100000 in
theorem tw_649 : Cond.selects "OrganConsole" ⟨"OrganConsole", "pipe", "(II)Z"⟩ ⟨"OrganConsole", "pipe", "(II)Z"⟩ ∈ TB := tb_of 649 (by rfl) (by rfl)
set_option maxRecDepth 100000 in
theorem tw_650 : Cond.code ⟨"OrganConsole", "pipe", "(II)Z"⟩ prog_1_method_19_code 4 (some FieldType.boolean) ∈ TB := tb_of 650 (by rfl) (by rfl)
set_option maxRecDepth 100000 in
theorem tw_651 : Cond.methodLink "OrganConsoleLaw" 159 ⟨"OrganConsoleLaw", "lamp", "(LOrganConsole;II[J)I"⟩ ∈ TB := tb_of 651 (by rfl) (by rfl)
set_option maxRecDepth 100000 in
theorem tw_652 : Cond.static ⟨"OrganConsoleLaw", "lamp", "(LOrganConsole;II[J)I"⟩ ∈ TB := tb_of 652 (by rfl) (by rfl)
set_option maxRecDepth 100000 in
theorem tw_653 : Cond.codeWith ⟨"OrganConsoleLaw", "lamp", "(LOrganConsole;II[J)I"⟩ method_19_code 5 (some FieldType.int) [(0, 17, 20, 13)] ∈ TB := tb_of 653 (by rfl) (by rfl)
set_option maxRecDepth 100000 in
theorem tw_654 : Cond.methodLink "OrganConsoleLaw" 71 ⟨"OrganConsole", "lamp", "(II)Z"⟩ ∈ TB := tb_of 654 (by rfl) (by rfl)
set_option maxRecDepth 100000 in
theorem tw_655 : Cond.instanceMethod ⟨"OrganConsole", "lamp", "(II)Z"⟩ ∈ TB := tb_of 655 (by rfl) (by rfl)
set_option maxRecDepth 100000 in
theorem tw_656 : Cond.selects "OrganConsole" ⟨"OrganConsole", "lamp", "(II)Z"⟩ ⟨"OrganConsole", "lamp", "(II)Z"⟩ ∈ TB := tb_of 656 (by rfl) (by rfl)
set_option maxRecDepth 100000 in
theorem tw_657 : Cond.code ⟨"OrganConsole", "lamp", "(II)Z"⟩ prog_1_method_20_code 3 (some FieldType.boolean) ∈ TB := tb_of 657 (by rfl) (by rfl)
set_option maxRecDepth 100000 in
theorem tw_658 : Cond.methodLink "OrganConsole" 211 ⟨"OrganConsole$Stops", "unlike", "(JJ)J"⟩ ∈ TB := tb_of 658 (by rfl) (by rfl)
set_option maxRecDepth 100000 in
theorem tw_659 : Cond.methodLink "OrganConsoleLaw" 162 ⟨"OrganConsoleLaw", "commit", "(LOrganConsole;I[J)I"⟩ ∈ TB := tb_of 659 (by rfl) (by rfl)
set_option maxRecDepth 100000 in
theorem tw_660 : Cond.static ⟨"OrganConsoleLaw", "commit", "(LOrganConsole;I[J)I"⟩ ∈ TB := tb_of 660 (by rfl) (by rfl)
set_option maxRecDepth 100000 in
theorem tw_661 : Cond.codeWith ⟨"OrganConsoleLaw", "commit", "(LOrganConsole;I[J)I"⟩ method_20_code 4 (some FieldType.int) [(0, 9, 12, 15)] ∈ TB := tb_of 661 (by rfl) (by rfl)
set_option maxRecDepth 100000 in
theorem tw_662 : Cond.methodLink "OrganConsoleLaw" 74 ⟨"OrganConsole", "commit", "(I)I"⟩ ∈ TB := tb_of 662 (by rfl) (by rfl)
set_option maxRecDepth 100000 in
theorem tw_663 : Cond.instanceMethod ⟨"OrganConsole", "commit", "(I)I"⟩ ∈ TB := tb_of 663 (by rfl) (by rfl)
set_option maxRecDepth 100000 in
theorem tw_664 : Cond.selects "OrganConsole" ⟨"OrganConsole", "commit", "(I)I"⟩ ⟨"OrganConsole", "commit", "(I)I"⟩ ∈ TB := tb_of 664 (by rfl) (by rfl)
set_option maxRecDepth 100000 in
theorem tw_665 : Cond.code ⟨"OrganConsole", "commit", "(I)I"⟩ prog_1_method_21_code 2 (some FieldType.int) ∈ TB := tb_of 665 (by rfl) (by rfl)
set_option maxRecDepth 100000 in
theorem tw_667 : Cond.methodLink "OrganConsole" 217 ⟨"OrganConsole$Store", "write", "(LOrganConsole$Memory;I)V"⟩ ∈ TB := tb_of 667 (by rfl) (by rfl)
set_option maxRecDepth 100000 in
theorem tw_668 : Cond.instanceMethod ⟨"OrganConsole$Store", "write", "(LOrganConsole$Memory;I)V"⟩ ∈ TB := tb_of 668 (by rfl) (by rfl)
set_option maxRecDepth 100000 in
theorem tw_669 : Cond.selects "OrganConsole$Store" ⟨"OrganConsole$Store", "write", "(LOrganConsole$Memory;I)V"⟩ ⟨"OrganConsole$Store", "write", "(LOrganConsole$Memory;I)V"⟩ ∈ TB := tb_of 669 (by rfl) (by rfl)
set_option maxRecDepth 100000 in
theorem tw_670 : Cond.code ⟨"OrganConsole$Store", "write", "(LOrganConsole$Memory;I)V"⟩ prog_6_method_4_code 5 none ∈ TB := tb_of 670 (by rfl) (by rfl)
set_option maxRecDepth 100000 in
theorem tw_671 : Cond.methodLink "OrganConsole$Store" 33 ⟨"OrganConsole$Copy", "greatestVersion", "()I"⟩ ∈ TB := tb_of 671 (by rfl) (by rfl)
set_option maxRecDepth 100000 in
theorem tw_672 : Cond.instanceMethod ⟨"OrganConsole$Copy", "greatestVersion", "()I"⟩ ∈ TB := tb_of 672 (by rfl) (by rfl)
set_option maxRecDepth 100000 in
theorem tw_673 : Cond.selects "OrganConsole$Copy" ⟨"OrganConsole$Copy", "greatestVersion", "()I"⟩ ⟨"OrganConsole$Copy", "greatestVersion", "()I"⟩ ∈ TB := tb_of 673 (by rfl) (by rfl)
set_option maxRecDepth 100000 in
theorem tw_674 : Cond.code ⟨"OrganConsole$Copy", "greatestVersion", "()I"⟩ prog_2_method_2_code 3 (some FieldType.int) ∈ TB := tb_of 674 (by rfl) (by rfl)
set_option maxRecDepth 100000 in
theorem tw_675 : Cond.methodLink "OrganConsole$Copy" 26 ⟨"java/lang/Math", "max", "(II)I"⟩ ∈ TB := tb_of 675 (by rfl) (by rfl)
set_option maxRecDepth 100000 in
theorem tw_676 : Cond.methodLink "OrganConsole$Store" 37 ⟨"java/lang/Math", "max", "(II)I"⟩ ∈ TB := tb_of 676 (by rfl) (by rfl)
set_option maxRecDepth 100000 in
theorem tw_677 : Cond.methodLink "OrganConsole$Store" 43 ⟨"OrganConsole$Copy", "writePages", "(LOrganConsole$Memory;II)V"⟩ ∈ TB := tb_of 677 (by rfl) (by rfl)
set_option maxRecDepth 100000 in
theorem tw_678 : Cond.instanceMethod ⟨"OrganConsole$Copy", "writePages", "(LOrganConsole$Memory;II)V"⟩ ∈ TB := tb_of 678 (by rfl) (by rfl)
set_option maxRecDepth 100000 in
theorem tw_679 : Cond.selects "OrganConsole$Copy" ⟨"OrganConsole$Copy", "writePages", "(LOrganConsole$Memory;II)V"⟩ ⟨"OrganConsole$Copy", "writePages", "(LOrganConsole$Memory;II)V"⟩ ∈ TB := tb_of 679 (by rfl) (by rfl)
set_option maxRecDepth 100000 in
theorem tw_680 : Cond.code ⟨"OrganConsole$Copy", "writePages", "(LOrganConsole$Memory;II)V"⟩ prog_2_method_4_code 5 none ∈ TB := tb_of 680 (by rfl) (by rfl)
set_option maxRecDepth 100000 in
theorem tw_681 : Cond.methodLink "OrganConsole$Copy" 32 ⟨"OrganConsole$Memory", "become", "(LOrganConsole$Memory;)V"⟩ ∈ TB := tb_of 681 (by rfl) (by rfl)
set_option maxRecDepth 100000 in
theorem tw_682 : Cond.methodLink "OrganConsoleLaw" 169 ⟨"OrganConsoleLaw", "spoil", "(LOrganConsole;II[J)I"⟩ ∈ TB := tb_of 682 (by rfl) (by rfl)
set_option maxRecDepth 100000 in
theorem tw_683 : Cond.static ⟨"OrganConsoleLaw", "spoil", "(LOrganConsole;II[J)I"⟩ ∈ TB := tb_of 683 (by rfl) (by rfl)
set_option maxRecDepth 100000 in
theorem tw_684 : Cond.codeWith ⟨"OrganConsoleLaw", "spoil", "(LOrganConsole;II[J)I"⟩ method_21_code 5 (some FieldType.int) [(0, 10, 13, 13), (0, 10, 17, 17)] ∈ TB := tb_of 684 (by rfl) (by rfl)
set_option maxRecDepth 100000 in
theorem tw_685 : Cond.methodLink "OrganConsoleLaw" 77 ⟨"OrganConsole", "spoil", "(II)I"⟩ ∈ TB := tb_of 685 (by rfl) (by rfl)
set_option maxRecDepth 100000 in
theorem tw_686 : Cond.instanceMethod ⟨"OrganConsole", "spoil", "(II)I"⟩ ∈ TB := tb_of 686 (by rfl) (by rfl)
set_option maxRecDepth 100000 in
theorem tw_687 : Cond.selects "OrganConsole" ⟨"OrganConsole", "spoil", "(II)I"⟩ ⟨"OrganConsole", "spoil", "(II)I"⟩ ∈ TB := tb_of 687 (by rfl) (by rfl)
set_option maxRecDepth 100000 in
theorem tw_688 : Cond.code ⟨"OrganConsole", "spoil", "(II)I"⟩ prog_1_method_23_code 4 (some FieldType.int) ∈ TB := tb_of 688 (by rfl) (by rfl)
set_option maxRecDepth 100000 in
theorem tw_690 : Cond.methodLink "OrganConsole" 230 ⟨"OrganConsole$Store", "copyAt", "(I)LOrganConsole$Copy;"⟩ ∈ TB := tb_of 690 (by rfl) (by rfl)
set_option maxRecDepth 100000 in
theorem tw_692 : Cond.methodLink "OrganConsoleLaw" 172 ⟨"OrganConsoleLaw", "fault", "(LOrganConsole;III[J)I"⟩ ∈ TB := tb_of 692 (by rfl) (by rfl)
set_option maxRecDepth 100000 in
theorem tw_693 : Cond.static ⟨"OrganConsoleLaw", "fault", "(LOrganConsole;III[J)I"⟩ ∈ TB := tb_of 693 (by rfl) (by rfl)
set_option maxRecDepth 100000 in
theorem tw_694 : Cond.codeWith ⟨"OrganConsoleLaw", "fault", "(LOrganConsole;III[J)I"⟩ method_22_code 6 (some FieldType.int) [(0, 12, 15, 13), (0, 12, 19, 15)] ∈ TB := tb_of 694 (by rfl) (by rfl)
set_option maxRecDepth 100000 in
theorem tw_695 : Cond.methodLink "OrganConsoleLaw" 80 ⟨"OrganConsole", "fault", "(III)I"⟩ ∈ TB := tb_of 695 (by rfl) (by rfl)
set_option maxRecDepth 100000 in
theorem tw_696 : Cond.instanceMethod ⟨"OrganConsole", "fault", "(III)I"⟩ ∈ TB := tb_of 696 (by rfl) (by rfl)
set_option maxRecDepth 100000 in
theorem tw_697 : Cond.selects "OrganConsole" ⟨"OrganConsole", "fault", "(III)I"⟩ ⟨"OrganConsole", "fault", "(III)I"⟩ ∈ TB := tb_of 697 (by rfl) (by rfl)
set_option maxRecDepth 100000 in
theorem tw_698 : Cond.code ⟨"OrganConsole", "fault", "(III)I"⟩ prog_1_method_24_code 6 (some FieldType.int) ∈ TB := tb_of 698 (by rfl) (by rfl)
set_option maxRecDepth 100000 in
theorem tw_699 : Cond.methodLink "OrganConsole" 245 ⟨"OrganConsole", "checkWire", "(II)V"⟩ ∈ TB := tb_of 699 (by rfl) (by rfl)
set_option maxRecDepth 100000 in
theorem tw_701 : Cond.instanceMethod ⟨"OrganConsole", "checkWire", "(II)V"⟩ ∈ TB := tb_of 701 (by rfl) (by rfl)
set_option maxRecDepth 100000 in
theorem tw_702 : Cond.code ⟨"OrganConsole", "checkWire", "(II)V"⟩ prog_1_method_31_code 3 none ∈ TB := tb_of 702 (by rfl) (by rfl)
set_option maxRecDepth 100000 in
theorem tw_703 : Cond.methodLink "OrganConsole" 285 ⟨"OrganConsole", "wiresOf", "(I)I"⟩ ∈ TB := tb_of 703 (by rfl) (by rfl)
set_option maxRecDepth 100000 in
theorem tw_705 : Cond.instanceMethod ⟨"OrganConsole", "wiresOf", "(I)I"⟩ ∈ TB := tb_of 705 (by rfl) (by rfl)
set_option maxRecDepth 100000 in
theorem tw_706 : Cond.code ⟨"OrganConsole", "wiresOf", "(I)I"⟩ prog_1_method_34_code 2 (some FieldType.int) ∈ TB := tb_of 706 (by rfl) (by rfl)
set_option maxRecDepth 100000 in
theorem tw_709 : Cond.methodLink "OrganConsoleLaw" 179 ⟨"OrganConsoleLaw", "count", "(LOrganConsole;I[J)I"⟩ ∈ TB := tb_of 709 (by rfl) (by rfl)
set_option maxRecDepth 100000 in
theorem tw_710 : Cond.static ⟨"OrganConsoleLaw", "count", "(LOrganConsole;I[J)I"⟩ ∈ TB := tb_of 710 (by rfl) (by rfl)
set_option maxRecDepth 100000 in
theorem tw_711 : Cond.codeWith ⟨"OrganConsoleLaw", "count", "(LOrganConsole;I[J)I"⟩ method_23_code 4 (some FieldType.int) [(0, 9, 12, 15)] ∈ TB := tb_of 711 (by rfl) (by rfl)
set_option maxRecDepth 100000 in
theorem tw_712 : Cond.methodLink "OrganConsoleLaw" 83 ⟨"OrganConsole", "count", "(I)I"⟩ ∈ TB := tb_of 712 (by rfl) (by rfl)
set_option maxRecDepth 100000 in
theorem tw_713 : Cond.instanceMethod ⟨"OrganConsole", "count", "(I)I"⟩ ∈ TB := tb_of 713 (by rfl) (by rfl)
set_option maxRecDepth 100000 in
theorem tw_714 : Cond.selects "OrganConsole" ⟨"OrganConsole", "count", "(I)I"⟩ ⟨"OrganConsole", "count", "(I)I"⟩ ∈ TB := tb_of 714 (by rfl) (by rfl)
set_option maxRecDepth 100000 in
theorem tw_715 : Cond.code ⟨"OrganConsole", "count", "(I)I"⟩ prog_1_method_26_code 2 (some FieldType.int) ∈ TB := tb_of 715 (by rfl) (by rfl)
set_option maxRecDepth 100000 in
theorem tw_716 : Cond.methodLink "OrganConsole" 257 ⟨"OrganConsole$Keywork", "keysDown", "()I"⟩ ∈ TB := tb_of 716 (by rfl) (by rfl)
set_option maxRecDepth 100000 in
theorem tw_717 : Cond.instanceMethod ⟨"OrganConsole$Keywork", "keysDown", "()I"⟩ ∈ TB := tb_of 717 (by rfl) (by rfl)
set_option maxRecDepth 100000 in
theorem tw_718 : Cond.selects "OrganConsole$Keywork" ⟨"OrganConsole$Keywork", "keysDown", "()I"⟩ ⟨"OrganConsole$Keywork", "keysDown", "()I"⟩ ∈ TB := tb_of 718 (by rfl) (by rfl)
set_option maxRecDepth 100000 in
theorem tw_719 : Cond.code ⟨"OrganConsole$Keywork", "keysDown", "()I"⟩ prog_3_method_3_code 3 (some FieldType.int) ∈ TB := tb_of 719 (by rfl) (by rfl)
set_option maxRecDepth 100000 in
theorem tw_720 : Cond.methodLink "OrganConsole" 260 ⟨"OrganConsole$Stops", "pulls", "()I"⟩ ∈ TB := tb_of 720 (by rfl) (by rfl)
set_option maxRecDepth 100000 in
theorem tw_721 : Cond.instanceMethod ⟨"OrganConsole$Stops", "pulls", "()I"⟩ ∈ TB := tb_of 721 (by rfl) (by rfl)
set_option maxRecDepth 100000 in
theorem tw_722 : Cond.selects "OrganConsole$Stops" ⟨"OrganConsole$Stops", "pulls", "()I"⟩ ⟨"OrganConsole$Stops", "pulls", "()I"⟩ ∈ TB := tb_of 722 (by rfl) (by rfl)
set_option maxRecDepth 100000 in
theorem tw_723 : Cond.code ⟨"OrganConsole$Stops", "pulls", "()I"⟩ prog_5_method_9_code 3 (some FieldType.int) ∈ TB := tb_of 723 (by rfl) (by rfl)
set_option maxRecDepth 100000 in
theorem tw_724 : Cond.methodLink "OrganConsole" 263 ⟨"OrganConsole", "openPipes", "()I"⟩ ∈ TB := tb_of 724 (by rfl) (by rfl)
set_option maxRecDepth 100000 in
theorem tw_726 : Cond.instanceMethod ⟨"OrganConsole", "openPipes", "()I"⟩ ∈ TB := tb_of 726 (by rfl) (by rfl)
set_option maxRecDepth 100000 in
theorem tw_727 : Cond.code ⟨"OrganConsole", "openPipes", "()I"⟩ prog_1_method_40_code 5 (some FieldType.int) ∈ TB := tb_of 727 (by rfl) (by rfl)
set_option maxRecDepth 100000 in
theorem tw_728 : Cond.methodLink "OrganConsole" 266 ⟨"OrganConsole$Keywork", "notesReached", "()I"⟩ ∈ TB := tb_of 728 (by rfl) (by rfl)
set_option maxRecDepth 100000 in
theorem tw_729 : Cond.instanceMethod ⟨"OrganConsole$Keywork", "notesReached", "()I"⟩ ∈ TB := tb_of 729 (by rfl) (by rfl)
