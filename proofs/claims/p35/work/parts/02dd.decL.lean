theorem dL_holds_386 : decode cL_holds 386 = .ok (.if_icmp .le 29, 3) := by decide +kernel
theorem dL_holds_389 : decode cL_holds 389 = .ok (.iload 17, 2) := by decide +kernel
theorem dL_holds_391 : decode cL_holds 391 = .ok (.bipush 20, 2) := by decide +kernel
theorem dL_holds_393 : decode cL_holds 393 = .ok (.if_icmp .ge 22, 3) := by decide +kernel
theorem dL_holds_396 : decode cL_holds 396 = .ok (.aload_n 0, 1) := by decide +kernel
theorem dL_holds_397 : decode cL_holds 397 = .ok (.iconst 3, 1) := by decide +kernel
theorem dL_holds_398 : decode cL_holds 398 = .ok (.iload 17, 2) := by decide +kernel
theorem dL_holds_400 : decode cL_holds 400 = .ok (.iload 13, 2) := by decide +kernel
theorem dL_holds_402 : decode cL_holds 402 = .ok (.iconst 0, 1) := by decide +kernel
theorem dL_holds_403 : decode cL_holds 403 = .ok (.invokestatic 196, 3) := by decide +kernel
theorem dL_holds_406 : decode cL_holds 406 = .ok (.iload 7, 2) := by decide +kernel
theorem dL_holds_408 : decode cL_holds 408 = .ok (.if_icmp .ne 7, 3) := by decide +kernel
theorem dL_holds_411 : decode cL_holds 411 = .ok (.iconst 1, 1) := by decide +kernel
theorem dL_holds_412 : decode cL_holds 412 = .ok (.goto 4, 3) := by decide +kernel
theorem dL_holds_415 : decode cL_holds 415 = .ok (.iconst 0, 1) := by decide +kernel
theorem dL_holds_416 : decode cL_holds 416 = .ok (.istore 11, 2) := by decide +kernel
theorem dL_holds_418 : decode cL_holds 418 = .ok (.iload 17, 2) := by decide +kernel
theorem dL_holds_420 : decode cL_holds 420 = .ok (.istore 15, 2) := by decide +kernel
theorem dL_holds_422 : decode cL_holds 422 = .ok (.iinc 14 1, 3) := by decide +kernel
theorem dL_holds_425 : decode cL_holds 425 = .ok (.goto (-78), 3) := by decide +kernel
theorem dL_holds_428 : decode cL_holds 428 = .ok (.iload 4, 2) := by decide +kernel
theorem dL_holds_430 : decode cL_holds 430 = .ok (.iload 14, 2) := by decide +kernel
theorem dL_holds_432 : decode cL_holds 432 = .ok (.iadd, 1) := by decide +kernel
theorem dL_holds_433 : decode cL_holds 433 = .ok (.istore 4, 2) := by decide +kernel
theorem dL_holds_435 : decode cL_holds 435 = .ok (.iload 11, 2) := by decide +kernel
theorem dL_holds_437 : decode cL_holds 437 = .ok (.ifCond .eq 37, 3) := by decide +kernel
theorem dL_holds_440 : decode cL_holds 440 = .ok (.iload 16, 2) := by decide +kernel
theorem dL_holds_442 : decode cL_holds 442 = .ok (.iload 14, 2) := by decide +kernel
theorem dL_holds_444 : decode cL_holds 444 = .ok (.if_icmp .gt 30, 3) := by decide +kernel
theorem dL_holds_447 : decode cL_holds 447 = .ok (.iload 16, 2) := by decide +kernel
theorem dL_holds_449 : decode cL_holds 449 = .ok (.ifCond .ne 7, 3) := by decide +kernel
theorem dL_holds_452 : decode cL_holds 452 = .ok (.iconst 1, 1) := by decide +kernel
theorem dL_holds_453 : decode cL_holds 453 = .ok (.goto 4, 3) := by decide +kernel
theorem dL_holds_456 : decode cL_holds 456 = .ok (.iconst 0, 1) := by decide +kernel
theorem dL_holds_457 : decode cL_holds 457 = .ok (.iload 14, 2) := by decide +kernel
theorem dL_holds_459 : decode cL_holds 459 = .ok (.ifCond .ne 7, 3) := by decide +kernel
theorem dL_holds_462 : decode cL_holds 462 = .ok (.iconst 1, 1) := by decide +kernel
theorem dL_holds_463 : decode cL_holds 463 = .ok (.goto 4, 3) := by decide +kernel
theorem dL_holds_466 : decode cL_holds 466 = .ok (.iconst 0, 1) := by decide +kernel
theorem dL_holds_467 : decode cL_holds 467 = .ok (.if_icmp .ne 7, 3) := by decide +kernel
theorem dL_holds_470 : decode cL_holds 470 = .ok (.iconst 1, 1) := by decide +kernel
theorem dL_holds_471 : decode cL_holds 471 = .ok (.goto 4, 3) := by decide +kernel
theorem dL_holds_474 : decode cL_holds 474 = .ok (.iconst 0, 1) := by decide +kernel
theorem dL_holds_475 : decode cL_holds 475 = .ok (.istore 11, 2) := by decide +kernel
theorem dL_holds_477 : decode cL_holds 477 = .ok (.iinc 13 1, 3) := by decide +kernel
theorem dL_holds_480 : decode cL_holds 480 = .ok (.goto (-164), 3) := by decide +kernel
theorem dL_holds_483 : decode cL_holds 483 = .ok (.aload_n 0, 1) := by decide +kernel
theorem dL_holds_484 : decode cL_holds 484 = .ok (.iconst 2, 1) := by decide +kernel
theorem dL_holds_485 : decode cL_holds 485 = .ok (.iconst 5, 1) := by decide +kernel
theorem dL_holds_486 : decode cL_holds 486 = .ok (.iconst 0, 1) := by decide +kernel
theorem dL_holds_487 : decode cL_holds 487 = .ok (.iconst 0, 1) := by decide +kernel
theorem dL_holds_488 : decode cL_holds 488 = .ok (.invokestatic 196, 3) := by decide +kernel
theorem dL_holds_491 : decode cL_holds 491 = .ok (.istore 13, 2) := by decide +kernel
theorem dL_holds_493 : decode cL_holds 493 = .ok (.iload 11, 2) := by decide +kernel
theorem dL_holds_495 : decode cL_holds 495 = .ok (.ifCond .eq 177, 3) := by decide +kernel
theorem dL_holds_498 : decode cL_holds 498 = .ok (.aload_n 0, 1) := by decide +kernel
theorem dL_holds_499 : decode cL_holds 499 = .ok (.iconst 2, 1) := by decide +kernel
theorem dL_holds_500 : decode cL_holds 500 = .ok (.iconst 3, 1) := by decide +kernel
theorem dL_holds_501 : decode cL_holds 501 = .ok (.iconst 0, 1) := by decide +kernel
theorem dL_holds_502 : decode cL_holds 502 = .ok (.iconst 0, 1) := by decide +kernel
theorem dL_holds_503 : decode cL_holds 503 = .ok (.invokestatic 196, 3) := by decide +kernel
theorem dL_holds_506 : decode cL_holds 506 = .ok (.iload_n 2, 1) := by decide +kernel
theorem dL_holds_507 : decode cL_holds 507 = .ok (.if_icmp .ne 165, 3) := by decide +kernel
theorem dL_holds_510 : decode cL_holds 510 = .ok (.aload_n 0, 1) := by decide +kernel
theorem dL_holds_511 : decode cL_holds 511 = .ok (.iconst 2, 1) := by decide +kernel
theorem dL_holds_512 : decode cL_holds 512 = .ok (.iconst 4, 1) := by decide +kernel
theorem dL_holds_513 : decode cL_holds 513 = .ok (.iconst 0, 1) := by decide +kernel
theorem dL_holds_514 : decode cL_holds 514 = .ok (.iconst 0, 1) := by decide +kernel
theorem dL_holds_515 : decode cL_holds 515 = .ok (.invokestatic 196, 3) := by decide +kernel
theorem dL_holds_518 : decode cL_holds 518 = .ok (.iload_n 3, 1) := by decide +kernel
theorem dL_holds_519 : decode cL_holds 519 = .ok (.if_icmp .ne 153, 3) := by decide +kernel
theorem dL_holds_522 : decode cL_holds 522 = .ok (.aload_n 0, 1) := by decide +kernel
theorem dL_holds_523 : decode cL_holds 523 = .ok (.iconst 2, 1) := by decide +kernel
theorem dL_holds_524 : decode cL_holds 524 = .ok (.bipush 6, 2) := by decide +kernel
theorem dL_holds_526 : decode cL_holds 526 = .ok (.iconst 0, 1) := by decide +kernel
theorem dL_holds_527 : decode cL_holds 527 = .ok (.iconst 0, 1) := by decide +kernel
theorem dL_holds_528 : decode cL_holds 528 = .ok (.invokestatic 196, 3) := by decide +kernel
theorem dL_holds_531 : decode cL_holds 531 = .ok (.iload 5, 2) := by decide +kernel
theorem dL_holds_533 : decode cL_holds 533 = .ok (.if_icmp .ne 139, 3) := by decide +kernel
theorem dL_holds_536 : decode cL_holds 536 = .ok (.iload 13, 2) := by decide +kernel
theorem dL_holds_538 : decode cL_holds 538 = .ok (.bipush 20, 2) := by decide +kernel
theorem dL_holds_540 : decode cL_holds 540 = .ok (.iload_n 2, 1) := by decide +kernel
theorem dL_holds_541 : decode cL_holds 541 = .ok (.isub, 1) := by decide +kernel
theorem dL_holds_542 : decode cL_holds 542 = .ok (.if_icmp .gt 130, 3) := by decide +kernel
theorem dL_holds_545 : decode cL_holds 545 = .ok (.iload 13, 2) := by decide +kernel
theorem dL_holds_547 : decode cL_holds 547 = .ok (.ifCond .ne 7, 3) := by decide +kernel
theorem dL_holds_550 : decode cL_holds 550 = .ok (.iconst 1, 1) := by decide +kernel
theorem dL_holds_551 : decode cL_holds 551 = .ok (.goto 4, 3) := by decide +kernel
theorem dL_holds_554 : decode cL_holds 554 = .ok (.iconst 0, 1) := by decide +kernel
theorem dL_holds_555 : decode cL_holds 555 = .ok (.iload_n 2, 1) := by decide +kernel
theorem dL_holds_556 : decode cL_holds 556 = .ok (.bipush 20, 2) := by decide +kernel
theorem dL_holds_558 : decode cL_holds 558 = .ok (.if_icmp .ne 7, 3) := by decide +kernel
theorem dL_holds_561 : decode cL_holds 561 = .ok (.iconst 1, 1) := by decide +kernel
theorem dL_holds_562 : decode cL_holds 562 = .ok (.goto 4, 3) := by decide +kernel
theorem dL_holds_565 : decode cL_holds 565 = .ok (.iconst 0, 1) := by decide +kernel
theorem dL_holds_566 : decode cL_holds 566 = .ok (.if_icmp .ne 106, 3) := by decide +kernel
theorem dL_holds_569 : decode cL_holds 569 = .ok (.aload_n 0, 1) := by decide +kernel
theorem dL_holds_570 : decode cL_holds 570 = .ok (.bipush 6, 2) := by decide +kernel
theorem dL_holds_572 : decode cL_holds 572 = .ok (.iload 7, 2) := by decide +kernel
theorem dL_holds_574 : decode cL_holds 574 = .ok (.iconst 1, 1) := by decide +kernel
theorem dL_holds_575 : decode cL_holds 575 = .ok (.iconst 0, 1) := by decide +kernel
theorem dL_holds_576 : decode cL_holds 576 = .ok (.invokestatic 196, 3) := by decide +kernel
theorem dL_holds_579 : decode cL_holds 579 = .ok (.iload 10, 2) := by decide +kernel
theorem dL_holds_581 : decode cL_holds 581 = .ok (.if_icmp .ne 91, 3) := by decide +kernel
theorem dL_holds_584 : decode cL_holds 584 = .ok (.iload 4, 2) := by decide +kernel
theorem dL_holds_586 : decode cL_holds 586 = .ok (.iload 10, 2) := by decide +kernel
theorem dL_holds_588 : decode cL_holds 588 = .ok (.if_icmp .ne 84, 3) := by decide +kernel
theorem dL_holds_591 : decode cL_holds 591 = .ok (.aload_n 0, 1) := by decide +kernel
theorem dL_holds_592 : decode cL_holds 592 = .ok (.bipush 6, 2) := by decide +kernel
theorem dL_holds_594 : decode cL_holds 594 = .ok (.iload 7, 2) := by decide +kernel
theorem dL_holds_596 : decode cL_holds 596 = .ok (.iconst 2, 1) := by decide +kernel
theorem dL_holds_597 : decode cL_holds 597 = .ok (.iconst 0, 1) := by decide +kernel
theorem dL_holds_598 : decode cL_holds 598 = .ok (.invokestatic 196, 3) := by decide +kernel
theorem dL_holds_601 : decode cL_holds 601 = .ok (.iload 8, 2) := by decide +kernel
theorem dL_holds_603 : decode cL_holds 603 = .ok (.if_icmp .ne 69, 3) := by decide +kernel
theorem dL_holds_606 : decode cL_holds 606 = .ok (.aload_n 0, 1) := by decide +kernel
theorem dL_holds_607 : decode cL_holds 607 = .ok (.bipush 6, 2) := by decide +kernel
theorem dL_holds_609 : decode cL_holds 609 = .ok (.iload 7, 2) := by decide +kernel
theorem dL_holds_611 : decode cL_holds 611 = .ok (.iconst 3, 1) := by decide +kernel
theorem dL_holds_612 : decode cL_holds 612 = .ok (.iconst 0, 1) := by decide +kernel
theorem dL_holds_613 : decode cL_holds 613 = .ok (.invokestatic 196, 3) := by decide +kernel
theorem dL_holds_616 : decode cL_holds 616 = .ok (.iload 9, 2) := by decide +kernel
theorem dL_holds_618 : decode cL_holds 618 = .ok (.if_icmp .ne 54, 3) := by decide +kernel
theorem dL_holds_621 : decode cL_holds 621 = .ok (.aload_n 0, 1) := by decide +kernel
theorem dL_holds_622 : decode cL_holds 622 = .ok (.bipush 19, 2) := by decide +kernel
theorem dL_holds_624 : decode cL_holds 624 = .ok (.iload 7, 2) := by decide +kernel
theorem dL_holds_626 : decode cL_holds 626 = .ok (.iload 7, 2) := by decide +kernel
theorem dL_holds_628 : decode cL_holds 628 = .ok (.iconst 0, 1) := by decide +kernel
theorem dL_holds_629 : decode cL_holds 629 = .ok (.invokestatic 196, 3) := by decide +kernel
theorem dL_holds_632 : decode cL_holds 632 = .ok (.iload 10, 2) := by decide +kernel
theorem dL_holds_634 : decode cL_holds 634 = .ok (.if_icmp .ne 38, 3) := by decide +kernel
theorem dL_holds_637 : decode cL_holds 637 = .ok (.aload_n 0, 1) := by decide +kernel
theorem dL_holds_638 : decode cL_holds 638 = .ok (.bipush 6, 2) := by decide +kernel
theorem dL_holds_640 : decode cL_holds 640 = .ok (.iload 7, 2) := by decide +kernel
theorem dL_holds_642 : decode cL_holds 642 = .ok (.iconst 4, 1) := by decide +kernel
theorem dL_holds_643 : decode cL_holds 643 = .ok (.iconst 0, 1) := by decide +kernel
theorem dL_holds_644 : decode cL_holds 644 = .ok (.invokestatic 196, 3) := by decide +kernel
theorem dL_holds_647 : decode cL_holds 647 = .ok (.ifCond .ne 7, 3) := by decide +kernel
theorem dL_holds_650 : decode cL_holds 650 = .ok (.iconst 1, 1) := by decide +kernel
theorem dL_holds_651 : decode cL_holds 651 = .ok (.goto 4, 3) := by decide +kernel
theorem dL_holds_654 : decode cL_holds 654 = .ok (.iconst 0, 1) := by decide +kernel
theorem dL_holds_655 : decode cL_holds 655 = .ok (.iload 10, 2) := by decide +kernel
theorem dL_holds_657 : decode cL_holds 657 = .ok (.ifCond .ne 7, 3) := by decide +kernel
theorem dL_holds_660 : decode cL_holds 660 = .ok (.iconst 1, 1) := by decide +kernel
theorem dL_holds_661 : decode cL_holds 661 = .ok (.goto 4, 3) := by decide +kernel
theorem dL_holds_664 : decode cL_holds 664 = .ok (.iconst 0, 1) := by decide +kernel
theorem dL_holds_665 : decode cL_holds 665 = .ok (.if_icmp .ne 7, 3) := by decide +kernel
theorem dL_holds_668 : decode cL_holds 668 = .ok (.iconst 1, 1) := by decide +kernel
theorem dL_holds_669 : decode cL_holds 669 = .ok (.goto 4, 3) := by decide +kernel
theorem dL_holds_672 : decode cL_holds 672 = .ok (.iconst 0, 1) := by decide +kernel
theorem dL_holds_673 : decode cL_holds 673 = .ok (.ireturn, 1) := by decide +kernel
theorem dL_act_0 : decode cL_act 0 = .ok (.aload_n 0, 1) := by decide +kernel
theorem dL_act_1 : decode cL_act 1 = .ok (.iconst 2, 1) := by decide +kernel
theorem dL_act_2 : decode cL_act 2 = .ok (.iconst 0, 1) := by decide +kernel
theorem dL_act_3 : decode cL_act 3 = .ok (.iconst 0, 1) := by decide +kernel
theorem dL_act_4 : decode cL_act 4 = .ok (.iconst 0, 1) := by decide +kernel
theorem dL_act_5 : decode cL_act 5 = .ok (.invokestatic 196, 3) := by decide +kernel
theorem dL_act_8 : decode cL_act 8 = .ok (.istore_n 2, 1) := by decide +kernel
theorem dL_act_9 : decode cL_act 9 = .ok (.aload_n 0, 1) := by decide +kernel
theorem dL_act_10 : decode cL_act 10 = .ok (.iconst 2, 1) := by decide +kernel
theorem dL_act_11 : decode cL_act 11 = .ok (.iconst 1, 1) := by decide +kernel
theorem dL_act_12 : decode cL_act 12 = .ok (.iconst 0, 1) := by decide +kernel
theorem dL_act_13 : decode cL_act 13 = .ok (.iconst 0, 1) := by decide +kernel
theorem dL_act_14 : decode cL_act 14 = .ok (.invokestatic 196, 3) := by decide +kernel
theorem dL_act_17 : decode cL_act 17 = .ok (.istore_n 3, 1) := by decide +kernel
theorem dL_act_18 : decode cL_act 18 = .ok (.iload_n 1, 1) := by decide +kernel
theorem dL_act_19 : decode cL_act 19 = .ok (.bipush 16, 2) := by decide +kernel
theorem dL_act_21 : decode cL_act 21 = .ok (.idiv, 1) := by decide +kernel
theorem dL_act_22 : decode cL_act 22 = .ok (.iload_n 2, 1) := by decide +kernel
theorem dL_act_23 : decode cL_act 23 = .ok (.irem, 1) := by decide +kernel
theorem dL_act_24 : decode cL_act 24 = .ok (.istore 4, 2) := by decide +kernel
theorem dL_act_26 : decode cL_act 26 = .ok (.iload_n 1, 1) := by decide +kernel
theorem dL_act_27 : decode cL_act 27 = .ok (.bipush 96, 2) := by decide +kernel
theorem dL_act_29 : decode cL_act 29 = .ok (.idiv, 1) := by decide +kernel
theorem dL_act_30 : decode cL_act 30 = .ok (.iload_n 3, 1) := by decide +kernel
theorem dL_act_31 : decode cL_act 31 = .ok (.irem, 1) := by decide +kernel
theorem dL_act_32 : decode cL_act 32 = .ok (.istore 5, 2) := by decide +kernel
theorem dL_act_34 : decode cL_act 34 = .ok (.iload_n 1, 1) := by decide +kernel
theorem dL_act_35 : decode cL_act 35 = .ok (.sipush 960, 3) := by decide +kernel
theorem dL_act_38 : decode cL_act 38 = .ok (.idiv, 1) := by decide +kernel
theorem dL_act_39 : decode cL_act 39 = .ok (.bipush 20, 2) := by decide +kernel
theorem dL_act_41 : decode cL_act 41 = .ok (.irem, 1) := by decide +kernel
theorem dL_act_42 : decode cL_act 42 = .ok (.istore 6, 2) := by decide +kernel
theorem dL_act_44 : decode cL_act 44 = .ok (.iload_n 1, 1) := by decide +kernel
theorem dL_act_45 : decode cL_act 45 = .ok (.bipush 16, 2) := by decide +kernel
theorem dL_act_47 : decode cL_act 47 = .ok (.irem, 1) := by decide +kernel
theorem dL_act_48 : decode cL_act 48 = .ok (.tableswitch 280 0 14 #[76, 95, 111, 111, 111, 139, 139, 151, 163, 163, 187, 187, 206, 222, 265], 76) := by decide +kernel
theorem dL_act_124 : decode cL_act 124 = .ok (.iload_n 2, 1) := by decide +kernel
theorem dL_act_125 : decode cL_act 125 = .ok (.iconst 4, 1) := by decide +kernel
theorem dL_act_126 : decode cL_act 126 = .ok (.if_icmp .ge 15, 3) := by decide +kernel
theorem dL_act_129 : decode cL_act 129 = .ok (.aload_n 0, 1) := by decide +kernel
theorem dL_act_130 : decode cL_act 130 = .ok (.bipush 11, 2) := by decide +kernel
theorem dL_act_132 : decode cL_act 132 = .ok (.iconst 0, 1) := by decide +kernel
theorem dL_act_133 : decode cL_act 133 = .ok (.iconst 0, 1) := by decide +kernel
theorem dL_act_134 : decode cL_act 134 = .ok (.iconst 0, 1) := by decide +kernel
theorem dL_act_135 : decode cL_act 135 = .ok (.invokestatic 196, 3) := by decide +kernel
theorem dL_act_138 : decode cL_act 138 = .ok (.goto 4, 3) := by decide +kernel
theorem dL_act_141 : decode cL_act 141 = .ok (.iconst (-1), 1) := by decide +kernel
theorem dL_act_142 : decode cL_act 142 = .ok (.ireturn, 1) := by decide +kernel
theorem dL_act_143 : decode cL_act 143 = .ok (.aload_n 0, 1) := by decide +kernel
theorem dL_act_144 : decode cL_act 144 = .ok (.bipush 10, 2) := by decide +kernel
theorem dL_act_146 : decode cL_act 146 = .ok (.iload_n 1, 1) := by decide +kernel
theorem dL_act_147 : decode cL_act 147 = .ok (.bipush 16, 2) := by decide +kernel
theorem dL_act_149 : decode cL_act 149 = .ok (.idiv, 1) := by decide +kernel
theorem dL_act_150 : decode cL_act 150 = .ok (.bipush 10, 2) := by decide +kernel
theorem dL_act_152 : decode cL_act 152 = .ok (.irem, 1) := by decide +kernel
theorem dL_act_153 : decode cL_act 153 = .ok (.iconst 0, 1) := by decide +kernel
theorem dL_act_154 : decode cL_act 154 = .ok (.iconst 0, 1) := by decide +kernel
theorem dL_act_155 : decode cL_act 155 = .ok (.invokestatic 196, 3) := by decide +kernel
theorem dL_act_158 : decode cL_act 158 = .ok (.ireturn, 1) := by decide +kernel
theorem dL_act_159 : decode cL_act 159 = .ok (.aload_n 0, 1) := by decide +kernel
theorem dL_act_160 : decode cL_act 160 = .ok (.bipush 12, 2) := by decide +kernel
theorem dL_act_162 : decode cL_act 162 = .ok (.iload 4, 2) := by decide +kernel
theorem dL_act_164 : decode cL_act 164 = .ok (.iload_n 1, 1) := by decide +kernel
theorem dL_act_165 : decode cL_act 165 = .ok (.sipush 19200, 3) := by decide +kernel
theorem dL_act_168 : decode cL_act 168 = .ok (.idiv, 1) := by decide +kernel
theorem dL_act_169 : decode cL_act 169 = .ok (.bipush 6, 2) := by decide +kernel
theorem dL_act_171 : decode cL_act 171 = .ok (.irem, 1) := by decide +kernel
theorem dL_act_172 : decode cL_act 172 = .ok (.ifCond .ne 7, 3) := by decide +kernel
theorem dL_act_175 : decode cL_act 175 = .ok (.iconst (-1), 1) := by decide +kernel
theorem dL_act_176 : decode cL_act 176 = .ok (.goto 5, 3) := by decide +kernel
theorem dL_act_179 : decode cL_act 179 = .ok (.iload 5, 2) := by decide +kernel
theorem dL_act_181 : decode cL_act 181 = .ok (.iload 6, 2) := by decide +kernel
theorem dL_act_183 : decode cL_act 183 = .ok (.invokestatic 196, 3) := by decide +kernel
theorem dL_act_186 : decode cL_act 186 = .ok (.ireturn, 1) := by decide +kernel
theorem dL_act_187 : decode cL_act 187 = .ok (.aload_n 0, 1) := by decide +kernel
theorem dL_act_188 : decode cL_act 188 = .ok (.bipush 13, 2) := by decide +kernel
theorem dL_act_190 : decode cL_act 190 = .ok (.iload 4, 2) := by decide +kernel
theorem dL_act_192 : decode cL_act 192 = .ok (.iload 5, 2) := by decide +kernel
theorem dL_act_194 : decode cL_act 194 = .ok (.iconst 0, 1) := by decide +kernel
theorem dL_act_195 : decode cL_act 195 = .ok (.invokestatic 196, 3) := by decide +kernel
theorem dL_act_198 : decode cL_act 198 = .ok (.ireturn, 1) := by decide +kernel
theorem dL_act_199 : decode cL_act 199 = .ok (.aload_n 0, 1) := by decide +kernel
theorem dL_act_200 : decode cL_act 200 = .ok (.bipush 14, 2) := by decide +kernel
theorem dL_act_202 : decode cL_act 202 = .ok (.iload 4, 2) := by decide +kernel
theorem dL_act_204 : decode cL_act 204 = .ok (.iload 5, 2) := by decide +kernel
theorem dL_act_206 : decode cL_act 206 = .ok (.iconst 0, 1) := by decide +kernel
theorem dL_act_207 : decode cL_act 207 = .ok (.invokestatic 196, 3) := by decide +kernel
theorem dL_act_210 : decode cL_act 210 = .ok (.ireturn, 1) := by decide +kernel
theorem dL_act_211 : decode cL_act 211 = .ok (.aload_n 0, 1) := by decide +kernel
theorem dL_act_212 : decode cL_act 212 = .ok (.iload 5, 2) := by decide +kernel
theorem dL_act_214 : decode cL_act 214 = .ok (.iload 6, 2) := by decide +kernel
theorem dL_act_216 : decode cL_act 216 = .ok (.iload_n 1, 1) := by decide +kernel
theorem dL_act_217 : decode cL_act 217 = .ok (.sipush 19200, 3) := by decide +kernel
theorem dL_act_220 : decode cL_act 220 = .ok (.idiv, 1) := by decide +kernel
theorem dL_act_221 : decode cL_act 221 = .ok (.iconst 3, 1) := by decide +kernel
theorem dL_act_222 : decode cL_act 222 = .ok (.irem, 1) := by decide +kernel
theorem dL_act_223 : decode cL_act 223 = .ok (.ifCond .le 7, 3) := by decide +kernel
theorem dL_act_226 : decode cL_act 226 = .ok (.iconst 1, 1) := by decide +kernel
theorem dL_act_227 : decode cL_act 227 = .ok (.goto 4, 3) := by decide +kernel
theorem dL_act_230 : decode cL_act 230 = .ok (.iconst 0, 1) := by decide +kernel
theorem dL_act_231 : decode cL_act 231 = .ok (.invokestatic 200, 3) := by decide +kernel
theorem dL_act_234 : decode cL_act 234 = .ok (.ireturn, 1) := by decide +kernel
theorem dL_act_235 : decode cL_act 235 = .ok (.aload_n 0, 1) := by decide +kernel
theorem dL_act_236 : decode cL_act 236 = .ok (.iload 6, 2) := by decide +kernel
theorem dL_act_238 : decode cL_act 238 = .ok (.iload 4, 2) := by decide +kernel
theorem dL_act_240 : decode cL_act 240 = .ok (.iload 5, 2) := by decide +kernel
theorem dL_act_242 : decode cL_act 242 = .ok (.iload_n 1, 1) := by decide +kernel
theorem dL_act_243 : decode cL_act 243 = .ok (.sipush 19200, 3) := by decide +kernel
theorem dL_act_246 : decode cL_act 246 = .ok (.idiv, 1) := by decide +kernel
theorem dL_act_247 : decode cL_act 247 = .ok (.bipush 24, 2) := by decide +kernel
theorem dL_act_249 : decode cL_act 249 = .ok (.irem, 1) := by decide +kernel
theorem dL_act_250 : decode cL_act 250 = .ok (.invokestatic 204, 3) := by decide +kernel
theorem dL_act_253 : decode cL_act 253 = .ok (.ireturn, 1) := by decide +kernel
theorem dL_act_254 : decode cL_act 254 = .ok (.aload_n 0, 1) := by decide +kernel
theorem dL_act_255 : decode cL_act 255 = .ok (.bipush 15, 2) := by decide +kernel
theorem dL_act_257 : decode cL_act 257 = .ok (.iload_n 1, 1) := by decide +kernel
theorem dL_act_258 : decode cL_act 258 = .ok (.bipush 16, 2) := by decide +kernel
theorem dL_act_260 : decode cL_act 260 = .ok (.idiv, 1) := by decide +kernel
theorem dL_act_261 : decode cL_act 261 = .ok (.bipush 20, 2) := by decide +kernel
theorem dL_act_263 : decode cL_act 263 = .ok (.irem, 1) := by decide +kernel
theorem dL_act_264 : decode cL_act 264 = .ok (.iconst 0, 1) := by decide +kernel
theorem dL_act_265 : decode cL_act 265 = .ok (.iconst 0, 1) := by decide +kernel
theorem dL_act_266 : decode cL_act 266 = .ok (.invokestatic 196, 3) := by decide +kernel
theorem dL_act_269 : decode cL_act 269 = .ok (.ireturn, 1) := by decide +kernel
theorem dL_act_270 : decode cL_act 270 = .ok (.iload_n 2, 1) := by decide +kernel
theorem dL_act_271 : decode cL_act 271 = .ok (.iconst 2, 1) := by decide +kernel
theorem dL_act_272 : decode cL_act 272 = .ok (.if_icmp .lt 8, 3) := by decide +kernel
theorem dL_act_275 : decode cL_act 275 = .ok (.iload_n 3, 1) := by decide +kernel
theorem dL_act_276 : decode cL_act 276 = .ok (.iconst 3, 1) := by decide +kernel
theorem dL_act_277 : decode cL_act 277 = .ok (.if_icmp .ge 26, 3) := by decide +kernel
theorem dL_act_280 : decode cL_act 280 = .ok (.aload_n 0, 1) := by decide +kernel
theorem dL_act_281 : decode cL_act 281 = .ok (.bipush 16, 2) := by decide +kernel
theorem dL_act_283 : decode cL_act 283 = .ok (.iload_n 1, 1) := by decide +kernel
theorem dL_act_284 : decode cL_act 284 = .ok (.bipush 16, 2) := by decide +kernel
theorem dL_act_286 : decode cL_act 286 = .ok (.idiv, 1) := by decide +kernel
theorem dL_act_287 : decode cL_act 287 = .ok (.iconst 2, 1) := by decide +kernel
theorem dL_act_288 : decode cL_act 288 = .ok (.irem, 1) := by decide +kernel
theorem dL_act_289 : decode cL_act 289 = .ok (.iload_n 1, 1) := by decide +kernel
theorem dL_act_290 : decode cL_act 290 = .ok (.bipush 32, 2) := by decide +kernel
theorem dL_act_292 : decode cL_act 292 = .ok (.idiv, 1) := by decide +kernel
theorem dL_act_293 : decode cL_act 293 = .ok (.bipush 12, 2) := by decide +kernel
theorem dL_act_295 : decode cL_act 295 = .ok (.irem, 1) := by decide +kernel
theorem dL_act_296 : decode cL_act 296 = .ok (.iconst 0, 1) := by decide +kernel
theorem dL_act_297 : decode cL_act 297 = .ok (.invokestatic 196, 3) := by decide +kernel
theorem dL_act_300 : decode cL_act 300 = .ok (.goto 12, 3) := by decide +kernel
theorem dL_act_303 : decode cL_act 303 = .ok (.aload_n 0, 1) := by decide +kernel
theorem dL_act_304 : decode cL_act 304 = .ok (.bipush 17, 2) := by decide +kernel
theorem dL_act_306 : decode cL_act 306 = .ok (.iconst 0, 1) := by decide +kernel
theorem dL_act_307 : decode cL_act 307 = .ok (.iconst 0, 1) := by decide +kernel
theorem dL_act_308 : decode cL_act 308 = .ok (.iconst 0, 1) := by decide +kernel
theorem dL_act_309 : decode cL_act 309 = .ok (.invokestatic 196, 3) := by decide +kernel
theorem dL_act_312 : decode cL_act 312 = .ok (.ireturn, 1) := by decide +kernel
theorem dL_act_313 : decode cL_act 313 = .ok (.aload_n 0, 1) := by decide +kernel
theorem dL_act_314 : decode cL_act 314 = .ok (.bipush 23, 2) := by decide +kernel
theorem dL_act_316 : decode cL_act 316 = .ok (.iload_n 1, 1) := by decide +kernel
theorem dL_act_317 : decode cL_act 317 = .ok (.bipush 16, 2) := by decide +kernel
theorem dL_act_319 : decode cL_act 319 = .ok (.idiv, 1) := by decide +kernel
theorem dL_act_320 : decode cL_act 320 = .ok (.iconst 2, 1) := by decide +kernel
theorem dL_act_321 : decode cL_act 321 = .ok (.irem, 1) := by decide +kernel
theorem dL_act_322 : decode cL_act 322 = .ok (.iconst 0, 1) := by decide +kernel
theorem dL_act_323 : decode cL_act 323 = .ok (.iconst 0, 1) := by decide +kernel
theorem dL_act_324 : decode cL_act 324 = .ok (.invokestatic 196, 3) := by decide +kernel
theorem dL_act_327 : decode cL_act 327 = .ok (.ireturn, 1) := by decide +kernel
theorem dL_act_328 : decode cL_act 328 = .ok (.aload_n 0, 1) := by decide +kernel
theorem dL_act_329 : decode cL_act 329 = .ok (.bipush 24, 2) := by decide +kernel
theorem dL_act_331 : decode cL_act 331 = .ok (.iload_n 1, 1) := by decide +kernel
theorem dL_act_332 : decode cL_act 332 = .ok (.bipush 16, 2) := by decide +kernel
theorem dL_act_334 : decode cL_act 334 = .ok (.idiv, 1) := by decide +kernel
theorem dL_act_335 : decode cL_act 335 = .ok (.iconst 2, 1) := by decide +kernel
theorem dL_act_336 : decode cL_act 336 = .ok (.irem, 1) := by decide +kernel
theorem dL_act_337 : decode cL_act 337 = .ok (.iconst 0, 1) := by decide +kernel
theorem dL_act_338 : decode cL_act 338 = .ok (.iconst 0, 1) := by decide +kernel
theorem dL_act_339 : decode cL_act 339 = .ok (.invokestatic 196, 3) := by decide +kernel
theorem dL_act_342 : decode cL_act 342 = .ok (.ireturn, 1) := by decide +kernel
theorem dL_alike_0 : decode cL_alike 0 = .ok (.aload_n 0, 1) := by decide +kernel
theorem dL_alike_1 : decode cL_alike 1 = .ok (.iconst 2, 1) := by decide +kernel
theorem dL_alike_2 : decode cL_alike 2 = .ok (.iconst 0, 1) := by decide +kernel
theorem dL_alike_3 : decode cL_alike 3 = .ok (.iconst 0, 1) := by decide +kernel
theorem dL_alike_4 : decode cL_alike 4 = .ok (.iconst 0, 1) := by decide +kernel
theorem dL_alike_5 : decode cL_alike 5 = .ok (.invokestatic 196, 3) := by decide +kernel
theorem dL_alike_8 : decode cL_alike 8 = .ok (.istore_n 3, 1) := by decide +kernel
theorem dL_alike_9 : decode cL_alike 9 = .ok (.aload_n 0, 1) := by decide +kernel
theorem dL_alike_10 : decode cL_alike 10 = .ok (.iload_n 2, 1) := by decide +kernel
theorem dL_alike_11 : decode cL_alike 11 = .ok (.i2l, 1) := by decide +kernel
theorem dL_alike_12 : decode cL_alike 12 = .ok (.iconst 1, 1) := by decide +kernel
theorem dL_alike_13 : decode cL_alike 13 = .ok (.iload_n 2, 1) := by decide +kernel
theorem dL_alike_14 : decode cL_alike 14 = .ok (.bipush 30, 2) := by decide +kernel
theorem dL_alike_16 : decode cL_alike 16 = .ok (.irem, 1) := by decide +kernel
theorem dL_alike_17 : decode cL_alike 17 = .ok (.iadd, 1) := by decide +kernel
theorem dL_alike_18 : decode cL_alike 18 = .ok (.invokestatic 213, 3) := by decide +kernel
theorem dL_alike_21 : decode cL_alike 21 = .ok (.aload_n 1, 1) := by decide +kernel
theorem dL_alike_22 : decode cL_alike 22 = .ok (.iload_n 2, 1) := by decide +kernel
theorem dL_alike_23 : decode cL_alike 23 = .ok (.i2l, 1) := by decide +kernel
theorem dL_alike_24 : decode cL_alike 24 = .ok (.iconst 1, 1) := by decide +kernel
theorem dL_alike_25 : decode cL_alike 25 = .ok (.iload_n 2, 1) := by decide +kernel
theorem dL_alike_26 : decode cL_alike 26 = .ok (.bipush 30, 2) := by decide +kernel
theorem dL_alike_28 : decode cL_alike 28 = .ok (.irem, 1) := by decide +kernel
theorem dL_alike_29 : decode cL_alike 29 = .ok (.iadd, 1) := by decide +kernel
theorem dL_alike_30 : decode cL_alike 30 = .ok (.invokestatic 213, 3) := by decide +kernel
theorem dL_alike_33 : decode cL_alike 33 = .ok (.if_icmp .ne 18, 3) := by decide +kernel
theorem dL_alike_36 : decode cL_alike 36 = .ok (.aload_n 0, 1) := by decide +kernel
theorem dL_alike_37 : decode cL_alike 37 = .ok (.invokevirtual 220, 3) := by decide +kernel
theorem dL_alike_40 : decode cL_alike 40 = .ok (.aload_n 1, 1) := by decide +kernel
theorem dL_alike_41 : decode cL_alike 41 = .ok (.invokevirtual 220, 3) := by decide +kernel
theorem dL_alike_44 : decode cL_alike 44 = .ok (.if_icmp .ne 7, 3) := by decide +kernel
theorem dL_alike_47 : decode cL_alike 47 = .ok (.iconst 1, 1) := by decide +kernel
theorem dL_alike_48 : decode cL_alike 48 = .ok (.goto 4, 3) := by decide +kernel
theorem dL_alike_51 : decode cL_alike 51 = .ok (.iconst 0, 1) := by decide +kernel
theorem dL_alike_52 : decode cL_alike 52 = .ok (.istore 4, 2) := by decide +kernel
theorem dL_alike_54 : decode cL_alike 54 = .ok (.iconst 0, 1) := by decide +kernel
theorem dL_alike_55 : decode cL_alike 55 = .ok (.istore 5, 2) := by decide +kernel
theorem dL_alike_57 : decode cL_alike 57 = .ok (.iload 5, 2) := by decide +kernel
theorem dL_alike_59 : decode cL_alike 59 = .ok (.bipush 20, 2) := by decide +kernel
theorem dL_alike_61 : decode cL_alike 61 = .ok (.if_icmp .ge 234, 3) := by decide +kernel
theorem dL_alike_64 : decode cL_alike 64 = .ok (.iload 4, 2) := by decide +kernel
theorem dL_alike_66 : decode cL_alike 66 = .ok (.ifCond .eq 229, 3) := by decide +kernel
theorem dL_alike_69 : decode cL_alike 69 = .ok (.aload_n 0, 1) := by decide +kernel
theorem dL_alike_70 : decode cL_alike 70 = .ok (.iconst 2, 1) := by decide +kernel
theorem dL_alike_71 : decode cL_alike 71 = .ok (.iload 5, 2) := by decide +kernel
theorem dL_alike_73 : decode cL_alike 73 = .ok (.iconst 0, 1) := by decide +kernel
theorem dL_alike_74 : decode cL_alike 74 = .ok (.iconst 0, 1) := by decide +kernel
theorem dL_alike_75 : decode cL_alike 75 = .ok (.invokestatic 196, 3) := by decide +kernel
theorem dL_alike_78 : decode cL_alike 78 = .ok (.aload_n 1, 1) := by decide +kernel
theorem dL_alike_79 : decode cL_alike 79 = .ok (.iconst 2, 1) := by decide +kernel
theorem dL_alike_80 : decode cL_alike 80 = .ok (.iload 5, 2) := by decide +kernel
theorem dL_alike_82 : decode cL_alike 82 = .ok (.iconst 0, 1) := by decide +kernel
theorem dL_alike_83 : decode cL_alike 83 = .ok (.iconst 0, 1) := by decide +kernel
theorem dL_alike_84 : decode cL_alike 84 = .ok (.invokestatic 196, 3) := by decide +kernel
theorem dL_alike_87 : decode cL_alike 87 = .ok (.if_icmp .ne 101, 3) := by decide +kernel
theorem dL_alike_90 : decode cL_alike 90 = .ok (.aload_n 0, 1) := by decide +kernel
theorem dL_alike_91 : decode cL_alike 91 = .ok (.bipush 9, 2) := by decide +kernel
theorem dL_alike_93 : decode cL_alike 93 = .ok (.iload 5, 2) := by decide +kernel
theorem dL_alike_95 : decode cL_alike 95 = .ok (.iconst 0, 1) := by decide +kernel
theorem dL_alike_96 : decode cL_alike 96 = .ok (.iconst 0, 1) := by decide +kernel
theorem dL_alike_97 : decode cL_alike 97 = .ok (.invokestatic 196, 3) := by decide +kernel
theorem dL_alike_100 : decode cL_alike 100 = .ok (.aload_n 1, 1) := by decide +kernel
theorem dL_alike_101 : decode cL_alike 101 = .ok (.bipush 9, 2) := by decide +kernel
theorem dL_alike_103 : decode cL_alike 103 = .ok (.iload 5, 2) := by decide +kernel
theorem dL_alike_105 : decode cL_alike 105 = .ok (.iconst 0, 1) := by decide +kernel
theorem dL_alike_106 : decode cL_alike 106 = .ok (.iconst 0, 1) := by decide +kernel
theorem dL_alike_107 : decode cL_alike 107 = .ok (.invokestatic 196, 3) := by decide +kernel
theorem dL_alike_110 : decode cL_alike 110 = .ok (.if_icmp .ne 78, 3) := by decide +kernel
theorem dL_alike_113 : decode cL_alike 113 = .ok (.aload_n 0, 1) := by decide +kernel
theorem dL_alike_114 : decode cL_alike 114 = .ok (.bipush 8, 2) := by decide +kernel
theorem dL_alike_116 : decode cL_alike 116 = .ok (.iload 5, 2) := by decide +kernel
theorem dL_alike_118 : decode cL_alike 118 = .ok (.iconst 2, 1) := by decide +kernel
theorem dL_alike_119 : decode cL_alike 119 = .ok (.iconst 0, 1) := by decide +kernel
theorem dL_alike_120 : decode cL_alike 120 = .ok (.invokestatic 196, 3) := by decide +kernel
theorem dL_alike_123 : decode cL_alike 123 = .ok (.aload_n 1, 1) := by decide +kernel
theorem dL_alike_124 : decode cL_alike 124 = .ok (.bipush 8, 2) := by decide +kernel
theorem dL_alike_126 : decode cL_alike 126 = .ok (.iload 5, 2) := by decide +kernel
theorem dL_alike_128 : decode cL_alike 128 = .ok (.iconst 2, 1) := by decide +kernel
theorem dL_alike_129 : decode cL_alike 129 = .ok (.iconst 0, 1) := by decide +kernel
theorem dL_alike_130 : decode cL_alike 130 = .ok (.invokestatic 196, 3) := by decide +kernel
theorem dL_alike_133 : decode cL_alike 133 = .ok (.if_icmp .ne 55, 3) := by decide +kernel
theorem dL_alike_136 : decode cL_alike 136 = .ok (.aload_n 0, 1) := by decide +kernel
theorem dL_alike_137 : decode cL_alike 137 = .ok (.bipush 8, 2) := by decide +kernel
theorem dL_alike_139 : decode cL_alike 139 = .ok (.iload 5, 2) := by decide +kernel
theorem dL_alike_141 : decode cL_alike 141 = .ok (.iload_n 2, 1) := by decide +kernel
theorem dL_alike_142 : decode cL_alike 142 = .ok (.iconst 5, 1) := by decide +kernel
theorem dL_alike_143 : decode cL_alike 143 = .ok (.irem, 1) := by decide +kernel
theorem dL_alike_144 : decode cL_alike 144 = .ok (.iconst 0, 1) := by decide +kernel
theorem dL_alike_145 : decode cL_alike 145 = .ok (.invokestatic 196, 3) := by decide +kernel
theorem dL_alike_148 : decode cL_alike 148 = .ok (.aload_n 1, 1) := by decide +kernel
theorem dL_alike_149 : decode cL_alike 149 = .ok (.bipush 8, 2) := by decide +kernel
theorem dL_alike_151 : decode cL_alike 151 = .ok (.iload 5, 2) := by decide +kernel
theorem dL_alike_153 : decode cL_alike 153 = .ok (.iload_n 2, 1) := by decide +kernel
theorem dL_alike_154 : decode cL_alike 154 = .ok (.iconst 5, 1) := by decide +kernel
theorem dL_alike_155 : decode cL_alike 155 = .ok (.irem, 1) := by decide +kernel
theorem dL_alike_156 : decode cL_alike 156 = .ok (.iconst 0, 1) := by decide +kernel
theorem dL_alike_157 : decode cL_alike 157 = .ok (.invokestatic 196, 3) := by decide +kernel
theorem dL_alike_160 : decode cL_alike 160 = .ok (.if_icmp .ne 28, 3) := by decide +kernel
theorem dL_alike_163 : decode cL_alike 163 = .ok (.aload_n 0, 1) := by decide +kernel
theorem dL_alike_164 : decode cL_alike 164 = .ok (.iconst 5, 1) := by decide +kernel
theorem dL_alike_165 : decode cL_alike 165 = .ok (.iload 5, 2) := by decide +kernel
theorem dL_alike_167 : decode cL_alike 167 = .ok (.iconst 2, 1) := by decide +kernel
theorem dL_alike_168 : decode cL_alike 168 = .ok (.iconst 0, 1) := by decide +kernel
theorem dL_alike_169 : decode cL_alike 169 = .ok (.invokestatic 196, 3) := by decide +kernel
theorem dL_alike_172 : decode cL_alike 172 = .ok (.aload_n 1, 1) := by decide +kernel
theorem dL_alike_173 : decode cL_alike 173 = .ok (.iconst 5, 1) := by decide +kernel
theorem dL_alike_174 : decode cL_alike 174 = .ok (.iload 5, 2) := by decide +kernel
theorem dL_alike_176 : decode cL_alike 176 = .ok (.iconst 2, 1) := by decide +kernel
theorem dL_alike_177 : decode cL_alike 177 = .ok (.iconst 0, 1) := by decide +kernel
theorem dL_alike_178 : decode cL_alike 178 = .ok (.invokestatic 196, 3) := by decide +kernel
theorem dL_alike_181 : decode cL_alike 181 = .ok (.if_icmp .ne 7, 3) := by decide +kernel
theorem dL_alike_184 : decode cL_alike 184 = .ok (.iconst 1, 1) := by decide +kernel
theorem dL_alike_185 : decode cL_alike 185 = .ok (.goto 4, 3) := by decide +kernel
theorem dL_alike_188 : decode cL_alike 188 = .ok (.iconst 0, 1) := by decide +kernel
theorem dL_alike_189 : decode cL_alike 189 = .ok (.istore 4, 2) := by decide +kernel
theorem dL_alike_191 : decode cL_alike 191 = .ok (.iconst 0, 1) := by decide +kernel
theorem dL_alike_192 : decode cL_alike 192 = .ok (.istore 6, 2) := by decide +kernel
theorem dL_alike_194 : decode cL_alike 194 = .ok (.iload 6, 2) := by decide +kernel
theorem dL_alike_196 : decode cL_alike 196 = .ok (.iload_n 3, 1) := by decide +kernel
theorem dL_alike_197 : decode cL_alike 197 = .ok (.if_icmp .ge 92, 3) := by decide +kernel
theorem dL_alike_200 : decode cL_alike 200 = .ok (.iload 4, 2) := by decide +kernel
theorem dL_alike_202 : decode cL_alike 202 = .ok (.ifCond .eq 87, 3) := by decide +kernel
theorem dL_alike_205 : decode cL_alike 205 = .ok (.aload_n 0, 1) := by decide +kernel
theorem dL_alike_206 : decode cL_alike 206 = .ok (.iconst 4, 1) := by decide +kernel
theorem dL_alike_207 : decode cL_alike 207 = .ok (.iload 5, 2) := by decide +kernel
