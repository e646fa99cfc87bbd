theorem dX6_command_392 : decode cX6_command 392 = .ok (.getfield 16, 3) := by decide +kernel
theorem dX6_command_395 : decode cX6_command 395 = .ok (.iload 7, 2) := by decide +kernel
theorem dX6_command_397 : decode cX6_command 397 = .ok (.invokestatic 93, 3) := by decide +kernel
theorem dX6_command_400 : decode cX6_command 400 = .ok (.ifCond .eq 36, 3) := by decide +kernel
theorem dX6_command_403 : decode cX6_command 403 = .ok (.aload_n 0, 1) := by decide +kernel
theorem dX6_command_404 : decode cX6_command 404 = .ok (.getfield 16, 3) := by decide +kernel
theorem dX6_command_407 : decode cX6_command 407 = .ok (.iload 8, 2) := by decide +kernel
theorem dX6_command_409 : decode cX6_command 409 = .ok (.invokestatic 96, 3) := by decide +kernel
theorem dX6_command_412 : decode cX6_command 412 = .ok (.ifCond .eq 24, 3) := by decide +kernel
theorem dX6_command_415 : decode cX6_command 415 = .ok (.aload_n 0, 1) := by decide +kernel
theorem dX6_command_416 : decode cX6_command 416 = .ok (.aload_n 0, 1) := by decide +kernel
theorem dX6_command_417 : decode cX6_command 417 = .ok (.getfield 16, 3) := by decide +kernel
theorem dX6_command_420 : decode cX6_command 420 = .ok (.iload 4, 2) := by decide +kernel
theorem dX6_command_422 : decode cX6_command 422 = .ok (.iload 8, 2) := by decide +kernel
theorem dX6_command_424 : decode cX6_command 424 = .ok (.invokevirtual 201, 3) := by decide +kernel
theorem dX6_command_427 : decode cX6_command 427 = .ok (.iload 7, 2) := by decide +kernel
theorem dX6_command_429 : decode cX6_command 429 = .ok (.if_icmp .ne 7, 3) := by decide +kernel
theorem dX6_command_432 : decode cX6_command 432 = .ok (.iconst 1, 1) := by decide +kernel
theorem dX6_command_433 : decode cX6_command 433 = .ok (.goto 4, 3) := by decide +kernel
theorem dX6_command_436 : decode cX6_command 436 = .ok (.iconst 0, 1) := by decide +kernel
theorem dX6_command_437 : decode cX6_command 437 = .ok (.ireturn, 1) := by decide +kernel
theorem dX6_command_438 : decode cX6_command 438 = .ok (.iload 6, 2) := by decide +kernel
theorem dX6_command_440 : decode cX6_command 440 = .ok (.iconst 2, 1) := by decide +kernel
theorem dX6_command_441 : decode cX6_command 441 = .ok (.if_icmp .ge 39, 3) := by decide +kernel
theorem dX6_command_444 : decode cX6_command 444 = .ok (.iload 4, 2) := by decide +kernel
theorem dX6_command_446 : decode cX6_command 446 = .ok (.invokestatic 106, 3) := by decide +kernel
theorem dX6_command_449 : decode cX6_command 449 = .ok (.ifCond .eq 31, 3) := by decide +kernel
theorem dX6_command_452 : decode cX6_command 452 = .ok (.aload_n 0, 1) := by decide +kernel
theorem dX6_command_453 : decode cX6_command 453 = .ok (.aload_n 0, 1) := by decide +kernel
theorem dX6_command_454 : decode cX6_command 454 = .ok (.getfield 16, 3) := by decide +kernel
theorem dX6_command_457 : decode cX6_command 457 = .ok (.iload 4, 2) := by decide +kernel
theorem dX6_command_459 : decode cX6_command 459 = .ok (.invokevirtual 77, 3) := by decide +kernel
theorem dX6_command_462 : decode cX6_command 462 = .ok (.iload 8, 2) := by decide +kernel
theorem dX6_command_464 : decode cX6_command 464 = .ok (.iconst 1, 1) := by decide +kernel
theorem dX6_command_465 : decode cX6_command 465 = .ok (.if_icmp .ne 7, 3) := by decide +kernel
theorem dX6_command_468 : decode cX6_command 468 = .ok (.iconst 1, 1) := by decide +kernel
theorem dX6_command_469 : decode cX6_command 469 = .ok (.goto 4, 3) := by decide +kernel
theorem dX6_command_472 : decode cX6_command 472 = .ok (.iconst 0, 1) := by decide +kernel
theorem dX6_command_473 : decode cX6_command 473 = .ok (.if_icmp .ne 7, 3) := by decide +kernel
theorem dX6_command_476 : decode cX6_command 476 = .ok (.iconst 1, 1) := by decide +kernel
theorem dX6_command_477 : decode cX6_command 477 = .ok (.goto 4, 3) := by decide +kernel
theorem dX6_command_480 : decode cX6_command 480 = .ok (.iconst 0, 1) := by decide +kernel
theorem dX6_command_481 : decode cX6_command 481 = .ok (.ireturn, 1) := by decide +kernel
theorem dX6_command_482 : decode cX6_command 482 = .ok (.iload 4, 2) := by decide +kernel
theorem dX6_command_484 : decode cX6_command 484 = .ok (.ifCond .ne 20, 3) := by decide +kernel
theorem dX6_command_487 : decode cX6_command 487 = .ok (.aload_n 0, 1) := by decide +kernel
theorem dX6_command_488 : decode cX6_command 488 = .ok (.aload_n 0, 1) := by decide +kernel
theorem dX6_command_489 : decode cX6_command 489 = .ok (.getfield 16, 3) := by decide +kernel
theorem dX6_command_492 : decode cX6_command 492 = .ok (.invokevirtual 185, 3) := by decide +kernel
theorem dX6_command_495 : decode cX6_command 495 = .ok (.iload 6, 2) := by decide +kernel
theorem dX6_command_497 : decode cX6_command 497 = .ok (.if_icmp .gt 7, 3) := by decide +kernel
theorem dX6_command_500 : decode cX6_command 500 = .ok (.iconst 1, 1) := by decide +kernel
theorem dX6_command_501 : decode cX6_command 501 = .ok (.goto 4, 3) := by decide +kernel
theorem dX6_command_504 : decode cX6_command 504 = .ok (.iconst 0, 1) := by decide +kernel
theorem dX6_command_505 : decode cX6_command 505 = .ok (.ireturn, 1) := by decide +kernel
theorem dX6_command_506 : decode cX6_command 506 = .ok (.iconst 0, 1) := by decide +kernel
theorem dX6_command_507 : decode cX6_command 507 = .ok (.ireturn, 1) := by decide +kernel
theorem dX6_runScript_0 : decode cX6_runScript 0 = .ok (.lconst 1, 1) := by decide +kernel
theorem dX6_runScript_1 : decode cX6_runScript 1 = .ok (.lstore 4, 2) := by decide +kernel
theorem dX6_runScript_3 : decode cX6_runScript 3 = .ok (.iconst 0, 1) := by decide +kernel
theorem dX6_runScript_4 : decode cX6_runScript 4 = .ok (.istore 6, 2) := by decide +kernel
theorem dX6_runScript_6 : decode cX6_runScript 6 = .ok (.iload 6, 2) := by decide +kernel
theorem dX6_runScript_8 : decode cX6_runScript 8 = .ok (.iload_n 1, 1) := by decide +kernel
theorem dX6_runScript_9 : decode cX6_runScript 9 = .ok (.if_icmp .ge 23, 3) := by decide +kernel
theorem dX6_runScript_12 : decode cX6_runScript 12 = .ok (.iload 6, 2) := by decide +kernel
theorem dX6_runScript_14 : decode cX6_runScript 14 = .ok (.iconst 3, 1) := by decide +kernel
theorem dX6_runScript_15 : decode cX6_runScript 15 = .ok (.if_icmp .ge 17, 3) := by decide +kernel
theorem dX6_runScript_18 : decode cX6_runScript 18 = .ok (.lload 4, 2) := by decide +kernel
theorem dX6_runScript_20 : decode cX6_runScript 20 = .ok (.ldc2_w 233, 3) := by decide +kernel
theorem dX6_runScript_23 : decode cX6_runScript 23 = .ok (.lmul, 1) := by decide +kernel
theorem dX6_runScript_24 : decode cX6_runScript 24 = .ok (.lstore 4, 2) := by decide +kernel
theorem dX6_runScript_26 : decode cX6_runScript 26 = .ok (.iinc 6 1, 3) := by decide +kernel
theorem dX6_runScript_29 : decode cX6_runScript 29 = .ok (.goto (-23), 3) := by decide +kernel
theorem dX6_runScript_32 : decode cX6_runScript 32 = .ok (.aload_n 0, 1) := by decide +kernel
theorem dX6_runScript_33 : decode cX6_runScript 33 = .ok (.iload_n 1, 1) := by decide +kernel
theorem dX6_runScript_34 : decode cX6_runScript 34 = .ok (.i2l, 1) := by decide +kernel
theorem dX6_runScript_35 : decode cX6_runScript 35 = .ok (.lconst 1, 1) := by decide +kernel
theorem dX6_runScript_36 : decode cX6_runScript 36 = .ok (.ldc2_w 195, 3) := by decide +kernel
theorem dX6_runScript_39 : decode cX6_runScript 39 = .ok (.invokestatic 48, 3) := by decide +kernel
theorem dX6_runScript_42 : decode cX6_runScript 42 = .ok (.ifCond .eq 19, 3) := by decide +kernel
theorem dX6_runScript_45 : decode cX6_runScript 45 = .ok (.lload_n 2, 1) := by decide +kernel
theorem dX6_runScript_46 : decode cX6_runScript 46 = .ok (.lconst 0, 1) := by decide +kernel
theorem dX6_runScript_47 : decode cX6_runScript 47 = .ok (.lload 4, 2) := by decide +kernel
theorem dX6_runScript_49 : decode cX6_runScript 49 = .ok (.lconst 1, 1) := by decide +kernel
theorem dX6_runScript_50 : decode cX6_runScript 50 = .ok (.lsub, 1) := by decide +kernel
theorem dX6_runScript_51 : decode cX6_runScript 51 = .ok (.invokestatic 48, 3) := by decide +kernel
theorem dX6_runScript_54 : decode cX6_runScript 54 = .ok (.ifCond .eq 7, 3) := by decide +kernel
theorem dX6_runScript_57 : decode cX6_runScript 57 = .ok (.iconst 0, 1) := by decide +kernel
theorem dX6_runScript_58 : decode cX6_runScript 58 = .ok (.goto 4, 3) := by decide +kernel
theorem dX6_runScript_61 : decode cX6_runScript 61 = .ok (.iconst 1, 1) := by decide +kernel
theorem dX6_runScript_62 : decode cX6_runScript 62 = .ok (.invokevirtual 119, 3) := by decide +kernel
theorem dX6_runScript_65 : decode cX6_runScript 65 = .ok (.ifCond .eq 5, 3) := by decide +kernel
theorem dX6_runScript_68 : decode cX6_runScript 68 = .ok (.iconst 0, 1) := by decide +kernel
theorem dX6_runScript_69 : decode cX6_runScript 69 = .ok (.ireturn, 1) := by decide +kernel
theorem dX6_runScript_70 : decode cX6_runScript 70 = .ok (.aload_n 0, 1) := by decide +kernel
theorem dX6_runScript_71 : decode cX6_runScript 71 = .ok (.getfield 13, 3) := by decide +kernel
theorem dX6_runScript_74 : decode cX6_runScript 74 = .ok (.iconst 0, 1) := by decide +kernel
theorem dX6_runScript_75 : decode cX6_runScript 75 = .ok (.aload_n 0, 1) := by decide +kernel
theorem dX6_runScript_76 : decode cX6_runScript 76 = .ok (.getfield 16, 3) := by decide +kernel
theorem dX6_runScript_79 : decode cX6_runScript 79 = .ok (.iconst 0, 1) := by decide +kernel
theorem dX6_runScript_80 : decode cX6_runScript 80 = .ok (.invokestatic 173, 3) := by decide +kernel
theorem dX6_runScript_83 : decode cX6_runScript 83 = .ok (.iconst 0, 1) := by decide +kernel
theorem dX6_runScript_84 : decode cX6_runScript 84 = .ok (.istore 6, 2) := by decide +kernel
theorem dX6_runScript_86 : decode cX6_runScript 86 = .ok (.iload 6, 2) := by decide +kernel
theorem dX6_runScript_88 : decode cX6_runScript 88 = .ok (.iload_n 1, 1) := by decide +kernel
theorem dX6_runScript_89 : decode cX6_runScript 89 = .ok (.if_icmp .ge 50, 3) := by decide +kernel
theorem dX6_runScript_92 : decode cX6_runScript 92 = .ok (.lload 4, 2) := by decide +kernel
theorem dX6_runScript_94 : decode cX6_runScript 94 = .ok (.ldc2_w 233, 3) := by decide +kernel
theorem dX6_runScript_97 : decode cX6_runScript 97 = .ok (.ldiv, 1) := by decide +kernel
theorem dX6_runScript_98 : decode cX6_runScript 98 = .ok (.lstore 4, 2) := by decide +kernel
theorem dX6_runScript_100 : decode cX6_runScript 100 = .ok (.lload_n 2, 1) := by decide +kernel
theorem dX6_runScript_101 : decode cX6_runScript 101 = .ok (.lload 4, 2) := by decide +kernel
theorem dX6_runScript_103 : decode cX6_runScript 103 = .ok (.ldiv, 1) := by decide +kernel
theorem dX6_runScript_104 : decode cX6_runScript 104 = .ok (.ldc2_w 233, 3) := by decide +kernel
theorem dX6_runScript_107 : decode cX6_runScript 107 = .ok (.lrem, 1) := by decide +kernel
theorem dX6_runScript_108 : decode cX6_runScript 108 = .ok (.l2i, 1) := by decide +kernel
theorem dX6_runScript_109 : decode cX6_runScript 109 = .ok (.istore 7, 2) := by decide +kernel
theorem dX6_runScript_111 : decode cX6_runScript 111 = .ok (.aload_n 0, 1) := by decide +kernel
theorem dX6_runScript_112 : decode cX6_runScript 112 = .ok (.iload 7, 2) := by decide +kernel
theorem dX6_runScript_114 : decode cX6_runScript 114 = .ok (.sipush 10000, 3) := by decide +kernel
theorem dX6_runScript_117 : decode cX6_runScript 117 = .ok (.idiv, 1) := by decide +kernel
theorem dX6_runScript_118 : decode cX6_runScript 118 = .ok (.iload 7, 2) := by decide +kernel
theorem dX6_runScript_120 : decode cX6_runScript 120 = .ok (.sipush 10000, 3) := by decide +kernel
theorem dX6_runScript_123 : decode cX6_runScript 123 = .ok (.irem, 1) := by decide +kernel
theorem dX6_runScript_124 : decode cX6_runScript 124 = .ok (.invokevirtual 235, 3) := by decide +kernel
theorem dX6_runScript_127 : decode cX6_runScript 127 = .ok (.ifCond .ne 6, 3) := by decide +kernel
theorem dX6_runScript_130 : decode cX6_runScript 130 = .ok (.iload 6, 2) := by decide +kernel
theorem dX6_runScript_132 : decode cX6_runScript 132 = .ok (.ireturn, 1) := by decide +kernel
theorem dX6_runScript_133 : decode cX6_runScript 133 = .ok (.iinc 6 1, 3) := by decide +kernel
theorem dX6_runScript_136 : decode cX6_runScript 136 = .ok (.goto (-50), 3) := by decide +kernel
theorem dX6_runScript_139 : decode cX6_runScript 139 = .ok (.iconst (-1), 1) := by decide +kernel
theorem dX6_runScript_140 : decode cX6_runScript 140 = .ok (.ireturn, 1) := by decide +kernel
theorem dX6_turn_0 : decode cX6_turn 0 = .ok (.iload_n 1, 1) := by decide +kernel
theorem dX6_turn_1 : decode cX6_turn 1 = .ok (.bipush 8, 2) := by decide +kernel
theorem dX6_turn_3 : decode cX6_turn 3 = .ok (.idiv, 1) := by decide +kernel
theorem dX6_turn_4 : decode cX6_turn 4 = .ok (.istore_n 2, 1) := by decide +kernel
theorem dX6_turn_5 : decode cX6_turn 5 = .ok (.iload_n 1, 1) := by decide +kernel
theorem dX6_turn_6 : decode cX6_turn 6 = .ok (.bipush 8, 2) := by decide +kernel
theorem dX6_turn_8 : decode cX6_turn 8 = .ok (.irem, 1) := by decide +kernel
theorem dX6_turn_9 : decode cX6_turn 9 = .ok (.istore_n 3, 1) := by decide +kernel
theorem dX6_turn_10 : decode cX6_turn 10 = .ok (.iload_n 3, 1) := by decide +kernel
theorem dX6_turn_11 : decode cX6_turn 11 = .ok (.iconst 2, 1) := by decide +kernel
theorem dX6_turn_12 : decode cX6_turn 12 = .ok (.if_icmp .ge 54, 3) := by decide +kernel
theorem dX6_turn_15 : decode cX6_turn 15 = .ok (.aload_n 0, 1) := by decide +kernel
theorem dX6_turn_16 : decode cX6_turn 16 = .ok (.iload_n 2, 1) := by decide +kernel
theorem dX6_turn_17 : decode cX6_turn 17 = .ok (.bipush 6, 2) := by decide +kernel
theorem dX6_turn_19 : decode cX6_turn 19 = .ok (.irem, 1) := by decide +kernel
theorem dX6_turn_20 : decode cX6_turn 20 = .ok (.invokestatic 93, 3) := by decide +kernel
theorem dX6_turn_23 : decode cX6_turn 23 = .ok (.ifCond .eq 223, 3) := by decide +kernel
theorem dX6_turn_26 : decode cX6_turn 26 = .ok (.aload_n 0, 1) := by decide +kernel
theorem dX6_turn_27 : decode cX6_turn 27 = .ok (.iload_n 2, 1) := by decide +kernel
theorem dX6_turn_28 : decode cX6_turn 28 = .ok (.bipush 6, 2) := by decide +kernel
theorem dX6_turn_30 : decode cX6_turn 30 = .ok (.idiv, 1) := by decide +kernel
theorem dX6_turn_31 : decode cX6_turn 31 = .ok (.bipush 10, 2) := by decide +kernel
theorem dX6_turn_33 : decode cX6_turn 33 = .ok (.irem, 1) := by decide +kernel
theorem dX6_turn_34 : decode cX6_turn 34 = .ok (.invokestatic 96, 3) := by decide +kernel
theorem dX6_turn_37 : decode cX6_turn 37 = .ok (.ifCond .eq 209, 3) := by decide +kernel
theorem dX6_turn_40 : decode cX6_turn 40 = .ok (.aload_n 0, 1) := by decide +kernel
theorem dX6_turn_41 : decode cX6_turn 41 = .ok (.iload_n 2, 1) := by decide +kernel
theorem dX6_turn_42 : decode cX6_turn 42 = .ok (.bipush 6, 2) := by decide +kernel
theorem dX6_turn_44 : decode cX6_turn 44 = .ok (.irem, 1) := by decide +kernel
theorem dX6_turn_45 : decode cX6_turn 45 = .ok (.iload_n 2, 1) := by decide +kernel
theorem dX6_turn_46 : decode cX6_turn 46 = .ok (.bipush 6, 2) := by decide +kernel
theorem dX6_turn_48 : decode cX6_turn 48 = .ok (.idiv, 1) := by decide +kernel
theorem dX6_turn_49 : decode cX6_turn 49 = .ok (.bipush 10, 2) := by decide +kernel
theorem dX6_turn_51 : decode cX6_turn 51 = .ok (.irem, 1) := by decide +kernel
theorem dX6_turn_52 : decode cX6_turn 52 = .ok (.iload_n 2, 1) := by decide +kernel
theorem dX6_turn_53 : decode cX6_turn 53 = .ok (.bipush 64, 2) := by decide +kernel
theorem dX6_turn_55 : decode cX6_turn 55 = .ok (.idiv, 1) := by decide +kernel
theorem dX6_turn_56 : decode cX6_turn 56 = .ok (.bipush 20, 2) := by decide +kernel
theorem dX6_turn_58 : decode cX6_turn 58 = .ok (.irem, 1) := by decide +kernel
theorem dX6_turn_59 : decode cX6_turn 59 = .ok (.invokestatic 150, 3) := by decide +kernel
theorem dX6_turn_62 : decode cX6_turn 62 = .ok (.pop, 1) := by decide +kernel
theorem dX6_turn_63 : decode cX6_turn 63 = .ok (.goto 183, 3) := by decide +kernel
theorem dX6_turn_66 : decode cX6_turn 66 = .ok (.iload_n 3, 1) := by decide +kernel
theorem dX6_turn_67 : decode cX6_turn 67 = .ok (.iconst 2, 1) := by decide +kernel
theorem dX6_turn_68 : decode cX6_turn 68 = .ok (.if_icmp .ne 40, 3) := by decide +kernel
theorem dX6_turn_71 : decode cX6_turn 71 = .ok (.aload_n 0, 1) := by decide +kernel
theorem dX6_turn_72 : decode cX6_turn 72 = .ok (.iload_n 2, 1) := by decide +kernel
theorem dX6_turn_73 : decode cX6_turn 73 = .ok (.bipush 6, 2) := by decide +kernel
theorem dX6_turn_75 : decode cX6_turn 75 = .ok (.irem, 1) := by decide +kernel
theorem dX6_turn_76 : decode cX6_turn 76 = .ok (.iload_n 2, 1) := by decide +kernel
theorem dX6_turn_77 : decode cX6_turn 77 = .ok (.bipush 6, 2) := by decide +kernel
theorem dX6_turn_79 : decode cX6_turn 79 = .ok (.idiv, 1) := by decide +kernel
theorem dX6_turn_80 : decode cX6_turn 80 = .ok (.bipush 10, 2) := by decide +kernel
theorem dX6_turn_82 : decode cX6_turn 82 = .ok (.irem, 1) := by decide +kernel
theorem dX6_turn_83 : decode cX6_turn 83 = .ok (.invokestatic 153, 3) := by decide +kernel
theorem dX6_turn_86 : decode cX6_turn 86 = .ok (.ifCond .eq 160, 3) := by decide +kernel
theorem dX6_turn_89 : decode cX6_turn 89 = .ok (.aload_n 0, 1) := by decide +kernel
theorem dX6_turn_90 : decode cX6_turn 90 = .ok (.iload_n 2, 1) := by decide +kernel
theorem dX6_turn_91 : decode cX6_turn 91 = .ok (.bipush 6, 2) := by decide +kernel
theorem dX6_turn_93 : decode cX6_turn 93 = .ok (.irem, 1) := by decide +kernel
theorem dX6_turn_94 : decode cX6_turn 94 = .ok (.iload_n 2, 1) := by decide +kernel
theorem dX6_turn_95 : decode cX6_turn 95 = .ok (.bipush 6, 2) := by decide +kernel
theorem dX6_turn_97 : decode cX6_turn 97 = .ok (.idiv, 1) := by decide +kernel
theorem dX6_turn_98 : decode cX6_turn 98 = .ok (.bipush 10, 2) := by decide +kernel
theorem dX6_turn_100 : decode cX6_turn 100 = .ok (.irem, 1) := by decide +kernel
theorem dX6_turn_101 : decode cX6_turn 101 = .ok (.invokestatic 156, 3) := by decide +kernel
theorem dX6_turn_104 : decode cX6_turn 104 = .ok (.pop, 1) := by decide +kernel
theorem dX6_turn_105 : decode cX6_turn 105 = .ok (.goto 141, 3) := by decide +kernel
theorem dX6_turn_108 : decode cX6_turn 108 = .ok (.iload_n 3, 1) := by decide +kernel
theorem dX6_turn_109 : decode cX6_turn 109 = .ok (.bipush 6, 2) := by decide +kernel
theorem dX6_turn_111 : decode cX6_turn 111 = .ok (.if_icmp .ge 48, 3) := by decide +kernel
theorem dX6_turn_114 : decode cX6_turn 114 = .ok (.aload_n 0, 1) := by decide +kernel
theorem dX6_turn_115 : decode cX6_turn 115 = .ok (.iload_n 2, 1) := by decide +kernel
theorem dX6_turn_116 : decode cX6_turn 116 = .ok (.bipush 10, 2) := by decide +kernel
theorem dX6_turn_118 : decode cX6_turn 118 = .ok (.irem, 1) := by decide +kernel
theorem dX6_turn_119 : decode cX6_turn 119 = .ok (.invokestatic 96, 3) := by decide +kernel
theorem dX6_turn_122 : decode cX6_turn 122 = .ok (.ifCond .eq 124, 3) := by decide +kernel
theorem dX6_turn_125 : decode cX6_turn 125 = .ok (.aload_n 0, 1) := by decide +kernel
theorem dX6_turn_126 : decode cX6_turn 126 = .ok (.iload_n 2, 1) := by decide +kernel
theorem dX6_turn_127 : decode cX6_turn 127 = .ok (.bipush 10, 2) := by decide +kernel
theorem dX6_turn_129 : decode cX6_turn 129 = .ok (.irem, 1) := by decide +kernel
theorem dX6_turn_130 : decode cX6_turn 130 = .ok (.iload_n 2, 1) := by decide +kernel
theorem dX6_turn_131 : decode cX6_turn 131 = .ok (.bipush 16, 2) := by decide +kernel
theorem dX6_turn_133 : decode cX6_turn 133 = .ok (.idiv, 1) := by decide +kernel
theorem dX6_turn_134 : decode cX6_turn 134 = .ok (.bipush 20, 2) := by decide +kernel
theorem dX6_turn_136 : decode cX6_turn 136 = .ok (.irem, 1) := by decide +kernel
theorem dX6_turn_137 : decode cX6_turn 137 = .ok (.iload_n 2, 1) := by decide +kernel
theorem dX6_turn_138 : decode cX6_turn 138 = .ok (.sipush 512, 3) := by decide +kernel
theorem dX6_turn_141 : decode cX6_turn 141 = .ok (.idiv, 1) := by decide +kernel
theorem dX6_turn_142 : decode cX6_turn 142 = .ok (.iconst 3, 1) := by decide +kernel
theorem dX6_turn_143 : decode cX6_turn 143 = .ok (.irem, 1) := by decide +kernel
theorem dX6_turn_144 : decode cX6_turn 144 = .ok (.ifCond .le 7, 3) := by decide +kernel
theorem dX6_turn_147 : decode cX6_turn 147 = .ok (.iconst 1, 1) := by decide +kernel
theorem dX6_turn_148 : decode cX6_turn 148 = .ok (.goto 4, 3) := by decide +kernel
theorem dX6_turn_151 : decode cX6_turn 151 = .ok (.iconst 0, 1) := by decide +kernel
theorem dX6_turn_152 : decode cX6_turn 152 = .ok (.invokestatic 159, 3) := by decide +kernel
theorem dX6_turn_155 : decode cX6_turn 155 = .ok (.pop, 1) := by decide +kernel
theorem dX6_turn_156 : decode cX6_turn 156 = .ok (.goto 90, 3) := by decide +kernel
theorem dX6_turn_159 : decode cX6_turn 159 = .ok (.iload_n 3, 1) := by decide +kernel
theorem dX6_turn_160 : decode cX6_turn 160 = .ok (.bipush 6, 2) := by decide +kernel
theorem dX6_turn_162 : decode cX6_turn 162 = .ok (.if_icmp .ne 64, 3) := by decide +kernel
theorem dX6_turn_165 : decode cX6_turn 165 = .ok (.aload_n 0, 1) := by decide +kernel
theorem dX6_turn_166 : decode cX6_turn 166 = .ok (.iload_n 2, 1) := by decide +kernel
theorem dX6_turn_167 : decode cX6_turn 167 = .ok (.bipush 20, 2) := by decide +kernel
theorem dX6_turn_169 : decode cX6_turn 169 = .ok (.irem, 1) := by decide +kernel
theorem dX6_turn_170 : decode cX6_turn 170 = .ok (.iload_n 2, 1) := by decide +kernel
theorem dX6_turn_171 : decode cX6_turn 171 = .ok (.bipush 32, 2) := by decide +kernel
theorem dX6_turn_173 : decode cX6_turn 173 = .ok (.idiv, 1) := by decide +kernel
theorem dX6_turn_174 : decode cX6_turn 174 = .ok (.bipush 6, 2) := by decide +kernel
theorem dX6_turn_176 : decode cX6_turn 176 = .ok (.irem, 1) := by decide +kernel
theorem dX6_turn_177 : decode cX6_turn 177 = .ok (.iload_n 2, 1) := by decide +kernel
theorem dX6_turn_178 : decode cX6_turn 178 = .ok (.sipush 256, 3) := by decide +kernel
theorem dX6_turn_181 : decode cX6_turn 181 = .ok (.idiv, 1) := by decide +kernel
theorem dX6_turn_182 : decode cX6_turn 182 = .ok (.bipush 10, 2) := by decide +kernel
theorem dX6_turn_184 : decode cX6_turn 184 = .ok (.irem, 1) := by decide +kernel
theorem dX6_turn_185 : decode cX6_turn 185 = .ok (.invokestatic 132, 3) := by decide +kernel
theorem dX6_turn_188 : decode cX6_turn 188 = .ok (.ifCond .eq 58, 3) := by decide +kernel
theorem dX6_turn_191 : decode cX6_turn 191 = .ok (.aload_n 0, 1) := by decide +kernel
theorem dX6_turn_192 : decode cX6_turn 192 = .ok (.iload_n 2, 1) := by decide +kernel
theorem dX6_turn_193 : decode cX6_turn 193 = .ok (.bipush 20, 2) := by decide +kernel
theorem dX6_turn_195 : decode cX6_turn 195 = .ok (.irem, 1) := by decide +kernel
theorem dX6_turn_196 : decode cX6_turn 196 = .ok (.iload_n 2, 1) := by decide +kernel
theorem dX6_turn_197 : decode cX6_turn 197 = .ok (.bipush 32, 2) := by decide +kernel
theorem dX6_turn_199 : decode cX6_turn 199 = .ok (.idiv, 1) := by decide +kernel
theorem dX6_turn_200 : decode cX6_turn 200 = .ok (.bipush 6, 2) := by decide +kernel
theorem dX6_turn_202 : decode cX6_turn 202 = .ok (.irem, 1) := by decide +kernel
theorem dX6_turn_203 : decode cX6_turn 203 = .ok (.iload_n 2, 1) := by decide +kernel
theorem dX6_turn_204 : decode cX6_turn 204 = .ok (.sipush 256, 3) := by decide +kernel
theorem dX6_turn_207 : decode cX6_turn 207 = .ok (.idiv, 1) := by decide +kernel
theorem dX6_turn_208 : decode cX6_turn 208 = .ok (.bipush 10, 2) := by decide +kernel
theorem dX6_turn_210 : decode cX6_turn 210 = .ok (.irem, 1) := by decide +kernel
theorem dX6_turn_211 : decode cX6_turn 211 = .ok (.iload_n 2, 1) := by decide +kernel
theorem dX6_turn_212 : decode cX6_turn 212 = .ok (.sipush 4096, 3) := by decide +kernel
theorem dX6_turn_215 : decode cX6_turn 215 = .ok (.idiv, 1) := by decide +kernel
theorem dX6_turn_216 : decode cX6_turn 216 = .ok (.bipush 24, 2) := by decide +kernel
theorem dX6_turn_218 : decode cX6_turn 218 = .ok (.irem, 1) := by decide +kernel
theorem dX6_turn_219 : decode cX6_turn 219 = .ok (.invokestatic 135, 3) := by decide +kernel
theorem dX6_turn_222 : decode cX6_turn 222 = .ok (.pop, 1) := by decide +kernel
theorem dX6_turn_223 : decode cX6_turn 223 = .ok (.goto 23, 3) := by decide +kernel
theorem dX6_turn_226 : decode cX6_turn 226 = .ok (.aload_n 0, 1) := by decide +kernel
theorem dX6_turn_227 : decode cX6_turn 227 = .ok (.iload_n 2, 1) := by decide +kernel
theorem dX6_turn_228 : decode cX6_turn 228 = .ok (.bipush 20, 2) := by decide +kernel
theorem dX6_turn_230 : decode cX6_turn 230 = .ok (.irem, 1) := by decide +kernel
theorem dX6_turn_231 : decode cX6_turn 231 = .ok (.invokestatic 204, 3) := by decide +kernel
theorem dX6_turn_234 : decode cX6_turn 234 = .ok (.ifCond .eq 12, 3) := by decide +kernel
theorem dX6_turn_237 : decode cX6_turn 237 = .ok (.aload_n 0, 1) := by decide +kernel
theorem dX6_turn_238 : decode cX6_turn 238 = .ok (.iload_n 2, 1) := by decide +kernel
theorem dX6_turn_239 : decode cX6_turn 239 = .ok (.bipush 20, 2) := by decide +kernel
theorem dX6_turn_241 : decode cX6_turn 241 = .ok (.irem, 1) := by decide +kernel
theorem dX6_turn_242 : decode cX6_turn 242 = .ok (.invokestatic 215, 3) := by decide +kernel
theorem dX6_turn_245 : decode cX6_turn 245 = .ok (.pop, 1) := by decide +kernel
theorem dX6_turn_246 : decode cX6_turn 246 = .ok (.return_, 1) := by decide +kernel
theorem dX6_simulate_0 : decode cX6_simulate 0 = .ok (.aload_n 0, 1) := by decide +kernel
theorem dX6_simulate_1 : decode cX6_simulate 1 = .ok (.iload_n 3, 1) := by decide +kernel
theorem dX6_simulate_2 : decode cX6_simulate 2 = .ok (.i2l, 1) := by decide +kernel
theorem dX6_simulate_3 : decode cX6_simulate 3 = .ok (.lconst 1, 1) := by decide +kernel
theorem dX6_simulate_4 : decode cX6_simulate 4 = .ok (.ldc2_w 238, 3) := by decide +kernel
theorem dX6_simulate_7 : decode cX6_simulate 7 = .ok (.invokestatic 48, 3) := by decide +kernel
theorem dX6_simulate_10 : decode cX6_simulate 10 = .ok (.ifCond .eq 7, 3) := by decide +kernel
theorem dX6_simulate_13 : decode cX6_simulate 13 = .ok (.iconst 0, 1) := by decide +kernel
theorem dX6_simulate_14 : decode cX6_simulate 14 = .ok (.goto 4, 3) := by decide +kernel
theorem dX6_simulate_17 : decode cX6_simulate 17 = .ok (.iconst 1, 1) := by decide +kernel
theorem dX6_simulate_18 : decode cX6_simulate 18 = .ok (.invokevirtual 119, 3) := by decide +kernel
theorem dX6_simulate_21 : decode cX6_simulate 21 = .ok (.ifCond .eq 5, 3) := by decide +kernel
theorem dX6_simulate_24 : decode cX6_simulate 24 = .ok (.iconst 0, 1) := by decide +kernel
theorem dX6_simulate_25 : decode cX6_simulate 25 = .ok (.ireturn, 1) := by decide +kernel
theorem dX6_simulate_26 : decode cX6_simulate 26 = .ok (.aload_n 0, 1) := by decide +kernel
theorem dX6_simulate_27 : decode cX6_simulate 27 = .ok (.getfield 13, 3) := by decide +kernel
theorem dX6_simulate_30 : decode cX6_simulate 30 = .ok (.iconst 0, 1) := by decide +kernel
theorem dX6_simulate_31 : decode cX6_simulate 31 = .ok (.aload_n 0, 1) := by decide +kernel
theorem dX6_simulate_32 : decode cX6_simulate 32 = .ok (.getfield 16, 3) := by decide +kernel
theorem dX6_simulate_35 : decode cX6_simulate 35 = .ok (.iconst 0, 1) := by decide +kernel
theorem dX6_simulate_36 : decode cX6_simulate 36 = .ok (.invokestatic 173, 3) := by decide +kernel
theorem dX6_simulate_39 : decode cX6_simulate 39 = .ok (.lload_n 1, 1) := by decide +kernel
theorem dX6_simulate_40 : decode cX6_simulate 40 = .ok (.lstore 4, 2) := by decide +kernel
theorem dX6_simulate_42 : decode cX6_simulate 42 = .ok (.iconst 0, 1) := by decide +kernel
theorem dX6_simulate_43 : decode cX6_simulate 43 = .ok (.istore 6, 2) := by decide +kernel
theorem dX6_simulate_45 : decode cX6_simulate 45 = .ok (.iload 6, 2) := by decide +kernel
theorem dX6_simulate_47 : decode cX6_simulate 47 = .ok (.iload_n 3, 1) := by decide +kernel
theorem dX6_simulate_48 : decode cX6_simulate 48 = .ok (.if_icmp .ge 34, 3) := by decide +kernel
theorem dX6_simulate_51 : decode cX6_simulate 51 = .ok (.lload 4, 2) := by decide +kernel
theorem dX6_simulate_53 : decode cX6_simulate 53 = .ok (.ldc2_w 240, 3) := by decide +kernel
theorem dX6_simulate_56 : decode cX6_simulate 56 = .ok (.lmul, 1) := by decide +kernel
theorem dX6_simulate_57 : decode cX6_simulate 57 = .ok (.ldc2_w 242, 3) := by decide +kernel
theorem dX6_simulate_60 : decode cX6_simulate 60 = .ok (.ladd, 1) := by decide +kernel
theorem dX6_simulate_61 : decode cX6_simulate 61 = .ok (.lstore 4, 2) := by decide +kernel
theorem dX6_simulate_63 : decode cX6_simulate 63 = .ok (.aload_n 0, 1) := by decide +kernel
theorem dX6_simulate_64 : decode cX6_simulate 64 = .ok (.getfield 16, 3) := by decide +kernel
theorem dX6_simulate_67 : decode cX6_simulate 67 = .ok (.lload 4, 2) := by decide +kernel
theorem dX6_simulate_69 : decode cX6_simulate 69 = .ok (.bipush 33, 2) := by decide +kernel
theorem dX6_simulate_71 : decode cX6_simulate 71 = .ok (.lushr, 1) := by decide +kernel
theorem dX6_simulate_72 : decode cX6_simulate 72 = .ok (.l2i, 1) := by decide +kernel
theorem dX6_simulate_73 : decode cX6_simulate 73 = .ok (.invokestatic 244, 3) := by decide +kernel
theorem dX6_simulate_76 : decode cX6_simulate 76 = .ok (.iinc 6 1, 3) := by decide +kernel
theorem dX6_simulate_79 : decode cX6_simulate 79 = .ok (.goto (-34), 3) := by decide +kernel
theorem dX6_simulate_82 : decode cX6_simulate 82 = .ok (.ldc 248, 2) := by decide +kernel
theorem dX6_simulate_84 : decode cX6_simulate 84 = .ok (.aload_n 0, 1) := by decide +kernel
theorem dX6_simulate_85 : decode cX6_simulate 85 = .ok (.aload_n 0, 1) := by decide +kernel
theorem dX6_simulate_86 : decode cX6_simulate 86 = .ok (.getfield 16, 3) := by decide +kernel
theorem dX6_simulate_89 : decode cX6_simulate 89 = .ok (.invokevirtual 185, 3) := by decide +kernel
theorem dX6_simulate_92 : decode cX6_simulate 92 = .ok (.imul, 1) := by decide +kernel
theorem dX6_simulate_93 : decode cX6_simulate 93 = .ok (.aload_n 0, 1) := by decide +kernel
theorem dX6_simulate_94 : decode cX6_simulate 94 = .ok (.aload_n 0, 1) := by decide +kernel
theorem dX6_simulate_95 : decode cX6_simulate 95 = .ok (.getfield 16, 3) := by decide +kernel
theorem dX6_simulate_98 : decode cX6_simulate 98 = .ok (.invokevirtual 188, 3) := by decide +kernel
theorem dX6_simulate_101 : decode cX6_simulate 101 = .ok (.iadd, 1) := by decide +kernel
theorem dX6_simulate_102 : decode cX6_simulate 102 = .ok (.ireturn, 1) := by decide +kernel
theorem dX6_save_0 : decode cX6_save 0 = .ok (.aload_n 0, 1) := by decide +kernel
theorem dX6_save_1 : decode cX6_save 1 = .ok (.iload_n 1, 1) := by decide +kernel
theorem dX6_save_2 : decode cX6_save 2 = .ok (.i2l, 1) := by decide +kernel
theorem dX6_save_3 : decode cX6_save 3 = .ok (.lconst 0, 1) := by decide +kernel
theorem dX6_save_4 : decode cX6_save 4 = .ok (.lconst 1, 1) := by decide +kernel
theorem dX6_save_5 : decode cX6_save 5 = .ok (.invokestatic 48, 3) := by decide +kernel
theorem dX6_save_8 : decode cX6_save 8 = .ok (.ifCond .eq 7, 3) := by decide +kernel
theorem dX6_save_11 : decode cX6_save 11 = .ok (.iconst 0, 1) := by decide +kernel
theorem dX6_save_12 : decode cX6_save 12 = .ok (.goto 4, 3) := by decide +kernel
theorem dX6_save_15 : decode cX6_save 15 = .ok (.iconst 1, 1) := by decide +kernel
theorem dX6_save_16 : decode cX6_save 16 = .ok (.invokevirtual 119, 3) := by decide +kernel
theorem dX6_save_19 : decode cX6_save 19 = .ok (.ifCond .eq 5, 3) := by decide +kernel
theorem dX6_save_22 : decode cX6_save 22 = .ok (.iconst 0, 1) := by decide +kernel
theorem dX6_save_23 : decode cX6_save 23 = .ok (.ireturn, 1) := by decide +kernel
theorem dX6_save_24 : decode cX6_save 24 = .ok (.aload_n 0, 1) := by decide +kernel
theorem dX6_save_25 : decode cX6_save 25 = .ok (.getfield 13, 3) := by decide +kernel
theorem dX6_save_28 : decode cX6_save 28 = .ok (.iconst 0, 1) := by decide +kernel
theorem dX6_save_29 : decode cX6_save 29 = .ok (.aload_n 0, 1) := by decide +kernel
theorem dX6_save_30 : decode cX6_save 30 = .ok (.getfield 22, 3) := by decide +kernel
theorem dX6_save_33 : decode cX6_save 33 = .ok (.sipush 255, 3) := by decide +kernel
theorem dX6_save_36 : decode cX6_save 36 = .ok (.iload_n 1, 1) := by decide +kernel
theorem dX6_save_37 : decode cX6_save 37 = .ok (.imul, 1) := by decide +kernel
theorem dX6_save_38 : decode cX6_save 38 = .ok (.invokestatic 173, 3) := by decide +kernel
theorem dX6_save_41 : decode cX6_save 41 = .ok (.aload_n 0, 1) := by decide +kernel
theorem dX6_save_42 : decode cX6_save 42 = .ok (.getfield 25, 3) := by decide +kernel
theorem dX6_save_45 : decode cX6_save 45 = .ok (.iload_n 1, 1) := by decide +kernel
theorem dX6_save_46 : decode cX6_save 46 = .ok (.iconst 1, 1) := by decide +kernel
theorem dX6_save_47 : decode cX6_save 47 = .ok (.bastore, 1) := by decide +kernel
theorem dX6_save_48 : decode cX6_save 48 = .ok (.aload_n 0, 1) := by decide +kernel
theorem dX6_save_49 : decode cX6_save 49 = .ok (.getfield 13, 3) := by decide +kernel
theorem dX6_save_52 : decode cX6_save 52 = .ok (.iconst 2, 1) := by decide +kernel
theorem dX6_save_53 : decode cX6_save 53 = .ok (.iaload, 1) := by decide +kernel
theorem dX6_save_54 : decode cX6_save 54 = .ok (.ireturn, 1) := by decide +kernel
theorem dX6_restore_0 : decode cX6_restore 0 = .ok (.aload_n 0, 1) := by decide +kernel
theorem dX6_restore_1 : decode cX6_restore 1 = .ok (.iload_n 1, 1) := by decide +kernel
theorem dX6_restore_2 : decode cX6_restore 2 = .ok (.i2l, 1) := by decide +kernel
theorem dX6_restore_3 : decode cX6_restore 3 = .ok (.lconst 0, 1) := by decide +kernel
theorem dX6_restore_4 : decode cX6_restore 4 = .ok (.lconst 1, 1) := by decide +kernel
theorem dX6_restore_5 : decode cX6_restore 5 = .ok (.invokestatic 48, 3) := by decide +kernel
theorem dX6_restore_8 : decode cX6_restore 8 = .ok (.ifCond .ne 7, 3) := by decide +kernel
theorem dX6_restore_11 : decode cX6_restore 11 = .ok (.iconst 1, 1) := by decide +kernel
theorem dX6_restore_12 : decode cX6_restore 12 = .ok (.goto 17, 3) := by decide +kernel
theorem dX6_restore_15 : decode cX6_restore 15 = .ok (.aload_n 0, 1) := by decide +kernel
theorem dX6_restore_16 : decode cX6_restore 16 = .ok (.getfield 25, 3) := by decide +kernel
theorem dX6_restore_19 : decode cX6_restore 19 = .ok (.iload_n 1, 1) := by decide +kernel
theorem dX6_restore_20 : decode cX6_restore 20 = .ok (.baload, 1) := by decide +kernel
theorem dX6_restore_21 : decode cX6_restore 21 = .ok (.ifCond .ne 7, 3) := by decide +kernel
theorem dX6_restore_24 : decode cX6_restore 24 = .ok (.iconst 2, 1) := by decide +kernel
theorem dX6_restore_25 : decode cX6_restore 25 = .ok (.goto 4, 3) := by decide +kernel
theorem dX6_restore_28 : decode cX6_restore 28 = .ok (.iconst 0, 1) := by decide +kernel
theorem dX6_restore_29 : decode cX6_restore 29 = .ok (.invokevirtual 119, 3) := by decide +kernel
theorem dX6_restore_32 : decode cX6_restore 32 = .ok (.ifCond .eq 5, 3) := by decide +kernel
theorem dX6_restore_35 : decode cX6_restore 35 = .ok (.iconst 0, 1) := by decide +kernel
theorem dX6_restore_36 : decode cX6_restore 36 = .ok (.ireturn, 1) := by decide +kernel
theorem dX6_restore_37 : decode cX6_restore 37 = .ok (.aload_n 0, 1) := by decide +kernel
theorem dX6_restore_38 : decode cX6_restore 38 = .ok (.getfield 22, 3) := by decide +kernel
theorem dX6_restore_41 : decode cX6_restore 41 = .ok (.sipush 255, 3) := by decide +kernel
theorem dX6_restore_44 : decode cX6_restore 44 = .ok (.iload_n 1, 1) := by decide +kernel
theorem dX6_restore_45 : decode cX6_restore 45 = .ok (.imul, 1) := by decide +kernel
theorem dX6_restore_46 : decode cX6_restore 46 = .ok (.aload_n 0, 1) := by decide +kernel
theorem dX6_restore_47 : decode cX6_restore 47 = .ok (.getfield 13, 3) := by decide +kernel
theorem dX6_restore_50 : decode cX6_restore 50 = .ok (.iconst 0, 1) := by decide +kernel
theorem dX6_restore_51 : decode cX6_restore 51 = .ok (.invokestatic 173, 3) := by decide +kernel
theorem dX6_restore_54 : decode cX6_restore 54 = .ok (.aload_n 0, 1) := by decide +kernel
theorem dX6_restore_55 : decode cX6_restore 55 = .ok (.iconst 0, 1) := by decide +kernel
theorem dX6_restore_56 : decode cX6_restore 56 = .ok (.putfield 177, 3) := by decide +kernel
theorem dX6_restore_59 : decode cX6_restore 59 = .ok (.aload_n 0, 1) := by decide +kernel
theorem dX6_restore_60 : decode cX6_restore 60 = .ok (.getfield 13, 3) := by decide +kernel
theorem dX6_restore_63 : decode cX6_restore 63 = .ok (.iconst 2, 1) := by decide +kernel
theorem dX6_restore_64 : decode cX6_restore 64 = .ok (.iaload, 1) := by decide +kernel
theorem dX6_restore_65 : decode cX6_restore 65 = .ok (.ireturn, 1) := by decide +kernel
