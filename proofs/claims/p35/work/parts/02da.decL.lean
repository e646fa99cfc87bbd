theorem dL_setIll_0 : decode cL_setIll 0 = .ok (.aload_n 0, 1) := by decide +kernel
theorem dL_setIll_1 : decode cL_setIll 1 = .ok (.iload_n 1, 1) := by decide +kernel
theorem dL_setIll_2 : decode cL_setIll 2 = .ok (.iload_n 2, 1) := by decide +kernel
theorem dL_setIll_3 : decode cL_setIll 3 = .ok (.iload_n 3, 1) := by decide +kernel
theorem dL_setIll_4 : decode cL_setIll 4 = .ok (.invokevirtual 7, 3) := by decide +kernel
theorem dL_setIll_7 : decode cL_setIll 7 = .ok (.ireturn, 1) := by decide +kernel
theorem dL_setIll_8 : decode cL_setIll 8 = .ok (.astore 4, 2) := by decide +kernel
theorem dL_setIll_10 : decode cL_setIll 10 = .ok (.ldc 15, 2) := by decide +kernel
theorem dL_setIll_12 : decode cL_setIll 12 = .ok (.ireturn, 1) := by decide +kernel
theorem dL_addSlip_0 : decode cL_addSlip 0 = .ok (.aload_n 0, 1) := by decide +kernel
theorem dL_addSlip_1 : decode cL_addSlip 1 = .ok (.iload_n 1, 1) := by decide +kernel
theorem dL_addSlip_2 : decode cL_addSlip 2 = .ok (.iload_n 2, 1) := by decide +kernel
theorem dL_addSlip_3 : decode cL_addSlip 3 = .ok (.iload_n 3, 1) := by decide +kernel
theorem dL_addSlip_4 : decode cL_addSlip 4 = .ok (.iload 4, 2) := by decide +kernel
theorem dL_addSlip_6 : decode cL_addSlip 6 = .ok (.invokevirtual 16, 3) := by decide +kernel
theorem dL_addSlip_9 : decode cL_addSlip 9 = .ok (.ireturn, 1) := by decide +kernel
theorem dL_addSlip_10 : decode cL_addSlip 10 = .ok (.astore 5, 2) := by decide +kernel
theorem dL_addSlip_12 : decode cL_addSlip 12 = .ok (.ldc 15, 2) := by decide +kernel
theorem dL_addSlip_14 : decode cL_addSlip 14 = .ok (.ireturn, 1) := by decide +kernel
theorem dL_addSlip_15 : decode cL_addSlip 15 = .ok (.astore 5, 2) := by decide +kernel
theorem dL_addSlip_17 : decode cL_addSlip 17 = .ok (.ldc 22, 2) := by decide +kernel
theorem dL_addSlip_19 : decode cL_addSlip 19 = .ok (.ireturn, 1) := by decide +kernel
theorem dL_addSlip_20 : decode cL_addSlip 20 = .ok (.astore 5, 2) := by decide +kernel
theorem dL_addSlip_22 : decode cL_addSlip 22 = .ok (.ldc 25, 2) := by decide +kernel
theorem dL_addSlip_24 : decode cL_addSlip 24 = .ok (.ireturn, 1) := by decide +kernel
theorem dL_doScript_0 : decode cL_doScript 0 = .ok (.aload_n 0, 1) := by decide +kernel
theorem dL_doScript_1 : decode cL_doScript 1 = .ok (.iload_n 1, 1) := by decide +kernel
theorem dL_doScript_2 : decode cL_doScript 2 = .ok (.lload_n 2, 1) := by decide +kernel
theorem dL_doScript_3 : decode cL_doScript 3 = .ok (.invokevirtual 26, 3) := by decide +kernel
theorem dL_doScript_6 : decode cL_doScript 6 = .ok (.ireturn, 1) := by decide +kernel
theorem dL_doScript_7 : decode cL_doScript 7 = .ok (.astore 4, 2) := by decide +kernel
theorem dL_doScript_9 : decode cL_doScript 9 = .ok (.ldc 22, 2) := by decide +kernel
theorem dL_doScript_11 : decode cL_doScript 11 = .ok (.ireturn, 1) := by decide +kernel
theorem dL_doSimulate_0 : decode cL_doSimulate 0 = .ok (.aload_n 0, 1) := by decide +kernel
theorem dL_doSimulate_1 : decode cL_doSimulate 1 = .ok (.lload_n 1, 1) := by decide +kernel
theorem dL_doSimulate_2 : decode cL_doSimulate 2 = .ok (.iload_n 3, 1) := by decide +kernel
theorem dL_doSimulate_3 : decode cL_doSimulate 3 = .ok (.invokevirtual 30, 3) := by decide +kernel
theorem dL_doSimulate_6 : decode cL_doSimulate 6 = .ok (.ireturn, 1) := by decide +kernel
theorem dL_doSimulate_7 : decode cL_doSimulate 7 = .ok (.astore 4, 2) := by decide +kernel
theorem dL_doSimulate_9 : decode cL_doSimulate 9 = .ok (.ldc 22, 2) := by decide +kernel
theorem dL_doSimulate_11 : decode cL_doSimulate 11 = .ok (.ireturn, 1) := by decide +kernel
theorem dL_tryAppend_0 : decode cL_tryAppend 0 = .ok (.aload_n 0, 1) := by decide +kernel
theorem dL_tryAppend_1 : decode cL_tryAppend 1 = .ok (.iload_n 1, 1) := by decide +kernel
theorem dL_tryAppend_2 : decode cL_tryAppend 2 = .ok (.invokevirtual 34, 3) := by decide +kernel
theorem dL_tryAppend_5 : decode cL_tryAppend 5 = .ok (.ireturn, 1) := by decide +kernel
theorem dL_tryAppend_6 : decode cL_tryAppend 6 = .ok (.astore_n 2, 1) := by decide +kernel
theorem dL_tryAppend_7 : decode cL_tryAppend 7 = .ok (.ldc 22, 2) := by decide +kernel
theorem dL_tryAppend_9 : decode cL_tryAppend 9 = .ok (.ireturn, 1) := by decide +kernel
theorem dL_tryAppend_10 : decode cL_tryAppend 10 = .ok (.astore_n 2, 1) := by decide +kernel
theorem dL_tryAppend_11 : decode cL_tryAppend 11 = .ok (.ldc 25, 2) := by decide +kernel
theorem dL_tryAppend_13 : decode cL_tryAppend 13 = .ok (.ireturn, 1) := by decide +kernel
theorem dL_tryLoad_0 : decode cL_tryLoad 0 = .ok (.aload_n 0, 1) := by decide +kernel
theorem dL_tryLoad_1 : decode cL_tryLoad 1 = .ok (.invokevirtual 38, 3) := by decide +kernel
theorem dL_tryLoad_4 : decode cL_tryLoad 4 = .ok (.ireturn, 1) := by decide +kernel
theorem dL_tryLoad_5 : decode cL_tryLoad 5 = .ok (.astore_n 1, 1) := by decide +kernel
theorem dL_tryLoad_6 : decode cL_tryLoad 6 = .ok (.ldc 25, 2) := by decide +kernel
theorem dL_tryLoad_8 : decode cL_tryLoad 8 = .ok (.ireturn, 1) := by decide +kernel
theorem dL_tryAbout_0 : decode cL_tryAbout 0 = .ok (.aload_n 0, 1) := by decide +kernel
theorem dL_tryAbout_1 : decode cL_tryAbout 1 = .ok (.iload_n 1, 1) := by decide +kernel
theorem dL_tryAbout_2 : decode cL_tryAbout 2 = .ok (.invokevirtual 42, 3) := by decide +kernel
theorem dL_tryAbout_5 : decode cL_tryAbout 5 = .ok (.ireturn, 1) := by decide +kernel
theorem dL_tryAbout_6 : decode cL_tryAbout 6 = .ok (.astore_n 2, 1) := by decide +kernel
theorem dL_tryAbout_7 : decode cL_tryAbout 7 = .ok (.ldc 22, 2) := by decide +kernel
theorem dL_tryAbout_9 : decode cL_tryAbout 9 = .ok (.ireturn, 1) := by decide +kernel
theorem dL_tryPlayed_0 : decode cL_tryPlayed 0 = .ok (.aload_n 0, 1) := by decide +kernel
theorem dL_tryPlayed_1 : decode cL_tryPlayed 1 = .ok (.iload_n 1, 1) := by decide +kernel
theorem dL_tryPlayed_2 : decode cL_tryPlayed 2 = .ok (.iload_n 2, 1) := by decide +kernel
theorem dL_tryPlayed_3 : decode cL_tryPlayed 3 = .ok (.invokevirtual 45, 3) := by decide +kernel
theorem dL_tryPlayed_6 : decode cL_tryPlayed 6 = .ok (.ireturn, 1) := by decide +kernel
theorem dL_tryPlayed_7 : decode cL_tryPlayed 7 = .ok (.astore_n 3, 1) := by decide +kernel
theorem dL_tryPlayed_8 : decode cL_tryPlayed 8 = .ok (.ldc 15, 2) := by decide +kernel
theorem dL_tryPlayed_10 : decode cL_tryPlayed 10 = .ok (.ireturn, 1) := by decide +kernel
theorem dL_tryBill_0 : decode cL_tryBill 0 = .ok (.aload_n 0, 1) := by decide +kernel
theorem dL_tryBill_1 : decode cL_tryBill 1 = .ok (.iload_n 1, 1) := by decide +kernel
theorem dL_tryBill_2 : decode cL_tryBill 2 = .ok (.iload_n 2, 1) := by decide +kernel
theorem dL_tryBill_3 : decode cL_tryBill 3 = .ok (.iload_n 3, 1) := by decide +kernel
theorem dL_tryBill_4 : decode cL_tryBill 4 = .ok (.invokevirtual 49, 3) := by decide +kernel
theorem dL_tryBill_7 : decode cL_tryBill 7 = .ok (.ireturn, 1) := by decide +kernel
theorem dL_tryBill_8 : decode cL_tryBill 8 = .ok (.astore 4, 2) := by decide +kernel
theorem dL_tryBill_10 : decode cL_tryBill 10 = .ok (.ldc 15, 2) := by decide +kernel
theorem dL_tryBill_12 : decode cL_tryBill 12 = .ok (.ireturn, 1) := by decide +kernel
theorem dL_tryBill_13 : decode cL_tryBill 13 = .ok (.astore 4, 2) := by decide +kernel
theorem dL_tryBill_15 : decode cL_tryBill 15 = .ok (.ldc 22, 2) := by decide +kernel
theorem dL_tryBill_17 : decode cL_tryBill 17 = .ok (.ireturn, 1) := by decide +kernel
theorem dL_tryNight_0 : decode cL_tryNight 0 = .ok (.aload_n 0, 1) := by decide +kernel
theorem dL_tryNight_1 : decode cL_tryNight 1 = .ok (.iload_n 1, 1) := by decide +kernel
theorem dL_tryNight_2 : decode cL_tryNight 2 = .ok (.iload_n 2, 1) := by decide +kernel
theorem dL_tryNight_3 : decode cL_tryNight 3 = .ok (.invokevirtual 53, 3) := by decide +kernel
theorem dL_tryNight_6 : decode cL_tryNight 6 = .ok (.ireturn, 1) := by decide +kernel
theorem dL_tryNight_7 : decode cL_tryNight 7 = .ok (.astore_n 3, 1) := by decide +kernel
theorem dL_tryNight_8 : decode cL_tryNight 8 = .ok (.ldc 15, 2) := by decide +kernel
theorem dL_tryNight_10 : decode cL_tryNight 10 = .ok (.ireturn, 1) := by decide +kernel
theorem dL_tryNight_11 : decode cL_tryNight 11 = .ok (.astore_n 3, 1) := by decide +kernel
theorem dL_tryNight_12 : decode cL_tryNight 12 = .ok (.ldc 22, 2) := by decide +kernel
theorem dL_tryNight_14 : decode cL_tryNight 14 = .ok (.ireturn, 1) := by decide +kernel
theorem dL_tryActor_0 : decode cL_tryActor 0 = .ok (.aload_n 0, 1) := by decide +kernel
theorem dL_tryActor_1 : decode cL_tryActor 1 = .ok (.iload_n 1, 1) := by decide +kernel
theorem dL_tryActor_2 : decode cL_tryActor 2 = .ok (.iload_n 2, 1) := by decide +kernel
theorem dL_tryActor_3 : decode cL_tryActor 3 = .ok (.invokevirtual 56, 3) := by decide +kernel
theorem dL_tryActor_6 : decode cL_tryActor 6 = .ok (.ireturn, 1) := by decide +kernel
theorem dL_tryActor_7 : decode cL_tryActor 7 = .ok (.astore_n 3, 1) := by decide +kernel
theorem dL_tryActor_8 : decode cL_tryActor 8 = .ok (.ldc 15, 2) := by decide +kernel
theorem dL_tryActor_10 : decode cL_tryActor 10 = .ok (.ireturn, 1) := by decide +kernel
theorem dL_tryActor_11 : decode cL_tryActor 11 = .ok (.astore_n 3, 1) := by decide +kernel
theorem dL_tryActor_12 : decode cL_tryActor 12 = .ok (.ldc 22, 2) := by decide +kernel
theorem dL_tryActor_14 : decode cL_tryActor 14 = .ok (.ireturn, 1) := by decide +kernel
theorem dL_tryRanked_0 : decode cL_tryRanked 0 = .ok (.aload_n 0, 1) := by decide +kernel
theorem dL_tryRanked_1 : decode cL_tryRanked 1 = .ok (.iload_n 1, 1) := by decide +kernel
theorem dL_tryRanked_2 : decode cL_tryRanked 2 = .ok (.iload_n 2, 1) := by decide +kernel
theorem dL_tryRanked_3 : decode cL_tryRanked 3 = .ok (.invokevirtual 59, 3) := by decide +kernel
theorem dL_tryRanked_6 : decode cL_tryRanked 6 = .ok (.ireturn, 1) := by decide +kernel
theorem dL_tryRanked_7 : decode cL_tryRanked 7 = .ok (.astore_n 3, 1) := by decide +kernel
theorem dL_tryRanked_8 : decode cL_tryRanked 8 = .ok (.ldc 15, 2) := by decide +kernel
theorem dL_tryRanked_10 : decode cL_tryRanked 10 = .ok (.ireturn, 1) := by decide +kernel
theorem dL_tryRanked_11 : decode cL_tryRanked 11 = .ok (.astore_n 3, 1) := by decide +kernel
theorem dL_tryRanked_12 : decode cL_tryRanked 12 = .ok (.ldc 22, 2) := by decide +kernel
theorem dL_tryRanked_14 : decode cL_tryRanked 14 = .ok (.ireturn, 1) := by decide +kernel
theorem dL_tryFound_0 : decode cL_tryFound 0 = .ok (.aload_n 0, 1) := by decide +kernel
theorem dL_tryFound_1 : decode cL_tryFound 1 = .ok (.iload_n 1, 1) := by decide +kernel
theorem dL_tryFound_2 : decode cL_tryFound 2 = .ok (.iload_n 2, 1) := by decide +kernel
theorem dL_tryFound_3 : decode cL_tryFound 3 = .ok (.invokevirtual 62, 3) := by decide +kernel
theorem dL_tryFound_6 : decode cL_tryFound 6 = .ok (.ireturn, 1) := by decide +kernel
theorem dL_tryFound_7 : decode cL_tryFound 7 = .ok (.astore_n 3, 1) := by decide +kernel
theorem dL_tryFound_8 : decode cL_tryFound 8 = .ok (.ldc 15, 2) := by decide +kernel
theorem dL_tryFound_10 : decode cL_tryFound 10 = .ok (.ireturn, 1) := by decide +kernel
theorem dL_tryFound_11 : decode cL_tryFound 11 = .ok (.astore_n 3, 1) := by decide +kernel
theorem dL_tryFound_12 : decode cL_tryFound 12 = .ok (.ldc 22, 2) := by decide +kernel
theorem dL_tryFound_14 : decode cL_tryFound 14 = .ok (.ireturn, 1) := by decide +kernel
theorem dL_trySetting_0 : decode cL_trySetting 0 = .ok (.aload_n 0, 1) := by decide +kernel
theorem dL_trySetting_1 : decode cL_trySetting 1 = .ok (.iload_n 1, 1) := by decide +kernel
theorem dL_trySetting_2 : decode cL_trySetting 2 = .ok (.invokevirtual 65, 3) := by decide +kernel
theorem dL_trySetting_5 : decode cL_trySetting 5 = .ok (.ireturn, 1) := by decide +kernel
theorem dL_trySetting_6 : decode cL_trySetting 6 = .ok (.astore_n 2, 1) := by decide +kernel
theorem dL_trySetting_7 : decode cL_trySetting 7 = .ok (.ldc 22, 2) := by decide +kernel
theorem dL_trySetting_9 : decode cL_trySetting 9 = .ok (.ireturn, 1) := by decide +kernel
theorem dL_tryHire_0 : decode cL_tryHire 0 = .ok (.aload_n 0, 1) := by decide +kernel
theorem dL_tryHire_1 : decode cL_tryHire 1 = .ok (.iload_n 1, 1) := by decide +kernel
theorem dL_tryHire_2 : decode cL_tryHire 2 = .ok (.invokevirtual 68, 3) := by decide +kernel
theorem dL_tryHire_5 : decode cL_tryHire 5 = .ok (.ireturn, 1) := by decide +kernel
theorem dL_tryHire_6 : decode cL_tryHire 6 = .ok (.astore_n 2, 1) := by decide +kernel
theorem dL_tryHire_7 : decode cL_tryHire 7 = .ok (.ldc 22, 2) := by decide +kernel
theorem dL_tryHire_9 : decode cL_tryHire 9 = .ok (.ireturn, 1) := by decide +kernel
theorem dL_tryHire_10 : decode cL_tryHire 10 = .ok (.astore_n 2, 1) := by decide +kernel
theorem dL_tryHire_11 : decode cL_tryHire 11 = .ok (.ldc 25, 2) := by decide +kernel
theorem dL_tryHire_13 : decode cL_tryHire 13 = .ok (.ireturn, 1) := by decide +kernel
theorem dL_tryPart_0 : decode cL_tryPart 0 = .ok (.aload_n 0, 1) := by decide +kernel
theorem dL_tryPart_1 : decode cL_tryPart 1 = .ok (.invokevirtual 71, 3) := by decide +kernel
theorem dL_tryPart_4 : decode cL_tryPart 4 = .ok (.ireturn, 1) := by decide +kernel
theorem dL_tryPart_5 : decode cL_tryPart 5 = .ok (.astore_n 1, 1) := by decide +kernel
theorem dL_tryPart_6 : decode cL_tryPart 6 = .ok (.ldc 25, 2) := by decide +kernel
theorem dL_tryPart_8 : decode cL_tryPart 8 = .ok (.ireturn, 1) := by decide +kernel
theorem dL_tryCast_0 : decode cL_tryCast 0 = .ok (.aload_n 0, 1) := by decide +kernel
theorem dL_tryCast_1 : decode cL_tryCast 1 = .ok (.iload_n 1, 1) := by decide +kernel
theorem dL_tryCast_2 : decode cL_tryCast 2 = .ok (.iload_n 2, 1) := by decide +kernel
theorem dL_tryCast_3 : decode cL_tryCast 3 = .ok (.iload_n 3, 1) := by decide +kernel
theorem dL_tryCast_4 : decode cL_tryCast 4 = .ok (.invokevirtual 74, 3) := by decide +kernel
theorem dL_tryCast_7 : decode cL_tryCast 7 = .ok (.ireturn, 1) := by decide +kernel
theorem dL_tryCast_8 : decode cL_tryCast 8 = .ok (.astore 4, 2) := by decide +kernel
theorem dL_tryCast_10 : decode cL_tryCast 10 = .ok (.ldc 15, 2) := by decide +kernel
theorem dL_tryCast_12 : decode cL_tryCast 12 = .ok (.ireturn, 1) := by decide +kernel
theorem dL_tryStudy_0 : decode cL_tryStudy 0 = .ok (.aload_n 0, 1) := by decide +kernel
theorem dL_tryStudy_1 : decode cL_tryStudy 1 = .ok (.iload_n 1, 1) := by decide +kernel
theorem dL_tryStudy_2 : decode cL_tryStudy 2 = .ok (.iload_n 2, 1) := by decide +kernel
theorem dL_tryStudy_3 : decode cL_tryStudy 3 = .ok (.invokevirtual 77, 3) := by decide +kernel
theorem dL_tryStudy_6 : decode cL_tryStudy 6 = .ok (.ireturn, 1) := by decide +kernel
theorem dL_tryStudy_7 : decode cL_tryStudy 7 = .ok (.astore_n 3, 1) := by decide +kernel
theorem dL_tryStudy_8 : decode cL_tryStudy 8 = .ok (.ldc 15, 2) := by decide +kernel
theorem dL_tryStudy_10 : decode cL_tryStudy 10 = .ok (.ireturn, 1) := by decide +kernel
theorem dL_tryStudy_11 : decode cL_tryStudy 11 = .ok (.astore_n 3, 1) := by decide +kernel
theorem dL_tryStudy_12 : decode cL_tryStudy 12 = .ok (.ldc 25, 2) := by decide +kernel
theorem dL_tryStudy_14 : decode cL_tryStudy 14 = .ok (.ireturn, 1) := by decide +kernel
theorem dL_tryRelease_0 : decode cL_tryRelease 0 = .ok (.aload_n 0, 1) := by decide +kernel
theorem dL_tryRelease_1 : decode cL_tryRelease 1 = .ok (.iload_n 1, 1) := by decide +kernel
theorem dL_tryRelease_2 : decode cL_tryRelease 2 = .ok (.iload_n 2, 1) := by decide +kernel
theorem dL_tryRelease_3 : decode cL_tryRelease 3 = .ok (.invokevirtual 80, 3) := by decide +kernel
theorem dL_tryRelease_6 : decode cL_tryRelease 6 = .ok (.ireturn, 1) := by decide +kernel
theorem dL_tryRelease_7 : decode cL_tryRelease 7 = .ok (.astore_n 3, 1) := by decide +kernel
theorem dL_tryRelease_8 : decode cL_tryRelease 8 = .ok (.ldc 15, 2) := by decide +kernel
theorem dL_tryRelease_10 : decode cL_tryRelease 10 = .ok (.ireturn, 1) := by decide +kernel
theorem dL_tryRelease_11 : decode cL_tryRelease 11 = .ok (.astore_n 3, 1) := by decide +kernel
theorem dL_tryRelease_12 : decode cL_tryRelease 12 = .ok (.ldc 25, 2) := by decide +kernel
theorem dL_tryRelease_14 : decode cL_tryRelease 14 = .ok (.ireturn, 1) := by decide +kernel
theorem dL_tryLose_0 : decode cL_tryLose 0 = .ok (.aload_n 0, 1) := by decide +kernel
theorem dL_tryLose_1 : decode cL_tryLose 1 = .ok (.iload_n 1, 1) := by decide +kernel
theorem dL_tryLose_2 : decode cL_tryLose 2 = .ok (.invokevirtual 83, 3) := by decide +kernel
theorem dL_tryLose_5 : decode cL_tryLose 5 = .ok (.ireturn, 1) := by decide +kernel
theorem dL_tryLose_6 : decode cL_tryLose 6 = .ok (.astore_n 2, 1) := by decide +kernel
theorem dL_tryLose_7 : decode cL_tryLose 7 = .ok (.ldc 15, 2) := by decide +kernel
theorem dL_tryLose_9 : decode cL_tryLose 9 = .ok (.ireturn, 1) := by decide +kernel
theorem dL_tryLay_0 : decode cL_tryLay 0 = .ok (.aload_n 0, 1) := by decide +kernel
theorem dL_tryLay_1 : decode cL_tryLay 1 = .ok (.iload_n 1, 1) := by decide +kernel
theorem dL_tryLay_2 : decode cL_tryLay 2 = .ok (.iload_n 2, 1) := by decide +kernel
theorem dL_tryLay_3 : decode cL_tryLay 3 = .ok (.invokevirtual 86, 3) := by decide +kernel
theorem dL_tryLay_6 : decode cL_tryLay 6 = .ok (.ireturn, 1) := by decide +kernel
theorem dL_tryLay_7 : decode cL_tryLay 7 = .ok (.astore_n 3, 1) := by decide +kernel
theorem dL_tryLay_8 : decode cL_tryLay 8 = .ok (.ldc 22, 2) := by decide +kernel
theorem dL_tryLay_10 : decode cL_tryLay 10 = .ok (.ireturn, 1) := by decide +kernel
theorem dL_tryUndo_0 : decode cL_tryUndo 0 = .ok (.aload_n 0, 1) := by decide +kernel
theorem dL_tryUndo_1 : decode cL_tryUndo 1 = .ok (.invokevirtual 89, 3) := by decide +kernel
theorem dL_tryUndo_4 : decode cL_tryUndo 4 = .ok (.ireturn, 1) := by decide +kernel
theorem dL_tryUndo_5 : decode cL_tryUndo 5 = .ok (.astore_n 1, 1) := by decide +kernel
theorem dL_tryUndo_6 : decode cL_tryUndo 6 = .ok (.ldc 25, 2) := by decide +kernel
theorem dL_tryUndo_8 : decode cL_tryUndo 8 = .ok (.ireturn, 1) := by decide +kernel
theorem dL_tryFind_0 : decode cL_tryFind 0 = .ok (.aload_n 0, 1) := by decide +kernel
theorem dL_tryFind_1 : decode cL_tryFind 1 = .ok (.iload_n 1, 1) := by decide +kernel
theorem dL_tryFind_2 : decode cL_tryFind 2 = .ok (.iload_n 2, 1) := by decide +kernel
theorem dL_tryFind_3 : decode cL_tryFind 3 = .ok (.iload_n 3, 1) := by decide +kernel
theorem dL_tryFind_4 : decode cL_tryFind 4 = .ok (.invokevirtual 92, 3) := by decide +kernel
theorem dL_tryFind_7 : decode cL_tryFind 7 = .ok (.ireturn, 1) := by decide +kernel
theorem dL_tryFind_8 : decode cL_tryFind 8 = .ok (.astore 4, 2) := by decide +kernel
theorem dL_tryFind_10 : decode cL_tryFind 10 = .ok (.ldc 15, 2) := by decide +kernel
theorem dL_tryFind_12 : decode cL_tryFind 12 = .ok (.ireturn, 1) := by decide +kernel
theorem dL_tryFind_13 : decode cL_tryFind 13 = .ok (.astore 4, 2) := by decide +kernel
theorem dL_tryFind_15 : decode cL_tryFind 15 = .ok (.ldc 22, 2) := by decide +kernel
theorem dL_tryFind_17 : decode cL_tryFind 17 = .ok (.ireturn, 1) := by decide +kernel
theorem dL_tryTogether_0 : decode cL_tryTogether 0 = .ok (.aload_n 0, 1) := by decide +kernel
theorem dL_tryTogether_1 : decode cL_tryTogether 1 = .ok (.iload_n 1, 1) := by decide +kernel
theorem dL_tryTogether_2 : decode cL_tryTogether 2 = .ok (.iload_n 2, 1) := by decide +kernel
theorem dL_tryTogether_3 : decode cL_tryTogether 3 = .ok (.invokevirtual 95, 3) := by decide +kernel
theorem dL_tryTogether_6 : decode cL_tryTogether 6 = .ok (.ireturn, 1) := by decide +kernel
theorem dL_tryTogether_7 : decode cL_tryTogether 7 = .ok (.astore_n 3, 1) := by decide +kernel
theorem dL_tryTogether_8 : decode cL_tryTogether 8 = .ok (.ldc 15, 2) := by decide +kernel
theorem dL_tryTogether_10 : decode cL_tryTogether 10 = .ok (.ireturn, 1) := by decide +kernel
theorem dL_tryLongest_0 : decode cL_tryLongest 0 = .ok (.aload_n 0, 1) := by decide +kernel
theorem dL_tryLongest_1 : decode cL_tryLongest 1 = .ok (.iload_n 1, 1) := by decide +kernel
theorem dL_tryLongest_2 : decode cL_tryLongest 2 = .ok (.iload_n 2, 1) := by decide +kernel
theorem dL_tryLongest_3 : decode cL_tryLongest 3 = .ok (.invokevirtual 98, 3) := by decide +kernel
theorem dL_tryLongest_6 : decode cL_tryLongest 6 = .ok (.ireturn, 1) := by decide +kernel
theorem dL_tryLongest_7 : decode cL_tryLongest 7 = .ok (.astore_n 3, 1) := by decide +kernel
theorem dL_tryLongest_8 : decode cL_tryLongest 8 = .ok (.ldc 15, 2) := by decide +kernel
theorem dL_tryLongest_10 : decode cL_tryLongest 10 = .ok (.ireturn, 1) := by decide +kernel
theorem dL_tryWould_0 : decode cL_tryWould 0 = .ok (.aload_n 0, 1) := by decide +kernel
theorem dL_tryWould_1 : decode cL_tryWould 1 = .ok (.iload_n 1, 1) := by decide +kernel
theorem dL_tryWould_2 : decode cL_tryWould 2 = .ok (.iload_n 2, 1) := by decide +kernel
theorem dL_tryWould_3 : decode cL_tryWould 3 = .ok (.iload_n 3, 1) := by decide +kernel
theorem dL_tryWould_4 : decode cL_tryWould 4 = .ok (.invokevirtual 101, 3) := by decide +kernel
theorem dL_tryWould_7 : decode cL_tryWould 7 = .ok (.ireturn, 1) := by decide +kernel
theorem dL_tryWould_8 : decode cL_tryWould 8 = .ok (.astore 4, 2) := by decide +kernel
theorem dL_tryWould_10 : decode cL_tryWould 10 = .ok (.ldc 15, 2) := by decide +kernel
theorem dL_tryWould_12 : decode cL_tryWould 12 = .ok (.ireturn, 1) := by decide +kernel
theorem dL_tryWould_13 : decode cL_tryWould 13 = .ok (.astore 4, 2) := by decide +kernel
theorem dL_tryWould_15 : decode cL_tryWould 15 = .ok (.ldc 22, 2) := by decide +kernel
theorem dL_tryWould_17 : decode cL_tryWould 17 = .ok (.ireturn, 1) := by decide +kernel
theorem dL_tryBest_0 : decode cL_tryBest 0 = .ok (.aload_n 0, 1) := by decide +kernel
theorem dL_tryBest_1 : decode cL_tryBest 1 = .ok (.iload_n 1, 1) := by decide +kernel
theorem dL_tryBest_2 : decode cL_tryBest 2 = .ok (.invokevirtual 104, 3) := by decide +kernel
theorem dL_tryBest_5 : decode cL_tryBest 5 = .ok (.ireturn, 1) := by decide +kernel
theorem dL_tryBest_6 : decode cL_tryBest 6 = .ok (.astore_n 2, 1) := by decide +kernel
theorem dL_tryBest_7 : decode cL_tryBest 7 = .ok (.ldc 15, 2) := by decide +kernel
theorem dL_tryBest_9 : decode cL_tryBest 9 = .ok (.ireturn, 1) := by decide +kernel
theorem dL_tryKeep_0 : decode cL_tryKeep 0 = .ok (.aload_n 0, 1) := by decide +kernel
theorem dL_tryKeep_1 : decode cL_tryKeep 1 = .ok (.iload_n 1, 1) := by decide +kernel
theorem dL_tryKeep_2 : decode cL_tryKeep 2 = .ok (.invokevirtual 107, 3) := by decide +kernel
theorem dL_tryKeep_5 : decode cL_tryKeep 5 = .ok (.ireturn, 1) := by decide +kernel
theorem dL_tryKeep_6 : decode cL_tryKeep 6 = .ok (.astore_n 2, 1) := by decide +kernel
theorem dL_tryKeep_7 : decode cL_tryKeep 7 = .ok (.ldc 15, 2) := by decide +kernel
theorem dL_tryKeep_9 : decode cL_tryKeep 9 = .ok (.ireturn, 1) := by decide +kernel
theorem dL_tryBack_0 : decode cL_tryBack 0 = .ok (.aload_n 0, 1) := by decide +kernel
theorem dL_tryBack_1 : decode cL_tryBack 1 = .ok (.iload_n 1, 1) := by decide +kernel
theorem dL_tryBack_2 : decode cL_tryBack 2 = .ok (.invokevirtual 110, 3) := by decide +kernel
theorem dL_tryBack_5 : decode cL_tryBack 5 = .ok (.ireturn, 1) := by decide +kernel
theorem dL_tryBack_6 : decode cL_tryBack 6 = .ok (.astore_n 2, 1) := by decide +kernel
theorem dL_tryBack_7 : decode cL_tryBack 7 = .ok (.ldc 15, 2) := by decide +kernel
theorem dL_tryBack_9 : decode cL_tryBack 9 = .ok (.ireturn, 1) := by decide +kernel
theorem dL_tryBack_10 : decode cL_tryBack 10 = .ok (.astore_n 2, 1) := by decide +kernel
theorem dL_tryBack_11 : decode cL_tryBack 11 = .ok (.ldc 25, 2) := by decide +kernel
theorem dL_tryBack_13 : decode cL_tryBack 13 = .ok (.ireturn, 1) := by decide +kernel
theorem dL_call_0 : decode cL_call 0 = .ok (.iload_n 1, 1) := by decide +kernel
theorem dL_call_1 : decode cL_call 1 = .ok (.tableswitch 274 0 23 #[111, 117, 122, 128, 135, 144, 151, 158, 165, 172, 178, 184, 189, 198, 205, 212, 218, 225, 230, 239, 246, 253, 262, 268], 111) := by decide +kernel
theorem dL_call_112 : decode cL_call 112 = .ok (.aload_n 0, 1) := by decide +kernel
theorem dL_call_113 : decode cL_call 113 = .ok (.iload_n 2, 1) := by decide +kernel
theorem dL_call_114 : decode cL_call 114 = .ok (.invokestatic 113, 3) := by decide +kernel
theorem dL_call_117 : decode cL_call 117 = .ok (.ireturn, 1) := by decide +kernel
theorem dL_call_118 : decode cL_call 118 = .ok (.aload_n 0, 1) := by decide +kernel
theorem dL_call_119 : decode cL_call 119 = .ok (.invokestatic 119, 3) := by decide +kernel
theorem dL_call_122 : decode cL_call 122 = .ok (.ireturn, 1) := by decide +kernel
theorem dL_call_123 : decode cL_call 123 = .ok (.aload_n 0, 1) := by decide +kernel
theorem dL_call_124 : decode cL_call 124 = .ok (.iload_n 2, 1) := by decide +kernel
theorem dL_call_125 : decode cL_call 125 = .ok (.invokestatic 123, 3) := by decide +kernel
theorem dL_call_128 : decode cL_call 128 = .ok (.ireturn, 1) := by decide +kernel
theorem dL_call_129 : decode cL_call 129 = .ok (.aload_n 0, 1) := by decide +kernel
theorem dL_call_130 : decode cL_call 130 = .ok (.iload_n 2, 1) := by decide +kernel
theorem dL_call_131 : decode cL_call 131 = .ok (.iload_n 3, 1) := by decide +kernel
theorem dL_call_132 : decode cL_call 132 = .ok (.invokestatic 126, 3) := by decide +kernel
theorem dL_call_135 : decode cL_call 135 = .ok (.ireturn, 1) := by decide +kernel
theorem dL_call_136 : decode cL_call 136 = .ok (.aload_n 0, 1) := by decide +kernel
theorem dL_call_137 : decode cL_call 137 = .ok (.iload_n 2, 1) := by decide +kernel
theorem dL_call_138 : decode cL_call 138 = .ok (.iload_n 3, 1) := by decide +kernel
theorem dL_call_139 : decode cL_call 139 = .ok (.iload 4, 2) := by decide +kernel
theorem dL_call_141 : decode cL_call 141 = .ok (.invokestatic 130, 3) := by decide +kernel
theorem dL_call_144 : decode cL_call 144 = .ok (.ireturn, 1) := by decide +kernel
theorem dL_call_145 : decode cL_call 145 = .ok (.aload_n 0, 1) := by decide +kernel
theorem dL_call_146 : decode cL_call 146 = .ok (.iload_n 2, 1) := by decide +kernel
theorem dL_call_147 : decode cL_call 147 = .ok (.iload_n 3, 1) := by decide +kernel
theorem dL_call_148 : decode cL_call 148 = .ok (.invokestatic 134, 3) := by decide +kernel
theorem dL_call_151 : decode cL_call 151 = .ok (.ireturn, 1) := by decide +kernel
theorem dL_call_152 : decode cL_call 152 = .ok (.aload_n 0, 1) := by decide +kernel
theorem dL_call_153 : decode cL_call 153 = .ok (.iload_n 2, 1) := by decide +kernel
theorem dL_call_154 : decode cL_call 154 = .ok (.iload_n 3, 1) := by decide +kernel
theorem dL_call_155 : decode cL_call 155 = .ok (.invokestatic 137, 3) := by decide +kernel
theorem dL_call_158 : decode cL_call 158 = .ok (.ireturn, 1) := by decide +kernel
theorem dL_call_159 : decode cL_call 159 = .ok (.aload_n 0, 1) := by decide +kernel
theorem dL_call_160 : decode cL_call 160 = .ok (.iload_n 2, 1) := by decide +kernel
theorem dL_call_161 : decode cL_call 161 = .ok (.iload_n 3, 1) := by decide +kernel
theorem dL_call_162 : decode cL_call 162 = .ok (.invokestatic 140, 3) := by decide +kernel
theorem dL_call_165 : decode cL_call 165 = .ok (.ireturn, 1) := by decide +kernel
theorem dL_call_166 : decode cL_call 166 = .ok (.aload_n 0, 1) := by decide +kernel
theorem dL_call_167 : decode cL_call 167 = .ok (.iload_n 2, 1) := by decide +kernel
theorem dL_call_168 : decode cL_call 168 = .ok (.iload_n 3, 1) := by decide +kernel
theorem dL_call_169 : decode cL_call 169 = .ok (.invokestatic 143, 3) := by decide +kernel
theorem dL_call_172 : decode cL_call 172 = .ok (.ireturn, 1) := by decide +kernel
theorem dL_call_173 : decode cL_call 173 = .ok (.aload_n 0, 1) := by decide +kernel
theorem dL_call_174 : decode cL_call 174 = .ok (.iload_n 2, 1) := by decide +kernel
theorem dL_call_175 : decode cL_call 175 = .ok (.invokestatic 146, 3) := by decide +kernel
theorem dL_call_178 : decode cL_call 178 = .ok (.ireturn, 1) := by decide +kernel
theorem dL_call_179 : decode cL_call 179 = .ok (.aload_n 0, 1) := by decide +kernel
theorem dL_call_180 : decode cL_call 180 = .ok (.iload_n 2, 1) := by decide +kernel
theorem dL_call_181 : decode cL_call 181 = .ok (.invokestatic 149, 3) := by decide +kernel
theorem dL_call_184 : decode cL_call 184 = .ok (.ireturn, 1) := by decide +kernel
theorem dL_call_185 : decode cL_call 185 = .ok (.aload_n 0, 1) := by decide +kernel
theorem dL_call_186 : decode cL_call 186 = .ok (.invokestatic 152, 3) := by decide +kernel
theorem dL_call_189 : decode cL_call 189 = .ok (.ireturn, 1) := by decide +kernel
theorem dL_call_190 : decode cL_call 190 = .ok (.aload_n 0, 1) := by decide +kernel
theorem dL_call_191 : decode cL_call 191 = .ok (.iload_n 2, 1) := by decide +kernel
theorem dL_call_192 : decode cL_call 192 = .ok (.iload_n 3, 1) := by decide +kernel
theorem dL_call_193 : decode cL_call 193 = .ok (.iload 4, 2) := by decide +kernel
theorem dL_call_195 : decode cL_call 195 = .ok (.invokestatic 155, 3) := by decide +kernel
theorem dL_call_198 : decode cL_call 198 = .ok (.ireturn, 1) := by decide +kernel
theorem dL_call_199 : decode cL_call 199 = .ok (.aload_n 0, 1) := by decide +kernel
theorem dL_call_200 : decode cL_call 200 = .ok (.iload_n 2, 1) := by decide +kernel
theorem dL_call_201 : decode cL_call 201 = .ok (.iload_n 3, 1) := by decide +kernel
theorem dL_call_202 : decode cL_call 202 = .ok (.invokestatic 158, 3) := by decide +kernel
theorem dL_call_205 : decode cL_call 205 = .ok (.ireturn, 1) := by decide +kernel
theorem dL_call_206 : decode cL_call 206 = .ok (.aload_n 0, 1) := by decide +kernel
theorem dL_call_207 : decode cL_call 207 = .ok (.iload_n 2, 1) := by decide +kernel
theorem dL_call_208 : decode cL_call 208 = .ok (.iload_n 3, 1) := by decide +kernel
theorem dL_call_209 : decode cL_call 209 = .ok (.invokestatic 161, 3) := by decide +kernel
theorem dL_call_212 : decode cL_call 212 = .ok (.ireturn, 1) := by decide +kernel
theorem dL_call_213 : decode cL_call 213 = .ok (.aload_n 0, 1) := by decide +kernel
theorem dL_call_214 : decode cL_call 214 = .ok (.iload_n 2, 1) := by decide +kernel
theorem dL_call_215 : decode cL_call 215 = .ok (.invokestatic 164, 3) := by decide +kernel
theorem dL_call_218 : decode cL_call 218 = .ok (.ireturn, 1) := by decide +kernel
theorem dL_call_219 : decode cL_call 219 = .ok (.aload_n 0, 1) := by decide +kernel
theorem dL_call_220 : decode cL_call 220 = .ok (.iload_n 2, 1) := by decide +kernel
theorem dL_call_221 : decode cL_call 221 = .ok (.iload_n 3, 1) := by decide +kernel
theorem dL_call_222 : decode cL_call 222 = .ok (.invokestatic 167, 3) := by decide +kernel
theorem dL_call_225 : decode cL_call 225 = .ok (.ireturn, 1) := by decide +kernel
theorem dL_call_226 : decode cL_call 226 = .ok (.aload_n 0, 1) := by decide +kernel
theorem dL_call_227 : decode cL_call 227 = .ok (.invokestatic 170, 3) := by decide +kernel
theorem dL_call_230 : decode cL_call 230 = .ok (.ireturn, 1) := by decide +kernel
theorem dL_call_231 : decode cL_call 231 = .ok (.aload_n 0, 1) := by decide +kernel
theorem dL_call_232 : decode cL_call 232 = .ok (.iload_n 2, 1) := by decide +kernel
theorem dL_call_233 : decode cL_call 233 = .ok (.iload_n 3, 1) := by decide +kernel
theorem dL_call_234 : decode cL_call 234 = .ok (.iload 4, 2) := by decide +kernel
theorem dL_call_236 : decode cL_call 236 = .ok (.invokestatic 173, 3) := by decide +kernel
theorem dL_call_239 : decode cL_call 239 = .ok (.ireturn, 1) := by decide +kernel
theorem dL_call_240 : decode cL_call 240 = .ok (.aload_n 0, 1) := by decide +kernel
theorem dL_call_241 : decode cL_call 241 = .ok (.iload_n 2, 1) := by decide +kernel
theorem dL_call_242 : decode cL_call 242 = .ok (.iload_n 3, 1) := by decide +kernel
theorem dL_call_243 : decode cL_call 243 = .ok (.invokestatic 176, 3) := by decide +kernel
theorem dL_call_246 : decode cL_call 246 = .ok (.ireturn, 1) := by decide +kernel
theorem dL_call_247 : decode cL_call 247 = .ok (.aload_n 0, 1) := by decide +kernel
theorem dL_call_248 : decode cL_call 248 = .ok (.iload_n 2, 1) := by decide +kernel
theorem dL_call_249 : decode cL_call 249 = .ok (.iload_n 3, 1) := by decide +kernel
theorem dL_call_250 : decode cL_call 250 = .ok (.invokestatic 179, 3) := by decide +kernel
theorem dL_call_253 : decode cL_call 253 = .ok (.ireturn, 1) := by decide +kernel
theorem dL_call_254 : decode cL_call 254 = .ok (.aload_n 0, 1) := by decide +kernel
theorem dL_call_255 : decode cL_call 255 = .ok (.iload_n 2, 1) := by decide +kernel
theorem dL_call_256 : decode cL_call 256 = .ok (.iload_n 3, 1) := by decide +kernel
theorem dL_call_257 : decode cL_call 257 = .ok (.iload 4, 2) := by decide +kernel
theorem dL_call_259 : decode cL_call 259 = .ok (.invokestatic 182, 3) := by decide +kernel
theorem dL_call_262 : decode cL_call 262 = .ok (.ireturn, 1) := by decide +kernel
theorem dL_call_263 : decode cL_call 263 = .ok (.aload_n 0, 1) := by decide +kernel
theorem dL_call_264 : decode cL_call 264 = .ok (.iload_n 2, 1) := by decide +kernel
theorem dL_call_265 : decode cL_call 265 = .ok (.invokestatic 185, 3) := by decide +kernel
theorem dL_call_268 : decode cL_call 268 = .ok (.ireturn, 1) := by decide +kernel
theorem dL_call_269 : decode cL_call 269 = .ok (.aload_n 0, 1) := by decide +kernel
theorem dL_call_270 : decode cL_call 270 = .ok (.iload_n 2, 1) := by decide +kernel
theorem dL_call_271 : decode cL_call 271 = .ok (.invokestatic 188, 3) := by decide +kernel
theorem dL_call_274 : decode cL_call 274 = .ok (.ireturn, 1) := by decide +kernel
theorem dL_call_275 : decode cL_call 275 = .ok (.aload_n 0, 1) := by decide +kernel
theorem dL_call_276 : decode cL_call 276 = .ok (.iload_n 2, 1) := by decide +kernel
theorem dL_call_277 : decode cL_call 277 = .ok (.invokestatic 191, 3) := by decide +kernel
theorem dL_call_280 : decode cL_call 280 = .ok (.ireturn, 1) := by decide +kernel
theorem dL_cell_0 : decode cL_cell 0 = .ok (.iload_n 1, 1) := by decide +kernel
theorem dL_cell_1 : decode cL_cell 1 = .ok (.aload_n 0, 1) := by decide +kernel
theorem dL_cell_2 : decode cL_cell 2 = .ok (.arraylength, 1) := by decide +kernel
theorem dL_cell_3 : decode cL_cell 3 = .ok (.if_icmp .ge 9, 3) := by decide +kernel
theorem dL_cell_6 : decode cL_cell 6 = .ok (.aload_n 0, 1) := by decide +kernel
theorem dL_cell_7 : decode cL_cell 7 = .ok (.iload_n 1, 1) := by decide +kernel
theorem dL_cell_8 : decode cL_cell 8 = .ok (.iaload, 1) := by decide +kernel
theorem dL_cell_9 : decode cL_cell 9 = .ok (.goto 13, 3) := by decide +kernel
theorem dL_cell_12 : decode cL_cell 12 = .ok (.ldc 194, 2) := by decide +kernel
theorem dL_cell_14 : decode cL_cell 14 = .ok (.iload_n 1, 1) := by decide +kernel
theorem dL_cell_15 : decode cL_cell 15 = .ok (.iconst 3, 1) := by decide +kernel
theorem dL_cell_16 : decode cL_cell 16 = .ok (.iadd, 1) := by decide +kernel
theorem dL_cell_17 : decode cL_cell 17 = .ok (.imul, 1) := by decide +kernel
theorem dL_cell_18 : decode cL_cell 18 = .ok (.sipush 11117, 3) := by decide +kernel
theorem dL_cell_21 : decode cL_cell 21 = .ok (.iadd, 1) := by decide +kernel
theorem dL_cell_22 : decode cL_cell 22 = .ok (.ldc 195, 2) := by decide +kernel
theorem dL_cell_24 : decode cL_cell 24 = .ok (.iand, 1) := by decide +kernel
theorem dL_cell_25 : decode cL_cell 25 = .ok (.ireturn, 1) := by decide +kernel
theorem dL_thrown_0 : decode cL_thrown 0 = .ok (.iload_n 0, 1) := by decide +kernel
theorem dL_thrown_1 : decode cL_thrown 1 = .ok (.ldc 15, 2) := by decide +kernel
theorem dL_thrown_3 : decode cL_thrown 3 = .ok (.if_icmp .eq 15, 3) := by decide +kernel
theorem dL_thrown_6 : decode cL_thrown 6 = .ok (.iload_n 0, 1) := by decide +kernel
theorem dL_thrown_7 : decode cL_thrown 7 = .ok (.ldc 22, 2) := by decide +kernel
theorem dL_thrown_9 : decode cL_thrown 9 = .ok (.if_icmp .eq 9, 3) := by decide +kernel
theorem dL_thrown_12 : decode cL_thrown 12 = .ok (.iload_n 0, 1) := by decide +kernel
theorem dL_thrown_13 : decode cL_thrown 13 = .ok (.ldc 25, 2) := by decide +kernel
theorem dL_thrown_15 : decode cL_thrown 15 = .ok (.if_icmp .ne 7, 3) := by decide +kernel
theorem dL_thrown_18 : decode cL_thrown 18 = .ok (.iconst 1, 1) := by decide +kernel
theorem dL_thrown_19 : decode cL_thrown 19 = .ok (.goto 4, 3) := by decide +kernel
theorem dL_thrown_22 : decode cL_thrown 22 = .ok (.iconst 0, 1) := by decide +kernel
theorem dL_thrown_23 : decode cL_thrown 23 = .ok (.ireturn, 1) := by decide +kernel
theorem dL_refuses_0 : decode cL_refuses 0 = .ok (.aload_n 0, 1) := by decide +kernel
theorem dL_refuses_1 : decode cL_refuses 1 = .ok (.iconst 2, 1) := by decide +kernel
theorem dL_refuses_2 : decode cL_refuses 2 = .ok (.iconst 0, 1) := by decide +kernel
theorem dL_refuses_3 : decode cL_refuses 3 = .ok (.iconst 0, 1) := by decide +kernel
theorem dL_refuses_4 : decode cL_refuses 4 = .ok (.iconst 0, 1) := by decide +kernel
theorem dL_refuses_5 : decode cL_refuses 5 = .ok (.invokestatic 196, 3) := by decide +kernel
theorem dL_refuses_8 : decode cL_refuses 8 = .ok (.iload_n 1, 1) := by decide +kernel
theorem dL_refuses_9 : decode cL_refuses 9 = .ok (.bipush 50, 2) := by decide +kernel
theorem dL_refuses_11 : decode cL_refuses 11 = .ok (.irem, 1) := by decide +kernel
theorem dL_refuses_12 : decode cL_refuses 12 = .ok (.iadd, 1) := by decide +kernel
theorem dL_refuses_13 : decode cL_refuses 13 = .ok (.istore_n 2, 1) := by decide +kernel
theorem dL_refuses_14 : decode cL_refuses 14 = .ok (.aload_n 0, 1) := by decide +kernel
theorem dL_refuses_15 : decode cL_refuses 15 = .ok (.iconst 2, 1) := by decide +kernel
theorem dL_refuses_16 : decode cL_refuses 16 = .ok (.iconst 1, 1) := by decide +kernel
theorem dL_refuses_17 : decode cL_refuses 17 = .ok (.iconst 0, 1) := by decide +kernel
theorem dL_refuses_18 : decode cL_refuses 18 = .ok (.iconst 0, 1) := by decide +kernel
theorem dL_refuses_19 : decode cL_refuses 19 = .ok (.invokestatic 196, 3) := by decide +kernel
theorem dL_refuses_22 : decode cL_refuses 22 = .ok (.iload_n 1, 1) := by decide +kernel
theorem dL_refuses_23 : decode cL_refuses 23 = .ok (.bipush 50, 2) := by decide +kernel
theorem dL_refuses_25 : decode cL_refuses 25 = .ok (.irem, 1) := by decide +kernel
theorem dL_refuses_26 : decode cL_refuses 26 = .ok (.iadd, 1) := by decide +kernel
theorem dL_refuses_27 : decode cL_refuses 27 = .ok (.istore_n 3, 1) := by decide +kernel
theorem dL_refuses_28 : decode cL_refuses 28 = .ok (.aload_n 0, 1) := by decide +kernel
theorem dL_refuses_29 : decode cL_refuses 29 = .ok (.iconst 2, 1) := by decide +kernel
theorem dL_refuses_30 : decode cL_refuses 30 = .ok (.iconst 2, 1) := by decide +kernel
theorem dL_refuses_31 : decode cL_refuses 31 = .ok (.iconst 0, 1) := by decide +kernel
theorem dL_refuses_32 : decode cL_refuses 32 = .ok (.iconst 0, 1) := by decide +kernel
theorem dL_refuses_33 : decode cL_refuses 33 = .ok (.invokestatic 196, 3) := by decide +kernel
theorem dL_refuses_36 : decode cL_refuses 36 = .ok (.iload_n 1, 1) := by decide +kernel
theorem dL_refuses_37 : decode cL_refuses 37 = .ok (.bipush 50, 2) := by decide +kernel
theorem dL_refuses_39 : decode cL_refuses 39 = .ok (.irem, 1) := by decide +kernel
theorem dL_refuses_40 : decode cL_refuses 40 = .ok (.iadd, 1) := by decide +kernel
theorem dL_refuses_41 : decode cL_refuses 41 = .ok (.istore 4, 2) := by decide +kernel
theorem dL_refuses_43 : decode cL_refuses 43 = .ok (.iload_n 1, 1) := by decide +kernel
theorem dL_refuses_44 : decode cL_refuses 44 = .ok (.iconst 2, 1) := by decide +kernel
