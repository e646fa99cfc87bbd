theorem dX5_set_42 : decode cX5_set 42 = .ok (.invokevirtual 284, 3) := by decide +kernel
theorem dX5_set_45 : decode cX5_set 45 = .ok (.aload_n 0, 1) := by decide +kernel
theorem dX5_set_46 : decode cX5_set 46 = .ok (.getfield 10, 3) := by decide +kernel
theorem dX5_set_49 : decode cX5_set 49 = .ok (.iload_n 1, 1) := by decide +kernel
theorem dX5_set_50 : decode cX5_set 50 = .ok (.invokevirtual 274, 3) := by decide +kernel
theorem dX5_set_53 : decode cX5_set 53 = .ok (.istore_n 3, 1) := by decide +kernel
theorem dX5_set_54 : decode cX5_set 54 = .ok (.aload_n 0, 1) := by decide +kernel
theorem dX5_set_55 : decode cX5_set 55 = .ok (.getfield 10, 3) := by decide +kernel
theorem dX5_set_58 : decode cX5_set 58 = .ok (.iload_n 1, 1) := by decide +kernel
theorem dX5_set_59 : decode cX5_set 59 = .ok (.iload_n 2, 1) := by decide +kernel
theorem dX5_set_60 : decode cX5_set 60 = .ok (.invokevirtual 328, 3) := by decide +kernel
theorem dX5_set_63 : decode cX5_set 63 = .ok (.iload_n 3, 1) := by decide +kernel
theorem dX5_set_64 : decode cX5_set 64 = .ok (.ireturn, 1) := by decide +kernel
theorem dX5_undo_0 : decode cX5_undo 0 = .ok (.aload_n 0, 1) := by decide +kernel
theorem dX5_undo_1 : decode cX5_undo 1 = .ok (.getfield 22, 3) := by decide +kernel
theorem dX5_undo_4 : decode cX5_undo 4 = .ok (.invokevirtual 332, 3) := by decide +kernel
theorem dX5_undo_7 : decode cX5_undo 7 = .ok (.ifCond .ne 14, 3) := by decide +kernel
theorem dX5_undo_10 : decode cX5_undo 10 = .ok (.new 72, 3) := by decide +kernel
theorem dX5_undo_13 : decode cX5_undo 13 = .ok (.dup, 1) := by decide +kernel
theorem dX5_undo_14 : decode cX5_undo 14 = .ok (.ldc_w 333, 3) := by decide +kernel
theorem dX5_undo_17 : decode cX5_undo 17 = .ok (.invokespecial 76, 3) := by decide +kernel
theorem dX5_undo_20 : decode cX5_undo 20 = .ok (.athrow, 1) := by decide +kernel
theorem dX5_undo_21 : decode cX5_undo 21 = .ok (.aload_n 0, 1) := by decide +kernel
theorem dX5_undo_22 : decode cX5_undo 22 = .ok (.getfield 22, 3) := by decide +kernel
theorem dX5_undo_25 : decode cX5_undo 25 = .ok (.aload_n 0, 1) := by decide +kernel
theorem dX5_undo_26 : decode cX5_undo 26 = .ok (.getfield 10, 3) := by decide +kernel
theorem dX5_undo_29 : decode cX5_undo 29 = .ok (.invokevirtual 335, 3) := by decide +kernel
theorem dX5_undo_32 : decode cX5_undo 32 = .ok (.aload_n 0, 1) := by decide +kernel
theorem dX5_undo_33 : decode cX5_undo 33 = .ok (.getfield 22, 3) := by decide +kernel
theorem dX5_undo_36 : decode cX5_undo 36 = .ok (.invokevirtual 332, 3) := by decide +kernel
theorem dX5_undo_39 : decode cX5_undo 39 = .ok (.ireturn, 1) := by decide +kernel
theorem dX5_find_0 : decode cX5_find 0 = .ok (.aload_n 0, 1) := by decide +kernel
theorem dX5_find_1 : decode cX5_find 1 = .ok (.iload_n 1, 1) := by decide +kernel
theorem dX5_find_2 : decode cX5_find 2 = .ok (.invokevirtual 184, 3) := by decide +kernel
theorem dX5_find_5 : decode cX5_find 5 = .ok (.aload_n 0, 1) := by decide +kernel
theorem dX5_find_6 : decode cX5_find 6 = .ok (.iload_n 2, 1) := by decide +kernel
theorem dX5_find_7 : decode cX5_find 7 = .ok (.invokevirtual 217, 3) := by decide +kernel
theorem dX5_find_10 : decode cX5_find 10 = .ok (.iload_n 3, 1) := by decide +kernel
theorem dX5_find_11 : decode cX5_find 11 = .ok (.ifCond .ge 14, 3) := by decide +kernel
theorem dX5_find_14 : decode cX5_find 14 = .ok (.new 61, 3) := by decide +kernel
theorem dX5_find_17 : decode cX5_find 17 = .ok (.dup, 1) := by decide +kernel
theorem dX5_find_18 : decode cX5_find 18 = .ok (.ldc_w 338, 3) := by decide +kernel
theorem dX5_find_21 : decode cX5_find 21 = .ok (.invokespecial 65, 3) := by decide +kernel
theorem dX5_find_24 : decode cX5_find 24 = .ok (.athrow, 1) := by decide +kernel
theorem dX5_find_25 : decode cX5_find 25 = .ok (.aload_n 0, 1) := by decide +kernel
theorem dX5_find_26 : decode cX5_find 26 = .ok (.iload_n 1, 1) := by decide +kernel
theorem dX5_find_27 : decode cX5_find 27 = .ok (.iload_n 2, 1) := by decide +kernel
theorem dX5_find_28 : decode cX5_find 28 = .ok (.invokevirtual 340, 3) := by decide +kernel
theorem dX5_find_31 : decode cX5_find 31 = .ok (.istore 4, 2) := by decide +kernel
theorem dX5_find_33 : decode cX5_find 33 = .ok (.iconst 0, 1) := by decide +kernel
theorem dX5_find_34 : decode cX5_find 34 = .ok (.istore 5, 2) := by decide +kernel
theorem dX5_find_36 : decode cX5_find 36 = .ok (.iconst 0, 1) := by decide +kernel
theorem dX5_find_37 : decode cX5_find 37 = .ok (.istore 6, 2) := by decide +kernel
theorem dX5_find_39 : decode cX5_find 39 = .ok (.iload 6, 2) := by decide +kernel
theorem dX5_find_41 : decode cX5_find 41 = .ok (.bipush 20, 2) := by decide +kernel
theorem dX5_find_43 : decode cX5_find 43 = .ok (.if_icmp .ge 31, 3) := by decide +kernel
theorem dX5_find_46 : decode cX5_find 46 = .ok (.iload 4, 2) := by decide +kernel
theorem dX5_find_48 : decode cX5_find 48 = .ok (.iload 6, 2) := by decide +kernel
theorem dX5_find_50 : decode cX5_find 50 = .ok (.invokestatic 245, 3) := by decide +kernel
theorem dX5_find_53 : decode cX5_find 53 = .ok (.ifCond .eq 15, 3) := by decide +kernel
theorem dX5_find_56 : decode cX5_find 56 = .ok (.iload 5, 2) := by decide +kernel
theorem dX5_find_58 : decode cX5_find 58 = .ok (.iload_n 3, 1) := by decide +kernel
theorem dX5_find_59 : decode cX5_find 59 = .ok (.if_icmp .ne 6, 3) := by decide +kernel
theorem dX5_find_62 : decode cX5_find 62 = .ok (.iload 6, 2) := by decide +kernel
theorem dX5_find_64 : decode cX5_find 64 = .ok (.ireturn, 1) := by decide +kernel
theorem dX5_find_65 : decode cX5_find 65 = .ok (.iinc 5 1, 3) := by decide +kernel
theorem dX5_find_68 : decode cX5_find 68 = .ok (.iinc 6 1, 3) := by decide +kernel
theorem dX5_find_71 : decode cX5_find 71 = .ok (.goto (-32), 3) := by decide +kernel
theorem dX5_find_74 : decode cX5_find 74 = .ok (.iconst (-1), 1) := by decide +kernel
theorem dX5_find_75 : decode cX5_find 75 = .ok (.ireturn, 1) := by decide +kernel
theorem dX5_together_0 : decode cX5_together 0 = .ok (.aload_n 0, 1) := by decide +kernel
theorem dX5_together_1 : decode cX5_together 1 = .ok (.iload_n 1, 1) := by decide +kernel
theorem dX5_together_2 : decode cX5_together 2 = .ok (.invokevirtual 217, 3) := by decide +kernel
theorem dX5_together_5 : decode cX5_together 5 = .ok (.aload_n 0, 1) := by decide +kernel
theorem dX5_together_6 : decode cX5_together 6 = .ok (.iload_n 2, 1) := by decide +kernel
theorem dX5_together_7 : decode cX5_together 7 = .ok (.invokevirtual 217, 3) := by decide +kernel
theorem dX5_together_10 : decode cX5_together 10 = .ok (.aload_n 0, 1) := by decide +kernel
theorem dX5_together_11 : decode cX5_together 11 = .ok (.iload_n 1, 1) := by decide +kernel
theorem dX5_together_12 : decode cX5_together 12 = .ok (.invokevirtual 223, 3) := by decide +kernel
theorem dX5_together_15 : decode cX5_together 15 = .ok (.aload_n 0, 1) := by decide +kernel
theorem dX5_together_16 : decode cX5_together 16 = .ok (.iload_n 2, 1) := by decide +kernel
theorem dX5_together_17 : decode cX5_together 17 = .ok (.invokevirtual 223, 3) := by decide +kernel
theorem dX5_together_20 : decode cX5_together 20 = .ok (.iand, 1) := by decide +kernel
theorem dX5_together_21 : decode cX5_together 21 = .ok (.invokestatic 226, 3) := by decide +kernel
theorem dX5_together_24 : decode cX5_together 24 = .ok (.ireturn, 1) := by decide +kernel
theorem dX5_longest_0 : decode cX5_longest 0 = .ok (.aload_n 0, 1) := by decide +kernel
theorem dX5_longest_1 : decode cX5_longest 1 = .ok (.iload_n 1, 1) := by decide +kernel
theorem dX5_longest_2 : decode cX5_longest 2 = .ok (.invokevirtual 184, 3) := by decide +kernel
theorem dX5_longest_5 : decode cX5_longest 5 = .ok (.aload_n 0, 1) := by decide +kernel
theorem dX5_longest_6 : decode cX5_longest 6 = .ok (.iload_n 2, 1) := by decide +kernel
theorem dX5_longest_7 : decode cX5_longest 7 = .ok (.invokevirtual 217, 3) := by decide +kernel
theorem dX5_longest_10 : decode cX5_longest 10 = .ok (.aload_n 0, 1) := by decide +kernel
theorem dX5_longest_11 : decode cX5_longest 11 = .ok (.iload_n 1, 1) := by decide +kernel
theorem dX5_longest_12 : decode cX5_longest 12 = .ok (.iload_n 2, 1) := by decide +kernel
theorem dX5_longest_13 : decode cX5_longest 13 = .ok (.invokevirtual 340, 3) := by decide +kernel
theorem dX5_longest_16 : decode cX5_longest 16 = .ok (.istore_n 3, 1) := by decide +kernel
theorem dX5_longest_17 : decode cX5_longest 17 = .ok (.iconst 0, 1) := by decide +kernel
theorem dX5_longest_18 : decode cX5_longest 18 = .ok (.istore 4, 2) := by decide +kernel
theorem dX5_longest_20 : decode cX5_longest 20 = .ok (.iconst 0, 1) := by decide +kernel
theorem dX5_longest_21 : decode cX5_longest 21 = .ok (.istore 5, 2) := by decide +kernel
theorem dX5_longest_23 : decode cX5_longest 23 = .ok (.iconst 0, 1) := by decide +kernel
theorem dX5_longest_24 : decode cX5_longest 24 = .ok (.istore 6, 2) := by decide +kernel
theorem dX5_longest_26 : decode cX5_longest 26 = .ok (.iload 6, 2) := by decide +kernel
theorem dX5_longest_28 : decode cX5_longest 28 = .ok (.bipush 20, 2) := by decide +kernel
theorem dX5_longest_30 : decode cX5_longest 30 = .ok (.if_icmp .ge 37, 3) := by decide +kernel
theorem dX5_longest_33 : decode cX5_longest 33 = .ok (.iload_n 3, 1) := by decide +kernel
theorem dX5_longest_34 : decode cX5_longest 34 = .ok (.iload 6, 2) := by decide +kernel
theorem dX5_longest_36 : decode cX5_longest 36 = .ok (.invokestatic 245, 3) := by decide +kernel
theorem dX5_longest_39 : decode cX5_longest 39 = .ok (.ifCond .eq 10, 3) := by decide +kernel
theorem dX5_longest_42 : decode cX5_longest 42 = .ok (.iload 5, 2) := by decide +kernel
theorem dX5_longest_44 : decode cX5_longest 44 = .ok (.iconst 1, 1) := by decide +kernel
theorem dX5_longest_45 : decode cX5_longest 45 = .ok (.iadd, 1) := by decide +kernel
theorem dX5_longest_46 : decode cX5_longest 46 = .ok (.goto 4, 3) := by decide +kernel
theorem dX5_longest_49 : decode cX5_longest 49 = .ok (.iconst 0, 1) := by decide +kernel
theorem dX5_longest_50 : decode cX5_longest 50 = .ok (.istore 5, 2) := by decide +kernel
theorem dX5_longest_52 : decode cX5_longest 52 = .ok (.iload 4, 2) := by decide +kernel
theorem dX5_longest_54 : decode cX5_longest 54 = .ok (.iload 5, 2) := by decide +kernel
theorem dX5_longest_56 : decode cX5_longest 56 = .ok (.invokestatic 343, 3) := by decide +kernel
theorem dX5_longest_59 : decode cX5_longest 59 = .ok (.istore 4, 2) := by decide +kernel
theorem dX5_longest_61 : decode cX5_longest 61 = .ok (.iinc 6 1, 3) := by decide +kernel
theorem dX5_longest_64 : decode cX5_longest 64 = .ok (.goto (-38), 3) := by decide +kernel
theorem dX5_longest_67 : decode cX5_longest 67 = .ok (.iload 4, 2) := by decide +kernel
theorem dX5_longest_69 : decode cX5_longest 69 = .ok (.ireturn, 1) := by decide +kernel
theorem dX5_ifIll_0 : decode cX5_ifIll 0 = .ok (.aload_n 0, 1) := by decide +kernel
theorem dX5_ifIll_1 : decode cX5_ifIll 1 = .ok (.iload_n 1, 1) := by decide +kernel
theorem dX5_ifIll_2 : decode cX5_ifIll 2 = .ok (.invokevirtual 217, 3) := by decide +kernel
theorem dX5_ifIll_5 : decode cX5_ifIll 5 = .ok (.iload_n 2, 1) := by decide +kernel
theorem dX5_ifIll_6 : decode cX5_ifIll 6 = .ok (.invokestatic 181, 3) := by decide +kernel
theorem dX5_ifIll_9 : decode cX5_ifIll 9 = .ok (.iload_n 3, 1) := by decide +kernel
theorem dX5_ifIll_10 : decode cX5_ifIll 10 = .ok (.ifCond .eq 19, 3) := by decide +kernel
theorem dX5_ifIll_13 : decode cX5_ifIll 13 = .ok (.iload_n 3, 1) := by decide +kernel
theorem dX5_ifIll_14 : decode cX5_ifIll 14 = .ok (.iconst 1, 1) := by decide +kernel
theorem dX5_ifIll_15 : decode cX5_ifIll 15 = .ok (.if_icmp .eq 14, 3) := by decide +kernel
theorem dX5_ifIll_18 : decode cX5_ifIll 18 = .ok (.new 61, 3) := by decide +kernel
theorem dX5_ifIll_21 : decode cX5_ifIll 21 = .ok (.dup, 1) := by decide +kernel
theorem dX5_ifIll_22 : decode cX5_ifIll 22 = .ok (.ldc_w 348, 3) := by decide +kernel
theorem dX5_ifIll_25 : decode cX5_ifIll 25 = .ok (.invokespecial 65, 3) := by decide +kernel
theorem dX5_ifIll_28 : decode cX5_ifIll 28 = .ok (.athrow, 1) := by decide +kernel
theorem dX5_ifIll_29 : decode cX5_ifIll 29 = .ok (.aload_n 0, 1) := by decide +kernel
theorem dX5_ifIll_30 : decode cX5_ifIll 30 = .ok (.getfield 16, 3) := by decide +kernel
theorem dX5_ifIll_33 : decode cX5_ifIll 33 = .ok (.aload_n 0, 1) := by decide +kernel
theorem dX5_ifIll_34 : decode cX5_ifIll 34 = .ok (.getfield 10, 3) := by decide +kernel
theorem dX5_ifIll_37 : decode cX5_ifIll 37 = .ok (.invokevirtual 350, 3) := by decide +kernel
theorem dX5_ifIll_40 : decode cX5_ifIll 40 = .ok (.aload_n 0, 1) := by decide +kernel
theorem dX5_ifIll_41 : decode cX5_ifIll 41 = .ok (.getfield 16, 3) := by decide +kernel
theorem dX5_ifIll_44 : decode cX5_ifIll 44 = .ok (.iload_n 1, 1) := by decide +kernel
theorem dX5_ifIll_45 : decode cX5_ifIll 45 = .ok (.iload_n 2, 1) := by decide +kernel
theorem dX5_ifIll_46 : decode cX5_ifIll 46 = .ok (.aload_n 0, 1) := by decide +kernel
theorem dX5_ifIll_47 : decode cX5_ifIll 47 = .ok (.getfield 10, 3) := by decide +kernel
theorem dX5_ifIll_50 : decode cX5_ifIll 50 = .ok (.iload_n 2, 1) := by decide +kernel
theorem dX5_ifIll_51 : decode cX5_ifIll 51 = .ok (.invokevirtual 206, 3) := by decide +kernel
theorem dX5_ifIll_54 : decode cX5_ifIll 54 = .ok (.iload_n 1, 1) := by decide +kernel
theorem dX5_ifIll_55 : decode cX5_ifIll 55 = .ok (.invokestatic 245, 3) := by decide +kernel
theorem dX5_ifIll_58 : decode cX5_ifIll 58 = .ok (.ifCond .ne 7, 3) := by decide +kernel
theorem dX5_ifIll_61 : decode cX5_ifIll 61 = .ok (.iconst 1, 1) := by decide +kernel
theorem dX5_ifIll_62 : decode cX5_ifIll 62 = .ok (.goto 4, 3) := by decide +kernel
theorem dX5_ifIll_65 : decode cX5_ifIll 65 = .ok (.iconst 0, 1) := by decide +kernel
theorem dX5_ifIll_66 : decode cX5_ifIll 66 = .ok (.invokevirtual 130, 3) := by decide +kernel
theorem dX5_ifIll_69 : decode cX5_ifIll 69 = .ok (.pop, 1) := by decide +kernel
theorem dX5_ifIll_70 : decode cX5_ifIll 70 = .ok (.aload_n 0, 1) := by decide +kernel
theorem dX5_ifIll_71 : decode cX5_ifIll 71 = .ok (.getfield 44, 3) := by decide +kernel
theorem dX5_ifIll_74 : decode cX5_ifIll 74 = .ok (.aload_n 0, 1) := by decide +kernel
theorem dX5_ifIll_75 : decode cX5_ifIll 75 = .ok (.getfield 10, 3) := by decide +kernel
theorem dX5_ifIll_78 : decode cX5_ifIll 78 = .ok (.iload_n 2, 1) := by decide +kernel
theorem dX5_ifIll_79 : decode cX5_ifIll 79 = .ok (.invokevirtual 165, 3) := by decide +kernel
theorem dX5_ifIll_82 : decode cX5_ifIll 82 = .ok (.aload_n 0, 1) := by decide +kernel
theorem dX5_ifIll_83 : decode cX5_ifIll 83 = .ok (.getfield 48, 3) := by decide +kernel
theorem dX5_ifIll_86 : decode cX5_ifIll 86 = .ok (.aload_n 0, 1) := by decide +kernel
theorem dX5_ifIll_87 : decode cX5_ifIll 87 = .ok (.getfield 16, 3) := by decide +kernel
theorem dX5_ifIll_90 : decode cX5_ifIll 90 = .ok (.iload_n 2, 1) := by decide +kernel
theorem dX5_ifIll_91 : decode cX5_ifIll 91 = .ok (.invokevirtual 165, 3) := by decide +kernel
theorem dX5_ifIll_94 : decode cX5_ifIll 94 = .ok (.iload_n 3, 1) := by decide +kernel
theorem dX5_ifIll_95 : decode cX5_ifIll 95 = .ok (.ifCond .ne 10, 3) := by decide +kernel
theorem dX5_ifIll_98 : decode cX5_ifIll 98 = .ok (.aload_n 0, 1) := by decide +kernel
theorem dX5_ifIll_99 : decode cX5_ifIll 99 = .ok (.invokevirtual 353, 3) := by decide +kernel
theorem dX5_ifIll_102 : decode cX5_ifIll 102 = .ok (.goto 18, 3) := by decide +kernel
theorem dX5_ifIll_105 : decode cX5_ifIll 105 = .ok (.aload_n 0, 1) := by decide +kernel
theorem dX5_ifIll_106 : decode cX5_ifIll 106 = .ok (.getfield 48, 3) := by decide +kernel
theorem dX5_ifIll_109 : decode cX5_ifIll 109 = .ok (.invokevirtual 205, 3) := by decide +kernel
theorem dX5_ifIll_112 : decode cX5_ifIll 112 = .ok (.aload_n 0, 1) := by decide +kernel
theorem dX5_ifIll_113 : decode cX5_ifIll 113 = .ok (.getfield 44, 3) := by decide +kernel
theorem dX5_ifIll_116 : decode cX5_ifIll 116 = .ok (.invokevirtual 205, 3) := by decide +kernel
theorem dX5_ifIll_119 : decode cX5_ifIll 119 = .ok (.isub, 1) := by decide +kernel
theorem dX5_ifIll_120 : decode cX5_ifIll 120 = .ok (.ireturn, 1) := by decide +kernel
theorem dX5_partsChanged_0 : decode cX5_partsChanged 0 = .ok (.iconst 0, 1) := by decide +kernel
theorem dX5_partsChanged_1 : decode cX5_partsChanged 1 = .ok (.istore_n 1, 1) := by decide +kernel
theorem dX5_partsChanged_2 : decode cX5_partsChanged 2 = .ok (.iconst 0, 1) := by decide +kernel
theorem dX5_partsChanged_3 : decode cX5_partsChanged 3 = .ok (.istore_n 2, 1) := by decide +kernel
theorem dX5_partsChanged_4 : decode cX5_partsChanged 4 = .ok (.iload_n 2, 1) := by decide +kernel
theorem dX5_partsChanged_5 : decode cX5_partsChanged 5 = .ok (.aload_n 0, 1) := by decide +kernel
theorem dX5_partsChanged_6 : decode cX5_partsChanged 6 = .ok (.getfield 10, 3) := by decide +kernel
theorem dX5_partsChanged_9 : decode cX5_partsChanged 9 = .ok (.invokevirtual 138, 3) := by decide +kernel
theorem dX5_partsChanged_12 : decode cX5_partsChanged 12 = .ok (.if_icmp .ge 34, 3) := by decide +kernel
theorem dX5_partsChanged_15 : decode cX5_partsChanged 15 = .ok (.aload_n 0, 1) := by decide +kernel
theorem dX5_partsChanged_16 : decode cX5_partsChanged 16 = .ok (.getfield 44, 3) := by decide +kernel
theorem dX5_partsChanged_19 : decode cX5_partsChanged 19 = .ok (.iload_n 2, 1) := by decide +kernel
theorem dX5_partsChanged_20 : decode cX5_partsChanged 20 = .ok (.invokevirtual 194, 3) := by decide +kernel
theorem dX5_partsChanged_23 : decode cX5_partsChanged 23 = .ok (.aload_n 0, 1) := by decide +kernel
theorem dX5_partsChanged_24 : decode cX5_partsChanged 24 = .ok (.getfield 48, 3) := by decide +kernel
theorem dX5_partsChanged_27 : decode cX5_partsChanged 27 = .ok (.iload_n 2, 1) := by decide +kernel
theorem dX5_partsChanged_28 : decode cX5_partsChanged 28 = .ok (.invokevirtual 194, 3) := by decide +kernel
theorem dX5_partsChanged_31 : decode cX5_partsChanged 31 = .ok (.if_icmp .eq 9, 3) := by decide +kernel
theorem dX5_partsChanged_34 : decode cX5_partsChanged 34 = .ok (.iload_n 1, 1) := by decide +kernel
theorem dX5_partsChanged_35 : decode cX5_partsChanged 35 = .ok (.iconst 1, 1) := by decide +kernel
theorem dX5_partsChanged_36 : decode cX5_partsChanged 36 = .ok (.iload_n 2, 1) := by decide +kernel
theorem dX5_partsChanged_37 : decode cX5_partsChanged 37 = .ok (.ishl, 1) := by decide +kernel
theorem dX5_partsChanged_38 : decode cX5_partsChanged 38 = .ok (.ior, 1) := by decide +kernel
theorem dX5_partsChanged_39 : decode cX5_partsChanged 39 = .ok (.istore_n 1, 1) := by decide +kernel
theorem dX5_partsChanged_40 : decode cX5_partsChanged 40 = .ok (.iinc 2 1, 3) := by decide +kernel
theorem dX5_partsChanged_43 : decode cX5_partsChanged 43 = .ok (.goto (-39), 3) := by decide +kernel
theorem dX5_partsChanged_46 : decode cX5_partsChanged 46 = .ok (.iload_n 1, 1) := by decide +kernel
theorem dX5_partsChanged_47 : decode cX5_partsChanged 47 = .ok (.ireturn, 1) := by decide +kernel
theorem dX5_bestUnderstudy_0 : decode cX5_bestUnderstudy 0 = .ok (.aload_n 0, 1) := by decide +kernel
theorem dX5_bestUnderstudy_1 : decode cX5_bestUnderstudy 1 = .ok (.iload_n 1, 1) := by decide +kernel
theorem dX5_bestUnderstudy_2 : decode cX5_bestUnderstudy 2 = .ok (.invokevirtual 184, 3) := by decide +kernel
theorem dX5_bestUnderstudy_5 : decode cX5_bestUnderstudy 5 = .ok (.iconst (-1), 1) := by decide +kernel
theorem dX5_bestUnderstudy_6 : decode cX5_bestUnderstudy 6 = .ok (.istore_n 2, 1) := by decide +kernel
theorem dX5_bestUnderstudy_7 : decode cX5_bestUnderstudy 7 = .ok (.iconst 0, 1) := by decide +kernel
theorem dX5_bestUnderstudy_8 : decode cX5_bestUnderstudy 8 = .ok (.istore_n 3, 1) := by decide +kernel
theorem dX5_bestUnderstudy_9 : decode cX5_bestUnderstudy 9 = .ok (.iconst 0, 1) := by decide +kernel
theorem dX5_bestUnderstudy_10 : decode cX5_bestUnderstudy 10 = .ok (.istore 4, 2) := by decide +kernel
theorem dX5_bestUnderstudy_12 : decode cX5_bestUnderstudy 12 = .ok (.iconst 0, 1) := by decide +kernel
theorem dX5_bestUnderstudy_13 : decode cX5_bestUnderstudy 13 = .ok (.istore 5, 2) := by decide +kernel
theorem dX5_bestUnderstudy_15 : decode cX5_bestUnderstudy 15 = .ok (.iload 5, 2) := by decide +kernel
theorem dX5_bestUnderstudy_17 : decode cX5_bestUnderstudy 17 = .ok (.aload_n 0, 1) := by decide +kernel
theorem dX5_bestUnderstudy_18 : decode cX5_bestUnderstudy 18 = .ok (.getfield 10, 3) := by decide +kernel
theorem dX5_bestUnderstudy_21 : decode cX5_bestUnderstudy 21 = .ok (.invokevirtual 141, 3) := by decide +kernel
theorem dX5_bestUnderstudy_24 : decode cX5_bestUnderstudy 24 = .ok (.if_icmp .ge 82, 3) := by decide +kernel
theorem dX5_bestUnderstudy_27 : decode cX5_bestUnderstudy 27 = .ok (.aload_n 0, 1) := by decide +kernel
theorem dX5_bestUnderstudy_28 : decode cX5_bestUnderstudy 28 = .ok (.getfield 16, 3) := by decide +kernel
theorem dX5_bestUnderstudy_31 : decode cX5_bestUnderstudy 31 = .ok (.aload_n 0, 1) := by decide +kernel
theorem dX5_bestUnderstudy_32 : decode cX5_bestUnderstudy 32 = .ok (.getfield 10, 3) := by decide +kernel
theorem dX5_bestUnderstudy_35 : decode cX5_bestUnderstudy 35 = .ok (.invokevirtual 350, 3) := by decide +kernel
theorem dX5_bestUnderstudy_38 : decode cX5_bestUnderstudy 38 = .ok (.aload_n 0, 1) := by decide +kernel
theorem dX5_bestUnderstudy_39 : decode cX5_bestUnderstudy 39 = .ok (.getfield 16, 3) := by decide +kernel
theorem dX5_bestUnderstudy_42 : decode cX5_bestUnderstudy 42 = .ok (.iload_n 1, 1) := by decide +kernel
theorem dX5_bestUnderstudy_43 : decode cX5_bestUnderstudy 43 = .ok (.iload 5, 2) := by decide +kernel
theorem dX5_bestUnderstudy_45 : decode cX5_bestUnderstudy 45 = .ok (.invokevirtual 126, 3) := by decide +kernel
theorem dX5_bestUnderstudy_48 : decode cX5_bestUnderstudy 48 = .ok (.ifCond .eq 52, 3) := by decide +kernel
theorem dX5_bestUnderstudy_51 : decode cX5_bestUnderstudy 51 = .ok (.aload_n 0, 1) := by decide +kernel
theorem dX5_bestUnderstudy_52 : decode cX5_bestUnderstudy 52 = .ok (.getfield 54, 3) := by decide +kernel
theorem dX5_bestUnderstudy_55 : decode cX5_bestUnderstudy 55 = .ok (.aload_n 0, 1) := by decide +kernel
theorem dX5_bestUnderstudy_56 : decode cX5_bestUnderstudy 56 = .ok (.getfield 16, 3) := by decide +kernel
theorem dX5_bestUnderstudy_59 : decode cX5_bestUnderstudy 59 = .ok (.invokevirtual 147, 3) := by decide +kernel
theorem dX5_bestUnderstudy_62 : decode cX5_bestUnderstudy 62 = .ok (.iload_n 2, 1) := by decide +kernel
theorem dX5_bestUnderstudy_63 : decode cX5_bestUnderstudy 63 = .ok (.iconst (-1), 1) := by decide +kernel
theorem dX5_bestUnderstudy_64 : decode cX5_bestUnderstudy 64 = .ok (.if_icmp .eq 16, 3) := by decide +kernel
theorem dX5_bestUnderstudy_67 : decode cX5_bestUnderstudy 67 = .ok (.aload_n 0, 1) := by decide +kernel
theorem dX5_bestUnderstudy_68 : decode cX5_bestUnderstudy 68 = .ok (.getfield 54, 3) := by decide +kernel
theorem dX5_bestUnderstudy_71 : decode cX5_bestUnderstudy 71 = .ok (.iload_n 3, 1) := by decide +kernel
theorem dX5_bestUnderstudy_72 : decode cX5_bestUnderstudy 72 = .ok (.iload 4, 2) := by decide +kernel
theorem dX5_bestUnderstudy_74 : decode cX5_bestUnderstudy 74 = .ok (.invokevirtual 356, 3) := by decide +kernel
theorem dX5_bestUnderstudy_77 : decode cX5_bestUnderstudy 77 = .ok (.ifCond .eq 23, 3) := by decide +kernel
theorem dX5_bestUnderstudy_80 : decode cX5_bestUnderstudy 80 = .ok (.iload 5, 2) := by decide +kernel
theorem dX5_bestUnderstudy_82 : decode cX5_bestUnderstudy 82 = .ok (.istore_n 2, 1) := by decide +kernel
theorem dX5_bestUnderstudy_83 : decode cX5_bestUnderstudy 83 = .ok (.aload_n 0, 1) := by decide +kernel
theorem dX5_bestUnderstudy_84 : decode cX5_bestUnderstudy 84 = .ok (.getfield 54, 3) := by decide +kernel
theorem dX5_bestUnderstudy_87 : decode cX5_bestUnderstudy 87 = .ok (.invokevirtual 151, 3) := by decide +kernel
theorem dX5_bestUnderstudy_90 : decode cX5_bestUnderstudy 90 = .ok (.istore_n 3, 1) := by decide +kernel
theorem dX5_bestUnderstudy_91 : decode cX5_bestUnderstudy 91 = .ok (.aload_n 0, 1) := by decide +kernel
theorem dX5_bestUnderstudy_92 : decode cX5_bestUnderstudy 92 = .ok (.getfield 54, 3) := by decide +kernel
theorem dX5_bestUnderstudy_95 : decode cX5_bestUnderstudy 95 = .ok (.invokevirtual 154, 3) := by decide +kernel
theorem dX5_bestUnderstudy_98 : decode cX5_bestUnderstudy 98 = .ok (.istore 4, 2) := by decide +kernel
theorem dX5_bestUnderstudy_100 : decode cX5_bestUnderstudy 100 = .ok (.iinc 5 1, 3) := by decide +kernel
theorem dX5_bestUnderstudy_103 : decode cX5_bestUnderstudy 103 = .ok (.goto (-88), 3) := by decide +kernel
theorem dX5_bestUnderstudy_106 : decode cX5_bestUnderstudy 106 = .ok (.iload_n 2, 1) := by decide +kernel
theorem dX5_bestUnderstudy_107 : decode cX5_bestUnderstudy 107 = .ok (.ireturn, 1) := by decide +kernel
theorem dX5_needed_0 : decode cX5_needed 0 = .ok (.iconst (-1), 1) := by decide +kernel
theorem dX5_needed_1 : decode cX5_needed 1 = .ok (.istore_n 1, 1) := by decide +kernel
theorem dX5_needed_2 : decode cX5_needed 2 = .ok (.iconst 0, 1) := by decide +kernel
theorem dX5_needed_3 : decode cX5_needed 3 = .ok (.istore_n 2, 1) := by decide +kernel
theorem dX5_needed_4 : decode cX5_needed 4 = .ok (.iconst 0, 1) := by decide +kernel
theorem dX5_needed_5 : decode cX5_needed 5 = .ok (.istore_n 3, 1) := by decide +kernel
theorem dX5_needed_6 : decode cX5_needed 6 = .ok (.iload_n 3, 1) := by decide +kernel
theorem dX5_needed_7 : decode cX5_needed 7 = .ok (.aload_n 0, 1) := by decide +kernel
theorem dX5_needed_8 : decode cX5_needed 8 = .ok (.getfield 10, 3) := by decide +kernel
theorem dX5_needed_11 : decode cX5_needed 11 = .ok (.invokevirtual 141, 3) := by decide +kernel
theorem dX5_needed_14 : decode cX5_needed 14 = .ok (.if_icmp .ge 85, 3) := by decide +kernel
theorem dX5_needed_17 : decode cX5_needed 17 = .ok (.aload_n 0, 1) := by decide +kernel
theorem dX5_needed_18 : decode cX5_needed 18 = .ok (.getfield 16, 3) := by decide +kernel
theorem dX5_needed_21 : decode cX5_needed 21 = .ok (.aload_n 0, 1) := by decide +kernel
theorem dX5_needed_22 : decode cX5_needed 22 = .ok (.getfield 10, 3) := by decide +kernel
theorem dX5_needed_25 : decode cX5_needed 25 = .ok (.invokevirtual 350, 3) := by decide +kernel
theorem dX5_needed_28 : decode cX5_needed 28 = .ok (.iconst 0, 1) := by decide +kernel
theorem dX5_needed_29 : decode cX5_needed 29 = .ok (.istore 4, 2) := by decide +kernel
theorem dX5_needed_31 : decode cX5_needed 31 = .ok (.iload 4, 2) := by decide +kernel
theorem dX5_needed_33 : decode cX5_needed 33 = .ok (.bipush 20, 2) := by decide +kernel
theorem dX5_needed_35 : decode cX5_needed 35 = .ok (.if_icmp .ge 21, 3) := by decide +kernel
theorem dX5_needed_38 : decode cX5_needed 38 = .ok (.aload_n 0, 1) := by decide +kernel
theorem dX5_needed_39 : decode cX5_needed 39 = .ok (.getfield 16, 3) := by decide +kernel
theorem dX5_needed_42 : decode cX5_needed 42 = .ok (.iload_n 3, 1) := by decide +kernel
theorem dX5_needed_43 : decode cX5_needed 43 = .ok (.iload 4, 2) := by decide +kernel
theorem dX5_needed_45 : decode cX5_needed 45 = .ok (.iconst 1, 1) := by decide +kernel
theorem dX5_needed_46 : decode cX5_needed 46 = .ok (.invokevirtual 130, 3) := by decide +kernel
theorem dX5_needed_49 : decode cX5_needed 49 = .ok (.pop, 1) := by decide +kernel
theorem dX5_needed_50 : decode cX5_needed 50 = .ok (.iinc 4 1, 3) := by decide +kernel
theorem dX5_needed_53 : decode cX5_needed 53 = .ok (.goto (-22), 3) := by decide +kernel
theorem dX5_needed_56 : decode cX5_needed 56 = .ok (.aload_n 0, 1) := by decide +kernel
theorem dX5_needed_57 : decode cX5_needed 57 = .ok (.getfield 54, 3) := by decide +kernel
theorem dX5_needed_60 : decode cX5_needed 60 = .ok (.aload_n 0, 1) := by decide +kernel
theorem dX5_needed_61 : decode cX5_needed 61 = .ok (.getfield 16, 3) := by decide +kernel
theorem dX5_needed_64 : decode cX5_needed 64 = .ok (.invokevirtual 147, 3) := by decide +kernel
theorem dX5_needed_67 : decode cX5_needed 67 = .ok (.iload_n 1, 1) := by decide +kernel
theorem dX5_needed_68 : decode cX5_needed 68 = .ok (.iconst (-1), 1) := by decide +kernel
theorem dX5_needed_69 : decode cX5_needed 69 = .ok (.if_icmp .eq 14, 3) := by decide +kernel
theorem dX5_needed_72 : decode cX5_needed 72 = .ok (.aload_n 0, 1) := by decide +kernel
theorem dX5_needed_73 : decode cX5_needed 73 = .ok (.getfield 54, 3) := by decide +kernel
theorem dX5_needed_76 : decode cX5_needed 76 = .ok (.invokevirtual 151, 3) := by decide +kernel
theorem dX5_needed_79 : decode cX5_needed 79 = .ok (.iload_n 2, 1) := by decide +kernel
theorem dX5_needed_80 : decode cX5_needed 80 = .ok (.if_icmp .le 13, 3) := by decide +kernel
theorem dX5_needed_83 : decode cX5_needed 83 = .ok (.iload_n 3, 1) := by decide +kernel
theorem dX5_needed_84 : decode cX5_needed 84 = .ok (.istore_n 1, 1) := by decide +kernel
theorem dX5_needed_85 : decode cX5_needed 85 = .ok (.aload_n 0, 1) := by decide +kernel
theorem dX5_needed_86 : decode cX5_needed 86 = .ok (.getfield 54, 3) := by decide +kernel
theorem dX5_needed_89 : decode cX5_needed 89 = .ok (.invokevirtual 151, 3) := by decide +kernel
theorem dX5_needed_92 : decode cX5_needed 92 = .ok (.istore_n 2, 1) := by decide +kernel
theorem dX5_needed_93 : decode cX5_needed 93 = .ok (.iinc 3 1, 3) := by decide +kernel
theorem dX5_needed_96 : decode cX5_needed 96 = .ok (.goto (-90), 3) := by decide +kernel
theorem dX5_needed_99 : decode cX5_needed 99 = .ok (.iload_n 1, 1) := by decide +kernel
theorem dX5_needed_100 : decode cX5_needed 100 = .ok (.ireturn, 1) := by decide +kernel
theorem dX5_runScript_0 : decode cX5_runScript 0 = .ok (.iload_n 1, 1) := by decide +kernel
theorem dX5_runScript_1 : decode cX5_runScript 1 = .ok (.iconst 1, 1) := by decide +kernel
theorem dX5_runScript_2 : decode cX5_runScript 2 = .ok (.if_icmp .lt 8, 3) := by decide +kernel
theorem dX5_runScript_5 : decode cX5_runScript 5 = .ok (.iload_n 1, 1) := by decide +kernel
theorem dX5_runScript_6 : decode cX5_runScript 6 = .ok (.iconst 3, 1) := by decide +kernel
theorem dX5_runScript_7 : decode cX5_runScript 7 = .ok (.if_icmp .le 14, 3) := by decide +kernel
theorem dX5_runScript_10 : decode cX5_runScript 10 = .ok (.new 61, 3) := by decide +kernel
theorem dX5_runScript_13 : decode cX5_runScript 13 = .ok (.dup, 1) := by decide +kernel
theorem dX5_runScript_14 : decode cX5_runScript 14 = .ok (.ldc_w 359, 3) := by decide +kernel
theorem dX5_runScript_17 : decode cX5_runScript 17 = .ok (.invokespecial 65, 3) := by decide +kernel
theorem dX5_runScript_20 : decode cX5_runScript 20 = .ok (.athrow, 1) := by decide +kernel
theorem dX5_runScript_21 : decode cX5_runScript 21 = .ok (.lload_n 2, 1) := by decide +kernel
theorem dX5_runScript_22 : decode cX5_runScript 22 = .ok (.lconst 0, 1) := by decide +kernel
theorem dX5_runScript_23 : decode cX5_runScript 23 = .ok (.lcmp, 1) := by decide +kernel
theorem dX5_runScript_24 : decode cX5_runScript 24 = .ok (.ifCond .lt 13, 3) := by decide +kernel
theorem dX5_runScript_27 : decode cX5_runScript 27 = .ok (.lload_n 2, 1) := by decide +kernel
theorem dX5_runScript_28 : decode cX5_runScript 28 = .ok (.iload_n 1, 1) := by decide +kernel
theorem dX5_runScript_29 : decode cX5_runScript 29 = .ok (.invokestatic 361, 3) := by decide +kernel
theorem dX5_runScript_32 : decode cX5_runScript 32 = .ok (.lconst 0, 1) := by decide +kernel
theorem dX5_runScript_33 : decode cX5_runScript 33 = .ok (.lcmp, 1) := by decide +kernel
theorem dX5_runScript_34 : decode cX5_runScript 34 = .ok (.ifCond .eq 14, 3) := by decide +kernel
theorem dX5_runScript_37 : decode cX5_runScript 37 = .ok (.new 61, 3) := by decide +kernel
theorem dX5_runScript_40 : decode cX5_runScript 40 = .ok (.dup, 1) := by decide +kernel
theorem dX5_runScript_41 : decode cX5_runScript 41 = .ok (.ldc_w 365, 3) := by decide +kernel
theorem dX5_runScript_44 : decode cX5_runScript 44 = .ok (.invokespecial 65, 3) := by decide +kernel
theorem dX5_runScript_47 : decode cX5_runScript 47 = .ok (.athrow, 1) := by decide +kernel
theorem dX5_runScript_48 : decode cX5_runScript 48 = .ok (.aload_n 0, 1) := by decide +kernel
theorem dX5_runScript_49 : decode cX5_runScript 49 = .ok (.getfield 16, 3) := by decide +kernel
theorem dX5_runScript_52 : decode cX5_runScript 52 = .ok (.aload_n 0, 1) := by decide +kernel
theorem dX5_runScript_53 : decode cX5_runScript 53 = .ok (.getfield 10, 3) := by decide +kernel
theorem dX5_runScript_56 : decode cX5_runScript 56 = .ok (.invokevirtual 350, 3) := by decide +kernel
theorem dX5_runScript_59 : decode cX5_runScript 59 = .ok (.iconst 0, 1) := by decide +kernel
theorem dX5_runScript_60 : decode cX5_runScript 60 = .ok (.istore 4, 2) := by decide +kernel
theorem dX5_runScript_62 : decode cX5_runScript 62 = .ok (.iload 4, 2) := by decide +kernel
theorem dX5_runScript_64 : decode cX5_runScript 64 = .ok (.iload_n 1, 1) := by decide +kernel
theorem dX5_runScript_65 : decode cX5_runScript 65 = .ok (.if_icmp .ge 38, 3) := by decide +kernel
theorem dX5_runScript_68 : decode cX5_runScript 68 = .ok (.lload_n 2, 1) := by decide +kernel
theorem dX5_runScript_69 : decode cX5_runScript 69 = .ok (.iload_n 1, 1) := by decide +kernel
theorem dX5_runScript_70 : decode cX5_runScript 70 = .ok (.iconst 1, 1) := by decide +kernel
theorem dX5_runScript_71 : decode cX5_runScript 71 = .ok (.isub, 1) := by decide +kernel
theorem dX5_runScript_72 : decode cX5_runScript 72 = .ok (.iload 4, 2) := by decide +kernel
theorem dX5_runScript_74 : decode cX5_runScript 74 = .ok (.isub, 1) := by decide +kernel
theorem dX5_runScript_75 : decode cX5_runScript 75 = .ok (.invokestatic 361, 3) := by decide +kernel
theorem dX5_runScript_78 : decode cX5_runScript 78 = .ok (.ldc2_w 367, 3) := by decide +kernel
theorem dX5_runScript_81 : decode cX5_runScript 81 = .ok (.lrem, 1) := by decide +kernel
theorem dX5_runScript_82 : decode cX5_runScript 82 = .ok (.l2i, 1) := by decide +kernel
theorem dX5_runScript_83 : decode cX5_runScript 83 = .ok (.istore 5, 2) := by decide +kernel
theorem dX5_runScript_85 : decode cX5_runScript 85 = .ok (.aload_n 0, 1) := by decide +kernel
theorem dX5_runScript_86 : decode cX5_runScript 86 = .ok (.iload 5, 2) := by decide +kernel
theorem dX5_runScript_88 : decode cX5_runScript 88 = .ok (.invokevirtual 369, 3) := by decide +kernel
theorem dX5_runScript_91 : decode cX5_runScript 91 = .ok (.ifCond .ne 6, 3) := by decide +kernel
theorem dX5_runScript_94 : decode cX5_runScript 94 = .ok (.iload 4, 2) := by decide +kernel
theorem dX5_runScript_96 : decode cX5_runScript 96 = .ok (.ireturn, 1) := by decide +kernel
theorem dX5_runScript_97 : decode cX5_runScript 97 = .ok (.iinc 4 1, 3) := by decide +kernel
theorem dX5_runScript_100 : decode cX5_runScript 100 = .ok (.goto (-38), 3) := by decide +kernel
theorem dX5_runScript_103 : decode cX5_runScript 103 = .ok (.iconst (-1), 1) := by decide +kernel
theorem dX5_runScript_104 : decode cX5_runScript 104 = .ok (.ireturn, 1) := by decide +kernel
theorem dX5_groupsAbove_0 : decode cX5_groupsAbove 0 = .ok (.lload_n 0, 1) := by decide +kernel
theorem dX5_groupsAbove_1 : decode cX5_groupsAbove 1 = .ok (.lstore_n 3, 1) := by decide +kernel
theorem dX5_groupsAbove_2 : decode cX5_groupsAbove 2 = .ok (.iconst 0, 1) := by decide +kernel
theorem dX5_groupsAbove_3 : decode cX5_groupsAbove 3 = .ok (.istore 5, 2) := by decide +kernel
theorem dX5_groupsAbove_5 : decode cX5_groupsAbove 5 = .ok (.iload 5, 2) := by decide +kernel
theorem dX5_groupsAbove_7 : decode cX5_groupsAbove 7 = .ok (.iload_n 2, 1) := by decide +kernel
theorem dX5_groupsAbove_8 : decode cX5_groupsAbove 8 = .ok (.if_icmp .ge 15, 3) := by decide +kernel
theorem dX5_groupsAbove_11 : decode cX5_groupsAbove 11 = .ok (.lload_n 3, 1) := by decide +kernel
theorem dX5_groupsAbove_12 : decode cX5_groupsAbove 12 = .ok (.ldc2_w 367, 3) := by decide +kernel
theorem dX5_groupsAbove_15 : decode cX5_groupsAbove 15 = .ok (.ldiv, 1) := by decide +kernel
theorem dX5_groupsAbove_16 : decode cX5_groupsAbove 16 = .ok (.lstore_n 3, 1) := by decide +kernel
theorem dX5_groupsAbove_17 : decode cX5_groupsAbove 17 = .ok (.iinc 5 1, 3) := by decide +kernel
theorem dX5_groupsAbove_20 : decode cX5_groupsAbove 20 = .ok (.goto (-15), 3) := by decide +kernel
theorem dX5_groupsAbove_23 : decode cX5_groupsAbove 23 = .ok (.lload_n 3, 1) := by decide +kernel
theorem dX5_groupsAbove_24 : decode cX5_groupsAbove 24 = .ok (.lreturn, 1) := by decide +kernel
theorem dX5_obeyGroup_0 : decode cX5_obeyGroup 0 = .ok (.iload_n 1, 1) := by decide +kernel
theorem dX5_obeyGroup_1 : decode cX5_obeyGroup 1 = .ok (.sipush 1000, 3) := by decide +kernel
theorem dX5_obeyGroup_4 : decode cX5_obeyGroup 4 = .ok (.idiv, 1) := by decide +kernel
theorem dX5_obeyGroup_5 : decode cX5_obeyGroup 5 = .ok (.bipush 10, 2) := by decide +kernel
theorem dX5_obeyGroup_7 : decode cX5_obeyGroup 7 = .ok (.irem, 1) := by decide +kernel
theorem dX5_obeyGroup_8 : decode cX5_obeyGroup 8 = .ok (.istore_n 2, 1) := by decide +kernel
theorem dX5_obeyGroup_9 : decode cX5_obeyGroup 9 = .ok (.iload_n 1, 1) := by decide +kernel
theorem dX5_obeyGroup_10 : decode cX5_obeyGroup 10 = .ok (.bipush 100, 2) := by decide +kernel
theorem dX5_obeyGroup_12 : decode cX5_obeyGroup 12 = .ok (.idiv, 1) := by decide +kernel
theorem dX5_obeyGroup_13 : decode cX5_obeyGroup 13 = .ok (.bipush 10, 2) := by decide +kernel
theorem dX5_obeyGroup_15 : decode cX5_obeyGroup 15 = .ok (.irem, 1) := by decide +kernel
theorem dX5_obeyGroup_16 : decode cX5_obeyGroup 16 = .ok (.istore_n 3, 1) := by decide +kernel
theorem dX5_obeyGroup_17 : decode cX5_obeyGroup 17 = .ok (.iload_n 1, 1) := by decide +kernel
theorem dX5_obeyGroup_18 : decode cX5_obeyGroup 18 = .ok (.bipush 10, 2) := by decide +kernel
theorem dX5_obeyGroup_20 : decode cX5_obeyGroup 20 = .ok (.idiv, 1) := by decide +kernel
theorem dX5_obeyGroup_21 : decode cX5_obeyGroup 21 = .ok (.bipush 10, 2) := by decide +kernel
theorem dX5_obeyGroup_23 : decode cX5_obeyGroup 23 = .ok (.irem, 1) := by decide +kernel
theorem dX5_obeyGroup_24 : decode cX5_obeyGroup 24 = .ok (.istore 4, 2) := by decide +kernel
theorem dX5_obeyGroup_26 : decode cX5_obeyGroup 26 = .ok (.iload_n 1, 1) := by decide +kernel
theorem dX5_obeyGroup_27 : decode cX5_obeyGroup 27 = .ok (.bipush 10, 2) := by decide +kernel
theorem dX5_obeyGroup_29 : decode cX5_obeyGroup 29 = .ok (.irem, 1) := by decide +kernel
theorem dX5_obeyGroup_30 : decode cX5_obeyGroup 30 = .ok (.istore 5, 2) := by decide +kernel
theorem dX5_obeyGroup_32 : decode cX5_obeyGroup 32 = .ok (.iload_n 1, 1) := by decide +kernel
theorem dX5_obeyGroup_33 : decode cX5_obeyGroup 33 = .ok (.sipush 10000, 3) := by decide +kernel
theorem dX5_obeyGroup_36 : decode cX5_obeyGroup 36 = .ok (.idiv, 1) := by decide +kernel
theorem dX5_obeyGroup_37 : decode cX5_obeyGroup 37 = .ok (.tableswitch 317 1 9 #[51, 69, 97, 125, 166, 186, 218, 233, 274], 51) := by decide +kernel
theorem dX5_obeyGroup_88 : decode cX5_obeyGroup 88 = .ok (.aload_n 0, 1) := by decide +kernel
theorem dX5_obeyGroup_89 : decode cX5_obeyGroup 89 = .ok (.getfield 16, 3) := by decide +kernel
theorem dX5_obeyGroup_92 : decode cX5_obeyGroup 92 = .ok (.iload_n 2, 1) := by decide +kernel
theorem dX5_obeyGroup_93 : decode cX5_obeyGroup 93 = .ok (.iload_n 3, 1) := by decide +kernel
theorem dX5_obeyGroup_94 : decode cX5_obeyGroup 94 = .ok (.bipush 10, 2) := by decide +kernel
theorem dX5_obeyGroup_96 : decode cX5_obeyGroup 96 = .ok (.iload 4, 2) := by decide +kernel
theorem dX5_obeyGroup_98 : decode cX5_obeyGroup 98 = .ok (.imul, 1) := by decide +kernel
theorem dX5_obeyGroup_99 : decode cX5_obeyGroup 99 = .ok (.iload 5, 2) := by decide +kernel
theorem dX5_obeyGroup_101 : decode cX5_obeyGroup 101 = .ok (.iadd, 1) := by decide +kernel
theorem dX5_obeyGroup_102 : decode cX5_obeyGroup 102 = .ok (.invokevirtual 122, 3) := by decide +kernel
theorem dX5_obeyGroup_105 : decode cX5_obeyGroup 105 = .ok (.ireturn, 1) := by decide +kernel
theorem dX5_obeyGroup_106 : decode cX5_obeyGroup 106 = .ok (.iload 4, 2) := by decide +kernel
theorem dX5_obeyGroup_108 : decode cX5_obeyGroup 108 = .ok (.ifCond .ne 24, 3) := by decide +kernel
theorem dX5_obeyGroup_111 : decode cX5_obeyGroup 111 = .ok (.iload 5, 2) := by decide +kernel
theorem dX5_obeyGroup_113 : decode cX5_obeyGroup 113 = .ok (.ifCond .ne 19, 3) := by decide +kernel
theorem dX5_obeyGroup_116 : decode cX5_obeyGroup 116 = .ok (.aload_n 0, 1) := by decide +kernel
theorem dX5_obeyGroup_117 : decode cX5_obeyGroup 117 = .ok (.getfield 16, 3) := by decide +kernel
theorem dX5_obeyGroup_120 : decode cX5_obeyGroup 120 = .ok (.iload_n 2, 1) := by decide +kernel
theorem dX5_obeyGroup_121 : decode cX5_obeyGroup 121 = .ok (.iload_n 3, 1) := by decide +kernel
theorem dX5_obeyGroup_122 : decode cX5_obeyGroup 122 = .ok (.invokevirtual 126, 3) := by decide +kernel
theorem dX5_obeyGroup_125 : decode cX5_obeyGroup 125 = .ok (.ifCond .eq 7, 3) := by decide +kernel
theorem dX5_obeyGroup_128 : decode cX5_obeyGroup 128 = .ok (.iconst 1, 1) := by decide +kernel
theorem dX5_obeyGroup_129 : decode cX5_obeyGroup 129 = .ok (.goto 4, 3) := by decide +kernel
theorem dX5_obeyGroup_132 : decode cX5_obeyGroup 132 = .ok (.iconst 0, 1) := by decide +kernel
theorem dX5_obeyGroup_133 : decode cX5_obeyGroup 133 = .ok (.ireturn, 1) := by decide +kernel
theorem dX5_obeyGroup_134 : decode cX5_obeyGroup 134 = .ok (.iload 4, 2) := by decide +kernel
theorem dX5_obeyGroup_136 : decode cX5_obeyGroup 136 = .ok (.ifCond .ne 24, 3) := by decide +kernel
theorem dX5_obeyGroup_139 : decode cX5_obeyGroup 139 = .ok (.iload 5, 2) := by decide +kernel
theorem dX5_obeyGroup_141 : decode cX5_obeyGroup 141 = .ok (.ifCond .ne 19, 3) := by decide +kernel
theorem dX5_obeyGroup_144 : decode cX5_obeyGroup 144 = .ok (.aload_n 0, 1) := by decide +kernel
theorem dX5_obeyGroup_145 : decode cX5_obeyGroup 145 = .ok (.getfield 16, 3) := by decide +kernel
theorem dX5_obeyGroup_148 : decode cX5_obeyGroup 148 = .ok (.iload_n 2, 1) := by decide +kernel
theorem dX5_obeyGroup_149 : decode cX5_obeyGroup 149 = .ok (.iload_n 3, 1) := by decide +kernel
theorem dX5_obeyGroup_150 : decode cX5_obeyGroup 150 = .ok (.invokevirtual 313, 3) := by decide +kernel
theorem dX5_obeyGroup_153 : decode cX5_obeyGroup 153 = .ok (.ifCond .eq 7, 3) := by decide +kernel
theorem dX5_obeyGroup_156 : decode cX5_obeyGroup 156 = .ok (.iconst 1, 1) := by decide +kernel
theorem dX5_obeyGroup_157 : decode cX5_obeyGroup 157 = .ok (.goto 4, 3) := by decide +kernel
theorem dX5_obeyGroup_160 : decode cX5_obeyGroup 160 = .ok (.iconst 0, 1) := by decide +kernel
theorem dX5_obeyGroup_161 : decode cX5_obeyGroup 161 = .ok (.ireturn, 1) := by decide +kernel
theorem dX5_obeyGroup_162 : decode cX5_obeyGroup 162 = .ok (.iload 5, 2) := by decide +kernel
theorem dX5_obeyGroup_164 : decode cX5_obeyGroup 164 = .ok (.iconst 1, 1) := by decide +kernel
theorem dX5_obeyGroup_165 : decode cX5_obeyGroup 165 = .ok (.if_icmp .gt 36, 3) := by decide +kernel
theorem dX5_obeyGroup_168 : decode cX5_obeyGroup 168 = .ok (.aload_n 0, 1) := by decide +kernel
theorem dX5_obeyGroup_169 : decode cX5_obeyGroup 169 = .ok (.getfield 16, 3) := by decide +kernel
theorem dX5_obeyGroup_172 : decode cX5_obeyGroup 172 = .ok (.iload_n 2, 1) := by decide +kernel
theorem dX5_obeyGroup_173 : decode cX5_obeyGroup 173 = .ok (.bipush 10, 2) := by decide +kernel
theorem dX5_obeyGroup_175 : decode cX5_obeyGroup 175 = .ok (.iload_n 3, 1) := by decide +kernel
theorem dX5_obeyGroup_176 : decode cX5_obeyGroup 176 = .ok (.imul, 1) := by decide +kernel
theorem dX5_obeyGroup_177 : decode cX5_obeyGroup 177 = .ok (.iload 4, 2) := by decide +kernel
theorem dX5_obeyGroup_179 : decode cX5_obeyGroup 179 = .ok (.iadd, 1) := by decide +kernel
theorem dX5_obeyGroup_180 : decode cX5_obeyGroup 180 = .ok (.iload 5, 2) := by decide +kernel
theorem dX5_obeyGroup_182 : decode cX5_obeyGroup 182 = .ok (.iconst 1, 1) := by decide +kernel
theorem dX5_obeyGroup_183 : decode cX5_obeyGroup 183 = .ok (.if_icmp .ne 7, 3) := by decide +kernel
theorem dX5_obeyGroup_186 : decode cX5_obeyGroup 186 = .ok (.iconst 1, 1) := by decide +kernel
theorem dX5_obeyGroup_187 : decode cX5_obeyGroup 187 = .ok (.goto 4, 3) := by decide +kernel
theorem dX5_obeyGroup_190 : decode cX5_obeyGroup 190 = .ok (.iconst 0, 1) := by decide +kernel
theorem dX5_obeyGroup_191 : decode cX5_obeyGroup 191 = .ok (.invokevirtual 130, 3) := by decide +kernel
theorem dX5_obeyGroup_194 : decode cX5_obeyGroup 194 = .ok (.ifCond .eq 7, 3) := by decide +kernel
theorem dX5_obeyGroup_197 : decode cX5_obeyGroup 197 = .ok (.iconst 1, 1) := by decide +kernel
theorem dX5_obeyGroup_198 : decode cX5_obeyGroup 198 = .ok (.goto 4, 3) := by decide +kernel
theorem dX5_obeyGroup_201 : decode cX5_obeyGroup 201 = .ok (.iconst 0, 1) := by decide +kernel
theorem dX5_obeyGroup_202 : decode cX5_obeyGroup 202 = .ok (.ireturn, 1) := by decide +kernel
theorem dX5_obeyGroup_203 : decode cX5_obeyGroup 203 = .ok (.aload_n 0, 1) := by decide +kernel
theorem dX5_obeyGroup_204 : decode cX5_obeyGroup 204 = .ok (.getfield 16, 3) := by decide +kernel
theorem dX5_obeyGroup_207 : decode cX5_obeyGroup 207 = .ok (.bipush 10, 2) := by decide +kernel
theorem dX5_obeyGroup_209 : decode cX5_obeyGroup 209 = .ok (.iload_n 2, 1) := by decide +kernel
theorem dX5_obeyGroup_210 : decode cX5_obeyGroup 210 = .ok (.imul, 1) := by decide +kernel
theorem dX5_obeyGroup_211 : decode cX5_obeyGroup 211 = .ok (.iload_n 3, 1) := by decide +kernel
theorem dX5_obeyGroup_212 : decode cX5_obeyGroup 212 = .ok (.iadd, 1) := by decide +kernel
theorem dX5_obeyGroup_213 : decode cX5_obeyGroup 213 = .ok (.iload 4, 2) := by decide +kernel
theorem dX5_obeyGroup_215 : decode cX5_obeyGroup 215 = .ok (.iload 5, 2) := by decide +kernel
theorem dX5_obeyGroup_217 : decode cX5_obeyGroup 217 = .ok (.bipush 12, 2) := by decide +kernel
theorem dX5_obeyGroup_219 : decode cX5_obeyGroup 219 = .ok (.invokevirtual 134, 3) := by decide +kernel
theorem dX5_obeyGroup_222 : decode cX5_obeyGroup 222 = .ok (.ireturn, 1) := by decide +kernel
theorem dX5_obeyGroup_223 : decode cX5_obeyGroup 223 = .ok (.iload 4, 2) := by decide +kernel
theorem dX5_obeyGroup_225 : decode cX5_obeyGroup 225 = .ok (.ifCond .ne 28, 3) := by decide +kernel
theorem dX5_obeyGroup_228 : decode cX5_obeyGroup 228 = .ok (.iload 5, 2) := by decide +kernel
theorem dX5_obeyGroup_230 : decode cX5_obeyGroup 230 = .ok (.ifCond .ne 23, 3) := by decide +kernel
theorem dX5_obeyGroup_233 : decode cX5_obeyGroup 233 = .ok (.aload_n 0, 1) := by decide +kernel
theorem dX5_obeyGroup_234 : decode cX5_obeyGroup 234 = .ok (.getfield 16, 3) := by decide +kernel
theorem dX5_obeyGroup_237 : decode cX5_obeyGroup 237 = .ok (.bipush 10, 2) := by decide +kernel
theorem dX5_obeyGroup_239 : decode cX5_obeyGroup 239 = .ok (.iload_n 2, 1) := by decide +kernel
theorem dX5_obeyGroup_240 : decode cX5_obeyGroup 240 = .ok (.imul, 1) := by decide +kernel
theorem dX5_obeyGroup_241 : decode cX5_obeyGroup 241 = .ok (.iload_n 3, 1) := by decide +kernel
theorem dX5_obeyGroup_242 : decode cX5_obeyGroup 242 = .ok (.iadd, 1) := by decide +kernel
theorem dX5_obeyGroup_243 : decode cX5_obeyGroup 243 = .ok (.invokevirtual 323, 3) := by decide +kernel
theorem dX5_obeyGroup_246 : decode cX5_obeyGroup 246 = .ok (.ifCond .eq 7, 3) := by decide +kernel
theorem dX5_obeyGroup_249 : decode cX5_obeyGroup 249 = .ok (.iconst 1, 1) := by decide +kernel
theorem dX5_obeyGroup_250 : decode cX5_obeyGroup 250 = .ok (.goto 4, 3) := by decide +kernel
theorem dX5_obeyGroup_253 : decode cX5_obeyGroup 253 = .ok (.iconst 0, 1) := by decide +kernel
theorem dX5_obeyGroup_254 : decode cX5_obeyGroup 254 = .ok (.ireturn, 1) := by decide +kernel
theorem dX5_obeyGroup_255 : decode cX5_obeyGroup 255 = .ok (.aload_n 0, 1) := by decide +kernel
theorem dX5_obeyGroup_256 : decode cX5_obeyGroup 256 = .ok (.bipush 10, 2) := by decide +kernel
theorem dX5_obeyGroup_258 : decode cX5_obeyGroup 258 = .ok (.iload_n 2, 1) := by decide +kernel
theorem dX5_obeyGroup_259 : decode cX5_obeyGroup 259 = .ok (.imul, 1) := by decide +kernel
theorem dX5_obeyGroup_260 : decode cX5_obeyGroup 260 = .ok (.iload_n 3, 1) := by decide +kernel
theorem dX5_obeyGroup_261 : decode cX5_obeyGroup 261 = .ok (.iadd, 1) := by decide +kernel
theorem dX5_obeyGroup_262 : decode cX5_obeyGroup 262 = .ok (.iload 4, 2) := by decide +kernel
theorem dX5_obeyGroup_264 : decode cX5_obeyGroup 264 = .ok (.iload 5, 2) := by decide +kernel
theorem dX5_obeyGroup_266 : decode cX5_obeyGroup 266 = .ok (.invokevirtual 372, 3) := by decide +kernel
theorem dX5_obeyGroup_269 : decode cX5_obeyGroup 269 = .ok (.ireturn, 1) := by decide +kernel
theorem dX5_obeyGroup_270 : decode cX5_obeyGroup 270 = .ok (.iload 4, 2) := by decide +kernel
theorem dX5_obeyGroup_272 : decode cX5_obeyGroup 272 = .ok (.ifCond .ne 37, 3) := by decide +kernel
theorem dX5_obeyGroup_275 : decode cX5_obeyGroup 275 = .ok (.iload 5, 2) := by decide +kernel
theorem dX5_obeyGroup_277 : decode cX5_obeyGroup 277 = .ok (.iconst 1, 1) := by decide +kernel
theorem dX5_obeyGroup_278 : decode cX5_obeyGroup 278 = .ok (.if_icmp .gt 31, 3) := by decide +kernel
theorem dX5_obeyGroup_281 : decode cX5_obeyGroup 281 = .ok (.aload_n 0, 1) := by decide +kernel
theorem dX5_obeyGroup_282 : decode cX5_obeyGroup 282 = .ok (.bipush 10, 2) := by decide +kernel
theorem dX5_obeyGroup_284 : decode cX5_obeyGroup 284 = .ok (.iload_n 2, 1) := by decide +kernel
theorem dX5_obeyGroup_285 : decode cX5_obeyGroup 285 = .ok (.imul, 1) := by decide +kernel
theorem dX5_obeyGroup_286 : decode cX5_obeyGroup 286 = .ok (.iload_n 3, 1) := by decide +kernel
theorem dX5_obeyGroup_287 : decode cX5_obeyGroup 287 = .ok (.iadd, 1) := by decide +kernel
theorem dX5_obeyGroup_288 : decode cX5_obeyGroup 288 = .ok (.iload 5, 2) := by decide +kernel
theorem dX5_obeyGroup_290 : decode cX5_obeyGroup 290 = .ok (.iconst 1, 1) := by decide +kernel
theorem dX5_obeyGroup_291 : decode cX5_obeyGroup 291 = .ok (.if_icmp .ne 7, 3) := by decide +kernel
theorem dX5_obeyGroup_294 : decode cX5_obeyGroup 294 = .ok (.iconst 1, 1) := by decide +kernel
theorem dX5_obeyGroup_295 : decode cX5_obeyGroup 295 = .ok (.goto 4, 3) := by decide +kernel
theorem dX5_obeyGroup_298 : decode cX5_obeyGroup 298 = .ok (.iconst 0, 1) := by decide +kernel
theorem dX5_obeyGroup_299 : decode cX5_obeyGroup 299 = .ok (.invokevirtual 375, 3) := by decide +kernel
theorem dX5_obeyGroup_302 : decode cX5_obeyGroup 302 = .ok (.ifCond .eq 7, 3) := by decide +kernel
theorem dX5_obeyGroup_305 : decode cX5_obeyGroup 305 = .ok (.iconst 1, 1) := by decide +kernel
theorem dX5_obeyGroup_306 : decode cX5_obeyGroup 306 = .ok (.goto 4, 3) := by decide +kernel
theorem dX5_obeyGroup_309 : decode cX5_obeyGroup 309 = .ok (.iconst 0, 1) := by decide +kernel
theorem dX5_obeyGroup_310 : decode cX5_obeyGroup 310 = .ok (.ireturn, 1) := by decide +kernel
theorem dX5_obeyGroup_311 : decode cX5_obeyGroup 311 = .ok (.aload_n 0, 1) := by decide +kernel
theorem dX5_obeyGroup_312 : decode cX5_obeyGroup 312 = .ok (.getfield 54, 3) := by decide +kernel
theorem dX5_obeyGroup_315 : decode cX5_obeyGroup 315 = .ok (.aload_n 0, 1) := by decide +kernel
theorem dX5_obeyGroup_316 : decode cX5_obeyGroup 316 = .ok (.getfield 16, 3) := by decide +kernel
theorem dX5_obeyGroup_319 : decode cX5_obeyGroup 319 = .ok (.invokevirtual 147, 3) := by decide +kernel
theorem dX5_obeyGroup_322 : decode cX5_obeyGroup 322 = .ok (.iload_n 2, 1) := by decide +kernel
theorem dX5_obeyGroup_323 : decode cX5_obeyGroup 323 = .ok (.ifCond .ne 29, 3) := by decide +kernel
theorem dX5_obeyGroup_326 : decode cX5_obeyGroup 326 = .ok (.iload_n 3, 1) := by decide +kernel
theorem dX5_obeyGroup_327 : decode cX5_obeyGroup 327 = .ok (.ifCond .ne 25, 3) := by decide +kernel
theorem dX5_obeyGroup_330 : decode cX5_obeyGroup 330 = .ok (.aload_n 0, 1) := by decide +kernel
theorem dX5_obeyGroup_331 : decode cX5_obeyGroup 331 = .ok (.getfield 54, 3) := by decide +kernel
theorem dX5_obeyGroup_334 : decode cX5_obeyGroup 334 = .ok (.invokevirtual 151, 3) := by decide +kernel
theorem dX5_obeyGroup_337 : decode cX5_obeyGroup 337 = .ok (.bipush 10, 2) := by decide +kernel
theorem dX5_obeyGroup_339 : decode cX5_obeyGroup 339 = .ok (.iload 4, 2) := by decide +kernel
theorem dX5_obeyGroup_341 : decode cX5_obeyGroup 341 = .ok (.imul, 1) := by decide +kernel
theorem dX5_obeyGroup_342 : decode cX5_obeyGroup 342 = .ok (.iload 5, 2) := by decide +kernel
theorem dX5_obeyGroup_344 : decode cX5_obeyGroup 344 = .ok (.iadd, 1) := by decide +kernel
theorem dX5_obeyGroup_345 : decode cX5_obeyGroup 345 = .ok (.if_icmp .gt 7, 3) := by decide +kernel
theorem dX5_obeyGroup_348 : decode cX5_obeyGroup 348 = .ok (.iconst 1, 1) := by decide +kernel
theorem dX5_obeyGroup_349 : decode cX5_obeyGroup 349 = .ok (.goto 4, 3) := by decide +kernel
theorem dX5_obeyGroup_352 : decode cX5_obeyGroup 352 = .ok (.iconst 0, 1) := by decide +kernel
theorem dX5_obeyGroup_353 : decode cX5_obeyGroup 353 = .ok (.ireturn, 1) := by decide +kernel
theorem dX5_obeyGroup_354 : decode cX5_obeyGroup 354 = .ok (.iconst 0, 1) := by decide +kernel
theorem dX5_obeyGroup_355 : decode cX5_obeyGroup 355 = .ok (.ireturn, 1) := by decide +kernel
theorem dX5_playsInTrial_0 : decode cX5_playsInTrial 0 = .ok (.iload_n 1, 1) := by decide +kernel
theorem dX5_playsInTrial_1 : decode cX5_playsInTrial 1 = .ok (.invokestatic 379, 3) := by decide +kernel
theorem dX5_playsInTrial_4 : decode cX5_playsInTrial 4 = .ok (.ifCond .eq 25, 3) := by decide +kernel
theorem dX5_playsInTrial_7 : decode cX5_playsInTrial 7 = .ok (.aload_n 0, 1) := by decide +kernel
theorem dX5_playsInTrial_8 : decode cX5_playsInTrial 8 = .ok (.getfield 16, 3) := by decide +kernel
theorem dX5_playsInTrial_11 : decode cX5_playsInTrial 11 = .ok (.iload_n 2, 1) := by decide +kernel
theorem dX5_playsInTrial_12 : decode cX5_playsInTrial 12 = .ok (.invokevirtual 382, 3) := by decide +kernel
theorem dX5_playsInTrial_15 : decode cX5_playsInTrial 15 = .ok (.ifCond .eq 14, 3) := by decide +kernel
theorem dX5_playsInTrial_18 : decode cX5_playsInTrial 18 = .ok (.aload_n 0, 1) := by decide +kernel
theorem dX5_playsInTrial_19 : decode cX5_playsInTrial 19 = .ok (.getfield 16, 3) := by decide +kernel
theorem dX5_playsInTrial_22 : decode cX5_playsInTrial 22 = .ok (.iload_n 3, 1) := by decide +kernel
theorem dX5_playsInTrial_23 : decode cX5_playsInTrial 23 = .ok (.invokevirtual 385, 3) := by decide +kernel
theorem dX5_playsInTrial_26 : decode cX5_playsInTrial 26 = .ok (.ifCond .ne 5, 3) := by decide +kernel
theorem dX5_playsInTrial_29 : decode cX5_playsInTrial 29 = .ok (.iconst 0, 1) := by decide +kernel
theorem dX5_playsInTrial_30 : decode cX5_playsInTrial 30 = .ok (.ireturn, 1) := by decide +kernel
theorem dX5_playsInTrial_31 : decode cX5_playsInTrial 31 = .ok (.aload_n 0, 1) := by decide +kernel
theorem dX5_playsInTrial_32 : decode cX5_playsInTrial 32 = .ok (.getfield 44, 3) := by decide +kernel
theorem dX5_playsInTrial_35 : decode cX5_playsInTrial 35 = .ok (.aload_n 0, 1) := by decide +kernel
theorem dX5_playsInTrial_36 : decode cX5_playsInTrial 36 = .ok (.getfield 16, 3) := by decide +kernel
theorem dX5_playsInTrial_39 : decode cX5_playsInTrial 39 = .ok (.iload_n 1, 1) := by decide +kernel
theorem dX5_playsInTrial_40 : decode cX5_playsInTrial 40 = .ok (.invokevirtual 165, 3) := by decide +kernel
theorem dX5_playsInTrial_43 : decode cX5_playsInTrial 43 = .ok (.aload_n 0, 1) := by decide +kernel
theorem dX5_playsInTrial_44 : decode cX5_playsInTrial 44 = .ok (.getfield 44, 3) := by decide +kernel
theorem dX5_playsInTrial_47 : decode cX5_playsInTrial 47 = .ok (.iload_n 2, 1) := by decide +kernel
theorem dX5_playsInTrial_48 : decode cX5_playsInTrial 48 = .ok (.invokevirtual 187, 3) := by decide +kernel
theorem dX5_playsInTrial_51 : decode cX5_playsInTrial 51 = .ok (.iload_n 3, 1) := by decide +kernel
theorem dX5_playsInTrial_52 : decode cX5_playsInTrial 52 = .ok (.if_icmp .ne 7, 3) := by decide +kernel
theorem dX5_playsInTrial_55 : decode cX5_playsInTrial 55 = .ok (.iconst 1, 1) := by decide +kernel
theorem dX5_playsInTrial_56 : decode cX5_playsInTrial 56 = .ok (.goto 4, 3) := by decide +kernel
theorem dX5_playsInTrial_59 : decode cX5_playsInTrial 59 = .ok (.iconst 0, 1) := by decide +kernel
theorem dX5_playsInTrial_60 : decode cX5_playsInTrial 60 = .ok (.ireturn, 1) := by decide +kernel
theorem dX5_isDarkInTrial_0 : decode cX5_isDarkInTrial 0 = .ok (.iload_n 1, 1) := by decide +kernel
theorem dX5_isDarkInTrial_1 : decode cX5_isDarkInTrial 1 = .ok (.invokestatic 379, 3) := by decide +kernel
theorem dX5_isDarkInTrial_4 : decode cX5_isDarkInTrial 4 = .ok (.ifCond .ne 5, 3) := by decide +kernel
theorem dX5_isDarkInTrial_7 : decode cX5_isDarkInTrial 7 = .ok (.iconst 0, 1) := by decide +kernel
theorem dX5_isDarkInTrial_8 : decode cX5_isDarkInTrial 8 = .ok (.ireturn, 1) := by decide +kernel
theorem dX5_isDarkInTrial_9 : decode cX5_isDarkInTrial 9 = .ok (.aload_n 0, 1) := by decide +kernel
theorem dX5_isDarkInTrial_10 : decode cX5_isDarkInTrial 10 = .ok (.getfield 44, 3) := by decide +kernel
theorem dX5_isDarkInTrial_13 : decode cX5_isDarkInTrial 13 = .ok (.aload_n 0, 1) := by decide +kernel
theorem dX5_isDarkInTrial_14 : decode cX5_isDarkInTrial 14 = .ok (.getfield 16, 3) := by decide +kernel
theorem dX5_isDarkInTrial_17 : decode cX5_isDarkInTrial 17 = .ok (.iload_n 1, 1) := by decide +kernel
theorem dX5_isDarkInTrial_18 : decode cX5_isDarkInTrial 18 = .ok (.invokevirtual 165, 3) := by decide +kernel
theorem dX5_isDarkInTrial_21 : decode cX5_isDarkInTrial 21 = .ok (.aload_n 0, 1) := by decide +kernel
theorem dX5_isDarkInTrial_22 : decode cX5_isDarkInTrial 22 = .ok (.getfield 44, 3) := by decide +kernel
theorem dX5_isDarkInTrial_25 : decode cX5_isDarkInTrial 25 = .ok (.invokevirtual 169, 3) := by decide +kernel
theorem dX5_isDarkInTrial_28 : decode cX5_isDarkInTrial 28 = .ok (.iload_n 2, 1) := by decide +kernel
theorem dX5_isDarkInTrial_29 : decode cX5_isDarkInTrial 29 = .ok (.if_icmp .ne 7, 3) := by decide +kernel
theorem dX5_isDarkInTrial_32 : decode cX5_isDarkInTrial 32 = .ok (.iconst 1, 1) := by decide +kernel
theorem dX5_isDarkInTrial_33 : decode cX5_isDarkInTrial 33 = .ok (.goto 4, 3) := by decide +kernel
theorem dX5_isDarkInTrial_36 : decode cX5_isDarkInTrial 36 = .ok (.iconst 0, 1) := by decide +kernel
theorem dX5_isDarkInTrial_37 : decode cX5_isDarkInTrial 37 = .ok (.ireturn, 1) := by decide +kernel
theorem dX5_simulate_0 : decode cX5_simulate 0 = .ok (.iload_n 3, 1) := by decide +kernel
theorem dX5_simulate_1 : decode cX5_simulate 1 = .ok (.iconst 1, 1) := by decide +kernel
theorem dX5_simulate_2 : decode cX5_simulate 2 = .ok (.if_icmp .lt 9, 3) := by decide +kernel
theorem dX5_simulate_5 : decode cX5_simulate 5 = .ok (.iload_n 3, 1) := by decide +kernel
theorem dX5_simulate_6 : decode cX5_simulate 6 = .ok (.bipush 60, 2) := by decide +kernel
theorem dX5_simulate_8 : decode cX5_simulate 8 = .ok (.if_icmp .le 14, 3) := by decide +kernel
theorem dX5_simulate_11 : decode cX5_simulate 11 = .ok (.new 61, 3) := by decide +kernel
theorem dX5_simulate_14 : decode cX5_simulate 14 = .ok (.dup, 1) := by decide +kernel
theorem dX5_simulate_15 : decode cX5_simulate 15 = .ok (.ldc_w 388, 3) := by decide +kernel
theorem dX5_simulate_18 : decode cX5_simulate 18 = .ok (.invokespecial 65, 3) := by decide +kernel
theorem dX5_simulate_21 : decode cX5_simulate 21 = .ok (.athrow, 1) := by decide +kernel
theorem dX5_simulate_22 : decode cX5_simulate 22 = .ok (.aload_n 0, 1) := by decide +kernel
theorem dX5_simulate_23 : decode cX5_simulate 23 = .ok (.getfield 16, 3) := by decide +kernel
theorem dX5_simulate_26 : decode cX5_simulate 26 = .ok (.aload_n 0, 1) := by decide +kernel
theorem dX5_simulate_27 : decode cX5_simulate 27 = .ok (.getfield 10, 3) := by decide +kernel
theorem dX5_simulate_30 : decode cX5_simulate 30 = .ok (.invokevirtual 350, 3) := by decide +kernel
theorem dX5_simulate_33 : decode cX5_simulate 33 = .ok (.lload_n 1, 1) := by decide +kernel
theorem dX5_simulate_34 : decode cX5_simulate 34 = .ok (.lstore 4, 2) := by decide +kernel
theorem dX5_simulate_36 : decode cX5_simulate 36 = .ok (.iconst 0, 1) := by decide +kernel
theorem dX5_simulate_37 : decode cX5_simulate 37 = .ok (.istore 6, 2) := by decide +kernel
theorem dX5_simulate_39 : decode cX5_simulate 39 = .ok (.iload 6, 2) := by decide +kernel
theorem dX5_simulate_41 : decode cX5_simulate 41 = .ok (.iload_n 3, 1) := by decide +kernel
theorem dX5_simulate_42 : decode cX5_simulate 42 = .ok (.if_icmp .ge 31, 3) := by decide +kernel
theorem dX5_simulate_45 : decode cX5_simulate 45 = .ok (.lload 4, 2) := by decide +kernel
theorem dX5_simulate_47 : decode cX5_simulate 47 = .ok (.ldc2_w 390, 3) := by decide +kernel
theorem dX5_simulate_50 : decode cX5_simulate 50 = .ok (.lmul, 1) := by decide +kernel
theorem dX5_simulate_51 : decode cX5_simulate 51 = .ok (.ldc2_w 392, 3) := by decide +kernel
theorem dX5_simulate_54 : decode cX5_simulate 54 = .ok (.ladd, 1) := by decide +kernel
theorem dX5_simulate_55 : decode cX5_simulate 55 = .ok (.lstore 4, 2) := by decide +kernel
theorem dX5_simulate_57 : decode cX5_simulate 57 = .ok (.aload_n 0, 1) := by decide +kernel
theorem dX5_simulate_58 : decode cX5_simulate 58 = .ok (.lload 4, 2) := by decide +kernel
theorem dX5_simulate_60 : decode cX5_simulate 60 = .ok (.bipush 33, 2) := by decide +kernel
theorem dX5_simulate_62 : decode cX5_simulate 62 = .ok (.lushr, 1) := by decide +kernel
theorem dX5_simulate_63 : decode cX5_simulate 63 = .ok (.l2i, 1) := by decide +kernel
theorem dX5_simulate_64 : decode cX5_simulate 64 = .ok (.invokevirtual 394, 3) := by decide +kernel
theorem dX5_simulate_67 : decode cX5_simulate 67 = .ok (.iinc 6 1, 3) := by decide +kernel
theorem dX5_simulate_70 : decode cX5_simulate 70 = .ok (.goto (-31), 3) := by decide +kernel
theorem dX5_simulate_73 : decode cX5_simulate 73 = .ok (.aload_n 0, 1) := by decide +kernel
theorem dX5_simulate_74 : decode cX5_simulate 74 = .ok (.getfield 54, 3) := by decide +kernel
theorem dX5_simulate_77 : decode cX5_simulate 77 = .ok (.aload_n 0, 1) := by decide +kernel
theorem dX5_simulate_78 : decode cX5_simulate 78 = .ok (.getfield 16, 3) := by decide +kernel
theorem dX5_simulate_81 : decode cX5_simulate 81 = .ok (.invokevirtual 147, 3) := by decide +kernel
theorem dX5_simulate_84 : decode cX5_simulate 84 = .ok (.ldc_w 397, 3) := by decide +kernel
theorem dX5_simulate_87 : decode cX5_simulate 87 = .ok (.aload_n 0, 1) := by decide +kernel
theorem dX5_simulate_88 : decode cX5_simulate 88 = .ok (.getfield 54, 3) := by decide +kernel
theorem dX5_simulate_91 : decode cX5_simulate 91 = .ok (.invokevirtual 151, 3) := by decide +kernel
theorem dX5_simulate_94 : decode cX5_simulate 94 = .ok (.imul, 1) := by decide +kernel
theorem dX5_simulate_95 : decode cX5_simulate 95 = .ok (.aload_n 0, 1) := by decide +kernel
theorem dX5_simulate_96 : decode cX5_simulate 96 = .ok (.getfield 54, 3) := by decide +kernel
theorem dX5_simulate_99 : decode cX5_simulate 99 = .ok (.invokevirtual 154, 3) := by decide +kernel
theorem dX5_simulate_102 : decode cX5_simulate 102 = .ok (.iadd, 1) := by decide +kernel
theorem dX5_simulate_103 : decode cX5_simulate 103 = .ok (.ireturn, 1) := by decide +kernel
theorem dX5_takeTurn_0 : decode cX5_takeTurn 0 = .ok (.iload_n 1, 1) := by decide +kernel
theorem dX5_takeTurn_1 : decode cX5_takeTurn 1 = .ok (.bipush 8, 2) := by decide +kernel
theorem dX5_takeTurn_3 : decode cX5_takeTurn 3 = .ok (.idiv, 1) := by decide +kernel
theorem dX5_takeTurn_4 : decode cX5_takeTurn 4 = .ok (.istore_n 2, 1) := by decide +kernel
theorem dX5_takeTurn_5 : decode cX5_takeTurn 5 = .ok (.iload_n 1, 1) := by decide +kernel
theorem dX5_takeTurn_6 : decode cX5_takeTurn 6 = .ok (.bipush 8, 2) := by decide +kernel
theorem dX5_takeTurn_8 : decode cX5_takeTurn 8 = .ok (.irem, 1) := by decide +kernel
theorem dX5_takeTurn_9 : decode cX5_takeTurn 9 = .ok (.tableswitch 169 0 6 #[43, 43, 72, 94, 94, 94, 131], 43) := by decide +kernel
theorem dX5_takeTurn_52 : decode cX5_takeTurn 52 = .ok (.aload_n 0, 1) := by decide +kernel
theorem dX5_takeTurn_53 : decode cX5_takeTurn 53 = .ok (.getfield 16, 3) := by decide +kernel
theorem dX5_takeTurn_56 : decode cX5_takeTurn 56 = .ok (.iload_n 2, 1) := by decide +kernel
theorem dX5_takeTurn_57 : decode cX5_takeTurn 57 = .ok (.bipush 6, 2) := by decide +kernel
theorem dX5_takeTurn_59 : decode cX5_takeTurn 59 = .ok (.irem, 1) := by decide +kernel
theorem dX5_takeTurn_60 : decode cX5_takeTurn 60 = .ok (.iload_n 2, 1) := by decide +kernel
theorem dX5_takeTurn_61 : decode cX5_takeTurn 61 = .ok (.bipush 6, 2) := by decide +kernel
theorem dX5_takeTurn_63 : decode cX5_takeTurn 63 = .ok (.idiv, 1) := by decide +kernel
theorem dX5_takeTurn_64 : decode cX5_takeTurn 64 = .ok (.bipush 10, 2) := by decide +kernel
theorem dX5_takeTurn_66 : decode cX5_takeTurn 66 = .ok (.irem, 1) := by decide +kernel
theorem dX5_takeTurn_67 : decode cX5_takeTurn 67 = .ok (.iload_n 2, 1) := by decide +kernel
theorem dX5_takeTurn_68 : decode cX5_takeTurn 68 = .ok (.bipush 64, 2) := by decide +kernel
theorem dX5_takeTurn_70 : decode cX5_takeTurn 70 = .ok (.idiv, 1) := by decide +kernel
theorem dX5_takeTurn_71 : decode cX5_takeTurn 71 = .ok (.bipush 20, 2) := by decide +kernel
theorem dX5_takeTurn_73 : decode cX5_takeTurn 73 = .ok (.irem, 1) := by decide +kernel
theorem dX5_takeTurn_74 : decode cX5_takeTurn 74 = .ok (.invokevirtual 122, 3) := by decide +kernel
theorem dX5_takeTurn_77 : decode cX5_takeTurn 77 = .ok (.pop, 1) := by decide +kernel
theorem dX5_takeTurn_78 : decode cX5_takeTurn 78 = .ok (.goto 112, 3) := by decide +kernel
theorem dX5_takeTurn_81 : decode cX5_takeTurn 81 = .ok (.aload_n 0, 1) := by decide +kernel
theorem dX5_takeTurn_82 : decode cX5_takeTurn 82 = .ok (.getfield 16, 3) := by decide +kernel
theorem dX5_takeTurn_85 : decode cX5_takeTurn 85 = .ok (.iload_n 2, 1) := by decide +kernel
theorem dX5_takeTurn_86 : decode cX5_takeTurn 86 = .ok (.bipush 6, 2) := by decide +kernel
theorem dX5_takeTurn_88 : decode cX5_takeTurn 88 = .ok (.irem, 1) := by decide +kernel
theorem dX5_takeTurn_89 : decode cX5_takeTurn 89 = .ok (.iload_n 2, 1) := by decide +kernel
theorem dX5_takeTurn_90 : decode cX5_takeTurn 90 = .ok (.bipush 6, 2) := by decide +kernel
theorem dX5_takeTurn_92 : decode cX5_takeTurn 92 = .ok (.idiv, 1) := by decide +kernel
theorem dX5_takeTurn_93 : decode cX5_takeTurn 93 = .ok (.bipush 10, 2) := by decide +kernel
theorem dX5_takeTurn_95 : decode cX5_takeTurn 95 = .ok (.irem, 1) := by decide +kernel
theorem dX5_takeTurn_96 : decode cX5_takeTurn 96 = .ok (.invokevirtual 126, 3) := by decide +kernel
theorem dX5_takeTurn_99 : decode cX5_takeTurn 99 = .ok (.pop, 1) := by decide +kernel
theorem dX5_takeTurn_100 : decode cX5_takeTurn 100 = .ok (.goto 90, 3) := by decide +kernel
theorem dX5_takeTurn_103 : decode cX5_takeTurn 103 = .ok (.aload_n 0, 1) := by decide +kernel
theorem dX5_takeTurn_104 : decode cX5_takeTurn 104 = .ok (.getfield 16, 3) := by decide +kernel
theorem dX5_takeTurn_107 : decode cX5_takeTurn 107 = .ok (.iload_n 2, 1) := by decide +kernel
theorem dX5_takeTurn_108 : decode cX5_takeTurn 108 = .ok (.bipush 10, 2) := by decide +kernel
theorem dX5_takeTurn_110 : decode cX5_takeTurn 110 = .ok (.irem, 1) := by decide +kernel
theorem dX5_takeTurn_111 : decode cX5_takeTurn 111 = .ok (.iload_n 2, 1) := by decide +kernel
theorem dX5_takeTurn_112 : decode cX5_takeTurn 112 = .ok (.bipush 16, 2) := by decide +kernel
theorem dX5_takeTurn_114 : decode cX5_takeTurn 114 = .ok (.idiv, 1) := by decide +kernel
theorem dX5_takeTurn_115 : decode cX5_takeTurn 115 = .ok (.bipush 20, 2) := by decide +kernel
theorem dX5_takeTurn_117 : decode cX5_takeTurn 117 = .ok (.irem, 1) := by decide +kernel
theorem dX5_takeTurn_118 : decode cX5_takeTurn 118 = .ok (.iload_n 2, 1) := by decide +kernel
theorem dX5_takeTurn_119 : decode cX5_takeTurn 119 = .ok (.sipush 512, 3) := by decide +kernel
theorem dX5_takeTurn_122 : decode cX5_takeTurn 122 = .ok (.idiv, 1) := by decide +kernel
theorem dX5_takeTurn_123 : decode cX5_takeTurn 123 = .ok (.iconst 3, 1) := by decide +kernel
theorem dX5_takeTurn_124 : decode cX5_takeTurn 124 = .ok (.irem, 1) := by decide +kernel
theorem dX5_takeTurn_125 : decode cX5_takeTurn 125 = .ok (.ifCond .le 7, 3) := by decide +kernel
theorem dX5_takeTurn_128 : decode cX5_takeTurn 128 = .ok (.iconst 1, 1) := by decide +kernel
theorem dX5_takeTurn_129 : decode cX5_takeTurn 129 = .ok (.goto 4, 3) := by decide +kernel
theorem dX5_takeTurn_132 : decode cX5_takeTurn 132 = .ok (.iconst 0, 1) := by decide +kernel
theorem dX5_takeTurn_133 : decode cX5_takeTurn 133 = .ok (.invokevirtual 130, 3) := by decide +kernel
theorem dX5_takeTurn_136 : decode cX5_takeTurn 136 = .ok (.pop, 1) := by decide +kernel
theorem dX5_takeTurn_137 : decode cX5_takeTurn 137 = .ok (.goto 53, 3) := by decide +kernel
theorem dX5_takeTurn_140 : decode cX5_takeTurn 140 = .ok (.aload_n 0, 1) := by decide +kernel
theorem dX5_takeTurn_141 : decode cX5_takeTurn 141 = .ok (.getfield 16, 3) := by decide +kernel
theorem dX5_takeTurn_144 : decode cX5_takeTurn 144 = .ok (.iload_n 2, 1) := by decide +kernel
theorem dX5_takeTurn_145 : decode cX5_takeTurn 145 = .ok (.bipush 20, 2) := by decide +kernel
theorem dX5_takeTurn_147 : decode cX5_takeTurn 147 = .ok (.irem, 1) := by decide +kernel
theorem dX5_takeTurn_148 : decode cX5_takeTurn 148 = .ok (.iload_n 2, 1) := by decide +kernel
theorem dX5_takeTurn_149 : decode cX5_takeTurn 149 = .ok (.bipush 32, 2) := by decide +kernel
theorem dX5_takeTurn_151 : decode cX5_takeTurn 151 = .ok (.idiv, 1) := by decide +kernel
theorem dX5_takeTurn_152 : decode cX5_takeTurn 152 = .ok (.bipush 6, 2) := by decide +kernel
theorem dX5_takeTurn_154 : decode cX5_takeTurn 154 = .ok (.irem, 1) := by decide +kernel
theorem dX5_takeTurn_155 : decode cX5_takeTurn 155 = .ok (.iload_n 2, 1) := by decide +kernel
theorem dX5_takeTurn_156 : decode cX5_takeTurn 156 = .ok (.sipush 256, 3) := by decide +kernel
theorem dX5_takeTurn_159 : decode cX5_takeTurn 159 = .ok (.idiv, 1) := by decide +kernel
theorem dX5_takeTurn_160 : decode cX5_takeTurn 160 = .ok (.bipush 10, 2) := by decide +kernel
theorem dX5_takeTurn_162 : decode cX5_takeTurn 162 = .ok (.irem, 1) := by decide +kernel
theorem dX5_takeTurn_163 : decode cX5_takeTurn 163 = .ok (.iload_n 2, 1) := by decide +kernel
theorem dX5_takeTurn_164 : decode cX5_takeTurn 164 = .ok (.sipush 4096, 3) := by decide +kernel
theorem dX5_takeTurn_167 : decode cX5_takeTurn 167 = .ok (.idiv, 1) := by decide +kernel
theorem dX5_takeTurn_168 : decode cX5_takeTurn 168 = .ok (.bipush 24, 2) := by decide +kernel
theorem dX5_takeTurn_170 : decode cX5_takeTurn 170 = .ok (.irem, 1) := by decide +kernel
theorem dX5_takeTurn_171 : decode cX5_takeTurn 171 = .ok (.invokevirtual 134, 3) := by decide +kernel
theorem dX5_takeTurn_174 : decode cX5_takeTurn 174 = .ok (.pop, 1) := by decide +kernel
theorem dX5_takeTurn_175 : decode cX5_takeTurn 175 = .ok (.goto 15, 3) := by decide +kernel
theorem dX5_takeTurn_178 : decode cX5_takeTurn 178 = .ok (.aload_n 0, 1) := by decide +kernel
theorem dX5_takeTurn_179 : decode cX5_takeTurn 179 = .ok (.getfield 16, 3) := by decide +kernel
theorem dX5_takeTurn_182 : decode cX5_takeTurn 182 = .ok (.iload_n 2, 1) := by decide +kernel
theorem dX5_takeTurn_183 : decode cX5_takeTurn 183 = .ok (.bipush 20, 2) := by decide +kernel
theorem dX5_takeTurn_185 : decode cX5_takeTurn 185 = .ok (.irem, 1) := by decide +kernel
theorem dX5_takeTurn_186 : decode cX5_takeTurn 186 = .ok (.invokevirtual 323, 3) := by decide +kernel
theorem dX5_takeTurn_189 : decode cX5_takeTurn 189 = .ok (.pop, 1) := by decide +kernel
theorem dX5_takeTurn_190 : decode cX5_takeTurn 190 = .ok (.return_, 1) := by decide +kernel
theorem dX5_save_0 : decode cX5_save 0 = .ok (.iload_n 1, 1) := by decide +kernel
theorem dX5_save_1 : decode cX5_save 1 = .ok (.invokestatic 398, 3) := by decide +kernel
theorem dX5_save_4 : decode cX5_save 4 = .ok (.aload_n 0, 1) := by decide +kernel
theorem dX5_save_5 : decode cX5_save 5 = .ok (.getfield 10, 3) := by decide +kernel
theorem dX5_save_8 : decode cX5_save 8 = .ok (.aload_n 0, 1) := by decide +kernel
theorem dX5_save_9 : decode cX5_save 9 = .ok (.getfield 26, 3) := by decide +kernel
theorem dX5_save_12 : decode cX5_save 12 = .ok (.iload_n 1, 1) := by decide +kernel
theorem dX5_save_13 : decode cX5_save 13 = .ok (.invokevirtual 401, 3) := by decide +kernel
theorem dX5_save_16 : decode cX5_save 16 = .ok (.aload_n 0, 1) := by decide +kernel
theorem dX5_save_17 : decode cX5_save 17 = .ok (.getfield 30, 3) := by decide +kernel
theorem dX5_save_20 : decode cX5_save 20 = .ok (.iload_n 1, 1) := by decide +kernel
theorem dX5_save_21 : decode cX5_save 21 = .ok (.iconst 1, 1) := by decide +kernel
theorem dX5_save_22 : decode cX5_save 22 = .ok (.bastore, 1) := by decide +kernel
theorem dX5_save_23 : decode cX5_save 23 = .ok (.aload_n 0, 1) := by decide +kernel
theorem dX5_save_24 : decode cX5_save 24 = .ok (.getfield 10, 3) := by decide +kernel
theorem dX5_save_27 : decode cX5_save 27 = .ok (.invokevirtual 144, 3) := by decide +kernel
theorem dX5_save_30 : decode cX5_save 30 = .ok (.ireturn, 1) := by decide +kernel
theorem dX5_restore_0 : decode cX5_restore 0 = .ok (.iload_n 1, 1) := by decide +kernel
theorem dX5_restore_1 : decode cX5_restore 1 = .ok (.invokestatic 398, 3) := by decide +kernel
theorem dX5_restore_4 : decode cX5_restore 4 = .ok (.aload_n 0, 1) := by decide +kernel
theorem dX5_restore_5 : decode cX5_restore 5 = .ok (.getfield 30, 3) := by decide +kernel
theorem dX5_restore_8 : decode cX5_restore 8 = .ok (.iload_n 1, 1) := by decide +kernel
theorem dX5_restore_9 : decode cX5_restore 9 = .ok (.baload, 1) := by decide +kernel
theorem dX5_restore_10 : decode cX5_restore 10 = .ok (.ifCond .ne 14, 3) := by decide +kernel
theorem dX5_restore_13 : decode cX5_restore 13 = .ok (.new 72, 3) := by decide +kernel
theorem dX5_restore_16 : decode cX5_restore 16 = .ok (.dup, 1) := by decide +kernel
theorem dX5_restore_17 : decode cX5_restore 17 = .ok (.ldc_w 405, 3) := by decide +kernel
theorem dX5_restore_20 : decode cX5_restore 20 = .ok (.invokespecial 76, 3) := by decide +kernel
theorem dX5_restore_23 : decode cX5_restore 23 = .ok (.athrow, 1) := by decide +kernel
theorem dX5_restore_24 : decode cX5_restore 24 = .ok (.aload_n 0, 1) := by decide +kernel
theorem dX5_restore_25 : decode cX5_restore 25 = .ok (.getfield 10, 3) := by decide +kernel
theorem dX5_restore_28 : decode cX5_restore 28 = .ok (.aload_n 0, 1) := by decide +kernel
theorem dX5_restore_29 : decode cX5_restore 29 = .ok (.getfield 26, 3) := by decide +kernel
theorem dX5_restore_32 : decode cX5_restore 32 = .ok (.iload_n 1, 1) := by decide +kernel
theorem dX5_restore_33 : decode cX5_restore 33 = .ok (.invokevirtual 407, 3) := by decide +kernel
theorem dX5_restore_36 : decode cX5_restore 36 = .ok (.aload_n 0, 1) := by decide +kernel
theorem dX5_restore_37 : decode cX5_restore 37 = .ok (.getfield 22, 3) := by decide +kernel
theorem dX5_restore_40 : decode cX5_restore 40 = .ok (.invokevirtual 96, 3) := by decide +kernel
theorem dX5_restore_43 : decode cX5_restore 43 = .ok (.aload_n 0, 1) := by decide +kernel
theorem dX5_restore_44 : decode cX5_restore 44 = .ok (.getfield 10, 3) := by decide +kernel
theorem dX5_restore_47 : decode cX5_restore 47 = .ok (.invokevirtual 144, 3) := by decide +kernel
theorem dX5_restore_50 : decode cX5_restore 50 = .ok (.ireturn, 1) := by decide +kernel
theorem dX5_requireNight_0 : decode cX5_requireNight 0 = .ok (.iload_n 0, 1) := by decide +kernel
theorem dX5_requireNight_1 : decode cX5_requireNight 1 = .ok (.invokestatic 379, 3) := by decide +kernel
theorem dX5_requireNight_4 : decode cX5_requireNight 4 = .ok (.ifCond .ne 14, 3) := by decide +kernel
theorem dX5_requireNight_7 : decode cX5_requireNight 7 = .ok (.new 295, 3) := by decide +kernel
theorem dX5_requireNight_10 : decode cX5_requireNight 10 = .ok (.dup, 1) := by decide +kernel
theorem dX5_requireNight_11 : decode cX5_requireNight 11 = .ok (.ldc_w 410, 3) := by decide +kernel
theorem dX5_requireNight_14 : decode cX5_requireNight 14 = .ok (.invokespecial 299, 3) := by decide +kernel
theorem dX5_requireNight_17 : decode cX5_requireNight 17 = .ok (.athrow, 1) := by decide +kernel
theorem dX5_requireNight_18 : decode cX5_requireNight 18 = .ok (.return_, 1) := by decide +kernel
theorem dX5_requirePart_0 : decode cX5_requirePart 0 = .ok (.aload_n 0, 1) := by decide +kernel
theorem dX5_requirePart_1 : decode cX5_requirePart 1 = .ok (.getfield 10, 3) := by decide +kernel
theorem dX5_requirePart_4 : decode cX5_requirePart 4 = .ok (.iload_n 1, 1) := by decide +kernel
theorem dX5_requirePart_5 : decode cX5_requirePart 5 = .ok (.invokevirtual 382, 3) := by decide +kernel
theorem dX5_requirePart_8 : decode cX5_requirePart 8 = .ok (.ifCond .ne 14, 3) := by decide +kernel
theorem dX5_requirePart_11 : decode cX5_requirePart 11 = .ok (.new 295, 3) := by decide +kernel
theorem dX5_requirePart_14 : decode cX5_requirePart 14 = .ok (.dup, 1) := by decide +kernel
theorem dX5_requirePart_15 : decode cX5_requirePart 15 = .ok (.ldc_w 412, 3) := by decide +kernel
theorem dX5_requirePart_18 : decode cX5_requirePart 18 = .ok (.invokespecial 299, 3) := by decide +kernel
theorem dX5_requirePart_21 : decode cX5_requirePart 21 = .ok (.athrow, 1) := by decide +kernel
theorem dX5_requirePart_22 : decode cX5_requirePart 22 = .ok (.return_, 1) := by decide +kernel
theorem dX5_requireActor_0 : decode cX5_requireActor 0 = .ok (.aload_n 0, 1) := by decide +kernel
theorem dX5_requireActor_1 : decode cX5_requireActor 1 = .ok (.getfield 10, 3) := by decide +kernel
theorem dX5_requireActor_4 : decode cX5_requireActor 4 = .ok (.iload_n 1, 1) := by decide +kernel
theorem dX5_requireActor_5 : decode cX5_requireActor 5 = .ok (.invokevirtual 385, 3) := by decide +kernel
theorem dX5_requireActor_8 : decode cX5_requireActor 8 = .ok (.ifCond .ne 14, 3) := by decide +kernel
theorem dX5_requireActor_11 : decode cX5_requireActor 11 = .ok (.new 295, 3) := by decide +kernel
theorem dX5_requireActor_14 : decode cX5_requireActor 14 = .ok (.dup, 1) := by decide +kernel
theorem dX5_requireActor_15 : decode cX5_requireActor 15 = .ok (.ldc_w 414, 3) := by decide +kernel
theorem dX5_requireActor_18 : decode cX5_requireActor 18 = .ok (.invokespecial 299, 3) := by decide +kernel
theorem dX5_requireActor_21 : decode cX5_requireActor 21 = .ok (.athrow, 1) := by decide +kernel
theorem dX5_requireActor_22 : decode cX5_requireActor 22 = .ok (.return_, 1) := by decide +kernel
theorem dX5_requireSlip_0 : decode cX5_requireSlip 0 = .ok (.aload_n 0, 1) := by decide +kernel
theorem dX5_requireSlip_1 : decode cX5_requireSlip 1 = .ok (.getfield 10, 3) := by decide +kernel
theorem dX5_requireSlip_4 : decode cX5_requireSlip 4 = .ok (.iload_n 1, 1) := by decide +kernel
theorem dX5_requireSlip_5 : decode cX5_requireSlip 5 = .ok (.invokevirtual 416, 3) := by decide +kernel
theorem dX5_requireSlip_8 : decode cX5_requireSlip 8 = .ok (.ifCond .ne 14, 3) := by decide +kernel
theorem dX5_requireSlip_11 : decode cX5_requireSlip 11 = .ok (.new 295, 3) := by decide +kernel
theorem dX5_requireSlip_14 : decode cX5_requireSlip 14 = .ok (.dup, 1) := by decide +kernel
theorem dX5_requireSlip_15 : decode cX5_requireSlip 15 = .ok (.ldc_w 419, 3) := by decide +kernel
theorem dX5_requireSlip_18 : decode cX5_requireSlip 18 = .ok (.invokespecial 299, 3) := by decide +kernel
theorem dX5_requireSlip_21 : decode cX5_requireSlip 21 = .ok (.athrow, 1) := by decide +kernel
theorem dX5_requireSlip_22 : decode cX5_requireSlip 22 = .ok (.return_, 1) := by decide +kernel
theorem dX5_requireSetting_0 : decode cX5_requireSetting 0 = .ok (.iload_n 0, 1) := by decide +kernel
theorem dX5_requireSetting_1 : decode cX5_requireSetting 1 = .ok (.ifCond .lt 8, 3) := by decide +kernel
theorem dX5_requireSetting_4 : decode cX5_requireSetting 4 = .ok (.iload_n 0, 1) := by decide +kernel
theorem dX5_requireSetting_5 : decode cX5_requireSetting 5 = .ok (.iconst 2, 1) := by decide +kernel
theorem dX5_requireSetting_6 : decode cX5_requireSetting 6 = .ok (.if_icmp .lt 14, 3) := by decide +kernel
theorem dX5_requireSetting_9 : decode cX5_requireSetting 9 = .ok (.new 61, 3) := by decide +kernel
theorem dX5_requireSetting_12 : decode cX5_requireSetting 12 = .ok (.dup, 1) := by decide +kernel
theorem dX5_requireSetting_13 : decode cX5_requireSetting 13 = .ok (.ldc_w 421, 3) := by decide +kernel
theorem dX5_requireSetting_16 : decode cX5_requireSetting 16 = .ok (.invokespecial 65, 3) := by decide +kernel
theorem dX5_requireSetting_19 : decode cX5_requireSetting 19 = .ok (.athrow, 1) := by decide +kernel
theorem dX5_requireSetting_20 : decode cX5_requireSetting 20 = .ok (.return_, 1) := by decide +kernel
theorem dX5_requireSlot_0 : decode cX5_requireSlot 0 = .ok (.iload_n 0, 1) := by decide +kernel
theorem dX5_requireSlot_1 : decode cX5_requireSlot 1 = .ok (.ifCond .lt 8, 3) := by decide +kernel
theorem dX5_requireSlot_4 : decode cX5_requireSlot 4 = .ok (.iload_n 0, 1) := by decide +kernel
theorem dX5_requireSlot_5 : decode cX5_requireSlot 5 = .ok (.iconst 2, 1) := by decide +kernel
theorem dX5_requireSlot_6 : decode cX5_requireSlot 6 = .ok (.if_icmp .lt 14, 3) := by decide +kernel
theorem dX5_requireSlot_9 : decode cX5_requireSlot 9 = .ok (.new 295, 3) := by decide +kernel
theorem dX5_requireSlot_12 : decode cX5_requireSlot 12 = .ok (.dup, 1) := by decide +kernel
theorem dX5_requireSlot_13 : decode cX5_requireSlot 13 = .ok (.ldc_w 423, 3) := by decide +kernel
theorem dX5_requireSlot_16 : decode cX5_requireSlot 16 = .ok (.invokespecial 299, 3) := by decide +kernel
theorem dX5_requireSlot_19 : decode cX5_requireSlot 19 = .ok (.athrow, 1) := by decide +kernel
theorem dX5_requireSlot_20 : decode cX5_requireSlot 20 = .ok (.return_, 1) := by decide +kernel
theorem dX5_hasNight_0 : decode cX5_hasNight 0 = .ok (.iload_n 0, 1) := by decide +kernel
theorem dX5_hasNight_1 : decode cX5_hasNight 1 = .ok (.bipush 20, 2) := by decide +kernel
theorem dX5_hasNight_3 : decode cX5_hasNight 3 = .ok (.invokestatic 425, 3) := by decide +kernel
theorem dX5_hasNight_6 : decode cX5_hasNight 6 = .ok (.ireturn, 1) := by decide +kernel
theorem dX5_isIndex_0 : decode cX5_isIndex 0 = .ok (.iload_n 0, 1) := by decide +kernel
theorem dX5_isIndex_1 : decode cX5_isIndex 1 = .ok (.ifCond .lt 12, 3) := by decide +kernel
theorem dX5_isIndex_4 : decode cX5_isIndex 4 = .ok (.iload_n 0, 1) := by decide +kernel
theorem dX5_isIndex_5 : decode cX5_isIndex 5 = .ok (.iload_n 1, 1) := by decide +kernel
theorem dX5_isIndex_6 : decode cX5_isIndex 6 = .ok (.if_icmp .ge 7, 3) := by decide +kernel
theorem dX5_isIndex_9 : decode cX5_isIndex 9 = .ok (.iconst 1, 1) := by decide +kernel
theorem dX5_isIndex_10 : decode cX5_isIndex 10 = .ok (.goto 4, 3) := by decide +kernel
theorem dX5_isIndex_13 : decode cX5_isIndex 13 = .ok (.iconst 0, 1) := by decide +kernel
theorem dX5_isIndex_14 : decode cX5_isIndex 14 = .ok (.ireturn, 1) := by decide +kernel
theorem dX5_holds_0 : decode cX5_holds 0 = .ok (.iload_n 1, 1) := by decide +kernel
theorem dX5_holds_1 : decode cX5_holds 1 = .ok (.ifCond .lt 15, 3) := by decide +kernel
theorem dX5_holds_4 : decode cX5_holds 4 = .ok (.iload_n 0, 1) := by decide +kernel
theorem dX5_holds_5 : decode cX5_holds 5 = .ok (.iload_n 1, 1) := by decide +kernel
theorem dX5_holds_6 : decode cX5_holds 6 = .ok (.iushr, 1) := by decide +kernel
theorem dX5_holds_7 : decode cX5_holds 7 = .ok (.iconst 1, 1) := by decide +kernel
theorem dX5_holds_8 : decode cX5_holds 8 = .ok (.iand, 1) := by decide +kernel
theorem dX5_holds_9 : decode cX5_holds 9 = .ok (.ifCond .eq 7, 3) := by decide +kernel
theorem dX5_holds_12 : decode cX5_holds 12 = .ok (.iconst 1, 1) := by decide +kernel
theorem dX5_holds_13 : decode cX5_holds 13 = .ok (.goto 4, 3) := by decide +kernel
theorem dX5_holds_16 : decode cX5_holds 16 = .ok (.iconst 0, 1) := by decide +kernel
theorem dX5_holds_17 : decode cX5_holds 17 = .ok (.ireturn, 1) := by decide +kernel
