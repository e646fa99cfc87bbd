theorem dX6_partOn_6 : decode cX6_partOn 6 = .ok (.iload_n 2, 1) := by decide +kernel
theorem dX6_partOn_7 : decode cX6_partOn 7 = .ok (.bipush 20, 2) := by decide +kernel
theorem dX6_partOn_9 : decode cX6_partOn 9 = .ok (.if_icmp .ge 21, 3) := by decide +kernel
theorem dX6_partOn_12 : decode cX6_partOn 12 = .ok (.aload_n 0, 1) := by decide +kernel
theorem dX6_partOn_13 : decode cX6_partOn 13 = .ok (.bipush 25, 2) := by decide +kernel
theorem dX6_partOn_15 : decode cX6_partOn 15 = .ok (.bipush 20, 2) := by decide +kernel
theorem dX6_partOn_17 : decode cX6_partOn 17 = .ok (.iload_n 1, 1) := by decide +kernel
theorem dX6_partOn_18 : decode cX6_partOn 18 = .ok (.imul, 1) := by decide +kernel
theorem dX6_partOn_19 : decode cX6_partOn 19 = .ok (.iadd, 1) := by decide +kernel
theorem dX6_partOn_20 : decode cX6_partOn 20 = .ok (.iload_n 2, 1) := by decide +kernel
theorem dX6_partOn_21 : decode cX6_partOn 21 = .ok (.iadd, 1) := by decide +kernel
theorem dX6_partOn_22 : decode cX6_partOn 22 = .ok (.iconst (-1), 1) := by decide +kernel
theorem dX6_partOn_23 : decode cX6_partOn 23 = .ok (.iastore, 1) := by decide +kernel
theorem dX6_partOn_24 : decode cX6_partOn 24 = .ok (.iinc 2 1, 3) := by decide +kernel
theorem dX6_partOn_27 : decode cX6_partOn 27 = .ok (.goto (-21), 3) := by decide +kernel
theorem dX6_partOn_30 : decode cX6_partOn 30 = .ok (.aload_n 0, 1) := by decide +kernel
theorem dX6_partOn_31 : decode cX6_partOn 31 = .ok (.sipush 145, 3) := by decide +kernel
theorem dX6_partOn_34 : decode cX6_partOn 34 = .ok (.iconst 5, 1) := by decide +kernel
theorem dX6_partOn_35 : decode cX6_partOn 35 = .ok (.iload_n 1, 1) := by decide +kernel
theorem dX6_partOn_36 : decode cX6_partOn 36 = .ok (.imul, 1) := by decide +kernel
theorem dX6_partOn_37 : decode cX6_partOn 37 = .ok (.iadd, 1) := by decide +kernel
theorem dX6_partOn_38 : decode cX6_partOn 38 = .ok (.iconst 0, 1) := by decide +kernel
theorem dX6_partOn_39 : decode cX6_partOn 39 = .ok (.iastore, 1) := by decide +kernel
theorem dX6_partOn_40 : decode cX6_partOn 40 = .ok (.aload_n 0, 1) := by decide +kernel
theorem dX6_partOn_41 : decode cX6_partOn 41 = .ok (.iconst 0, 1) := by decide +kernel
theorem dX6_partOn_42 : decode cX6_partOn 42 = .ok (.dup2, 1) := by decide +kernel
theorem dX6_partOn_43 : decode cX6_partOn 43 = .ok (.iaload, 1) := by decide +kernel
theorem dX6_partOn_44 : decode cX6_partOn 44 = .ok (.iconst 1, 1) := by decide +kernel
theorem dX6_partOn_45 : decode cX6_partOn 45 = .ok (.iadd, 1) := by decide +kernel
theorem dX6_partOn_46 : decode cX6_partOn 46 = .ok (.iastore, 1) := by decide +kernel
theorem dX6_partOn_47 : decode cX6_partOn 47 = .ok (.iload_n 1, 1) := by decide +kernel
theorem dX6_partOn_48 : decode cX6_partOn 48 = .ok (.ireturn, 1) := by decide +kernel
theorem dX6_isSetting_0 : decode cX6_isSetting 0 = .ok (.iload_n 0, 1) := by decide +kernel
theorem dX6_isSetting_1 : decode cX6_isSetting 1 = .ok (.i2l, 1) := by decide +kernel
theorem dX6_isSetting_2 : decode cX6_isSetting 2 = .ok (.lconst 0, 1) := by decide +kernel
theorem dX6_isSetting_3 : decode cX6_isSetting 3 = .ok (.lconst 1, 1) := by decide +kernel
theorem dX6_isSetting_4 : decode cX6_isSetting 4 = .ok (.invokestatic 48, 3) := by decide +kernel
theorem dX6_isSetting_7 : decode cX6_isSetting 7 = .ok (.ifCond .eq 29, 3) := by decide +kernel
theorem dX6_isSetting_10 : decode cX6_isSetting 10 = .ok (.iload_n 1, 1) := by decide +kernel
theorem dX6_isSetting_11 : decode cX6_isSetting 11 = .ok (.i2l, 1) := by decide +kernel
theorem dX6_isSetting_12 : decode cX6_isSetting 12 = .ok (.lconst 0, 1) := by decide +kernel
theorem dX6_isSetting_13 : decode cX6_isSetting 13 = .ok (.iload_n 0, 1) := by decide +kernel
theorem dX6_isSetting_14 : decode cX6_isSetting 14 = .ok (.ifCond .ne 9, 3) := by decide +kernel
theorem dX6_isSetting_17 : decode cX6_isSetting 17 = .ok (.ldc2_w 110, 3) := by decide +kernel
theorem dX6_isSetting_20 : decode cX6_isSetting 20 = .ok (.goto 6, 3) := by decide +kernel
theorem dX6_isSetting_23 : decode cX6_isSetting 23 = .ok (.ldc2_w 112, 3) := by decide +kernel
theorem dX6_isSetting_26 : decode cX6_isSetting 26 = .ok (.invokestatic 48, 3) := by decide +kernel
theorem dX6_isSetting_29 : decode cX6_isSetting 29 = .ok (.ifCond .eq 7, 3) := by decide +kernel
theorem dX6_isSetting_32 : decode cX6_isSetting 32 = .ok (.iconst 1, 1) := by decide +kernel
theorem dX6_isSetting_33 : decode cX6_isSetting 33 = .ok (.goto 4, 3) := by decide +kernel
theorem dX6_isSetting_36 : decode cX6_isSetting 36 = .ok (.iconst 0, 1) := by decide +kernel
theorem dX6_isSetting_37 : decode cX6_isSetting 37 = .ok (.ireturn, 1) := by decide +kernel
theorem dX6_append_0 : decode cX6_append 0 = .ok (.aload_n 0, 1) := by decide +kernel
theorem dX6_append_1 : decode cX6_append 1 = .ok (.iload_n 1, 1) := by decide +kernel
theorem dX6_append_2 : decode cX6_append 2 = .ok (.i2l, 1) := by decide +kernel
theorem dX6_append_3 : decode cX6_append 3 = .ok (.lconst 0, 1) := by decide +kernel
theorem dX6_append_4 : decode cX6_append 4 = .ok (.ldc2_w 114, 3) := by decide +kernel
theorem dX6_append_7 : decode cX6_append 7 = .ok (.invokestatic 48, 3) := by decide +kernel
theorem dX6_append_10 : decode cX6_append 10 = .ok (.ifCond .ne 7, 3) := by decide +kernel
theorem dX6_append_13 : decode cX6_append 13 = .ok (.iconst 1, 1) := by decide +kernel
theorem dX6_append_14 : decode cX6_append 14 = .ok (.goto 17, 3) := by decide +kernel
theorem dX6_append_17 : decode cX6_append 17 = .ok (.aload_n 0, 1) := by decide +kernel
theorem dX6_append_18 : decode cX6_append 18 = .ok (.getfield 116, 3) := by decide +kernel
theorem dX6_append_21 : decode cX6_append 21 = .ok (.bipush 120, 2) := by decide +kernel
theorem dX6_append_23 : decode cX6_append 23 = .ok (.if_icmp .ne 7, 3) := by decide +kernel
theorem dX6_append_26 : decode cX6_append 26 = .ok (.iconst 2, 1) := by decide +kernel
theorem dX6_append_27 : decode cX6_append 27 = .ok (.goto 4, 3) := by decide +kernel
theorem dX6_append_30 : decode cX6_append 30 = .ok (.iconst 0, 1) := by decide +kernel
theorem dX6_append_31 : decode cX6_append 31 = .ok (.invokevirtual 119, 3) := by decide +kernel
theorem dX6_append_34 : decode cX6_append 34 = .ok (.ifCond .eq 5, 3) := by decide +kernel
theorem dX6_append_37 : decode cX6_append 37 = .ok (.iconst 0, 1) := by decide +kernel
theorem dX6_append_38 : decode cX6_append 38 = .ok (.ireturn, 1) := by decide +kernel
theorem dX6_append_39 : decode cX6_append 39 = .ok (.aload_n 0, 1) := by decide +kernel
theorem dX6_append_40 : decode cX6_append 40 = .ok (.getfield 7, 3) := by decide +kernel
theorem dX6_append_43 : decode cX6_append 43 = .ok (.aload_n 0, 1) := by decide +kernel
theorem dX6_append_44 : decode cX6_append 44 = .ok (.getfield 116, 3) := by decide +kernel
theorem dX6_append_47 : decode cX6_append 47 = .ok (.iload_n 1, 1) := by decide +kernel
theorem dX6_append_48 : decode cX6_append 48 = .ok (.iastore, 1) := by decide +kernel
theorem dX6_append_49 : decode cX6_append 49 = .ok (.aload_n 0, 1) := by decide +kernel
theorem dX6_append_50 : decode cX6_append 50 = .ok (.dup, 1) := by decide +kernel
theorem dX6_append_51 : decode cX6_append 51 = .ok (.getfield 116, 3) := by decide +kernel
theorem dX6_append_54 : decode cX6_append 54 = .ok (.iconst 1, 1) := by decide +kernel
theorem dX6_append_55 : decode cX6_append 55 = .ok (.iadd, 1) := by decide +kernel
theorem dX6_append_56 : decode cX6_append 56 = .ok (.putfield 116, 3) := by decide +kernel
theorem dX6_append_59 : decode cX6_append 59 = .ok (.aload_n 0, 1) := by decide +kernel
theorem dX6_append_60 : decode cX6_append 60 = .ok (.getfield 116, 3) := by decide +kernel
theorem dX6_append_63 : decode cX6_append 63 = .ok (.ireturn, 1) := by decide +kernel
theorem dX6_clearText_0 : decode cX6_clearText 0 = .ok (.aload_n 0, 1) := by decide +kernel
theorem dX6_clearText_1 : decode cX6_clearText 1 = .ok (.iconst 0, 1) := by decide +kernel
theorem dX6_clearText_2 : decode cX6_clearText 2 = .ok (.putfield 42, 3) := by decide +kernel
theorem dX6_clearText_5 : decode cX6_clearText 5 = .ok (.aload_n 0, 1) := by decide +kernel
theorem dX6_clearText_6 : decode cX6_clearText 6 = .ok (.getfield 116, 3) := by decide +kernel
theorem dX6_clearText_9 : decode cX6_clearText 9 = .ok (.istore_n 1, 1) := by decide +kernel
theorem dX6_clearText_10 : decode cX6_clearText 10 = .ok (.aload_n 0, 1) := by decide +kernel
theorem dX6_clearText_11 : decode cX6_clearText 11 = .ok (.iconst 0, 1) := by decide +kernel
theorem dX6_clearText_12 : decode cX6_clearText 12 = .ok (.putfield 116, 3) := by decide +kernel
theorem dX6_clearText_15 : decode cX6_clearText 15 = .ok (.iload_n 1, 1) := by decide +kernel
theorem dX6_clearText_16 : decode cX6_clearText 16 = .ok (.ireturn, 1) := by decide +kernel
theorem dX6_figures_0 : decode cX6_figures 0 = .ok (.iconst 0, 1) := by decide +kernel
theorem dX6_figures_1 : decode cX6_figures 1 = .ok (.istore 4, 2) := by decide +kernel
theorem dX6_figures_3 : decode cX6_figures 3 = .ok (.iload_n 2, 1) := by decide +kernel
theorem dX6_figures_4 : decode cX6_figures 4 = .ok (.iconst 2, 1) := by decide +kernel
theorem dX6_figures_5 : decode cX6_figures 5 = .ok (.if_icmp .ne 8, 3) := by decide +kernel
theorem dX6_figures_8 : decode cX6_figures 8 = .ok (.bipush 10, 2) := by decide +kernel
theorem dX6_figures_10 : decode cX6_figures 10 = .ok (.goto 4, 3) := by decide +kernel
theorem dX6_figures_13 : decode cX6_figures 13 = .ok (.iconst 1, 1) := by decide +kernel
theorem dX6_figures_14 : decode cX6_figures 14 = .ok (.istore 5, 2) := by decide +kernel
theorem dX6_figures_16 : decode cX6_figures 16 = .ok (.iload 5, 2) := by decide +kernel
theorem dX6_figures_18 : decode cX6_figures 18 = .ok (.ifCond .le 94, 3) := by decide +kernel
theorem dX6_figures_21 : decode cX6_figures 21 = .ok (.iload_n 1, 1) := by decide +kernel
theorem dX6_figures_22 : decode cX6_figures 22 = .ok (.iconst (-1), 1) := by decide +kernel
theorem dX6_figures_23 : decode cX6_figures 23 = .ok (.if_icmp .eq 89, 3) := by decide +kernel
theorem dX6_figures_26 : decode cX6_figures 26 = .ok (.aload_n 0, 1) := by decide +kernel
theorem dX6_figures_27 : decode cX6_figures 27 = .ok (.getfield 122, 3) := by decide +kernel
theorem dX6_figures_30 : decode cX6_figures 30 = .ok (.aload_n 0, 1) := by decide +kernel
theorem dX6_figures_31 : decode cX6_figures 31 = .ok (.getfield 116, 3) := by decide +kernel
theorem dX6_figures_34 : decode cX6_figures 34 = .ok (.if_icmp .ge 18, 3) := by decide +kernel
theorem dX6_figures_37 : decode cX6_figures 37 = .ok (.aload_n 0, 1) := by decide +kernel
theorem dX6_figures_38 : decode cX6_figures 38 = .ok (.getfield 7, 3) := by decide +kernel
theorem dX6_figures_41 : decode cX6_figures 41 = .ok (.aload_n 0, 1) := by decide +kernel
theorem dX6_figures_42 : decode cX6_figures 42 = .ok (.getfield 122, 3) := by decide +kernel
theorem dX6_figures_45 : decode cX6_figures 45 = .ok (.iaload, 1) := by decide +kernel
theorem dX6_figures_46 : decode cX6_figures 46 = .ok (.bipush 48, 2) := by decide +kernel
theorem dX6_figures_48 : decode cX6_figures 48 = .ok (.isub, 1) := by decide +kernel
theorem dX6_figures_49 : decode cX6_figures 49 = .ok (.goto 4, 3) := by decide +kernel
theorem dX6_figures_52 : decode cX6_figures 52 = .ok (.iconst (-1), 1) := by decide +kernel
theorem dX6_figures_53 : decode cX6_figures 53 = .ok (.istore 6, 2) := by decide +kernel
theorem dX6_figures_55 : decode cX6_figures 55 = .ok (.iload 6, 2) := by decide +kernel
theorem dX6_figures_57 : decode cX6_figures 57 = .ok (.i2l, 1) := by decide +kernel
theorem dX6_figures_58 : decode cX6_figures 58 = .ok (.lconst 0, 1) := by decide +kernel
theorem dX6_figures_59 : decode cX6_figures 59 = .ok (.ldc2_w 112, 3) := by decide +kernel
theorem dX6_figures_62 : decode cX6_figures 62 = .ok (.invokestatic 48, 3) := by decide +kernel
theorem dX6_figures_65 : decode cX6_figures 65 = .ok (.ifCond .eq 15, 3) := by decide +kernel
theorem dX6_figures_68 : decode cX6_figures 68 = .ok (.iload 4, 2) := by decide +kernel
theorem dX6_figures_70 : decode cX6_figures 70 = .ok (.iload 6, 2) := by decide +kernel
theorem dX6_figures_72 : decode cX6_figures 72 = .ok (.iload 5, 2) := by decide +kernel
theorem dX6_figures_74 : decode cX6_figures 74 = .ok (.imul, 1) := by decide +kernel
theorem dX6_figures_75 : decode cX6_figures 75 = .ok (.iadd, 1) := by decide +kernel
theorem dX6_figures_76 : decode cX6_figures 76 = .ok (.iload_n 3, 1) := by decide +kernel
theorem dX6_figures_77 : decode cX6_figures 77 = .ok (.if_icmp .le 5, 3) := by decide +kernel
theorem dX6_figures_80 : decode cX6_figures 80 = .ok (.iconst (-1), 1) := by decide +kernel
theorem dX6_figures_81 : decode cX6_figures 81 = .ok (.ireturn, 1) := by decide +kernel
theorem dX6_figures_82 : decode cX6_figures 82 = .ok (.iload 4, 2) := by decide +kernel
theorem dX6_figures_84 : decode cX6_figures 84 = .ok (.iload 6, 2) := by decide +kernel
theorem dX6_figures_86 : decode cX6_figures 86 = .ok (.iload 5, 2) := by decide +kernel
theorem dX6_figures_88 : decode cX6_figures 88 = .ok (.imul, 1) := by decide +kernel
theorem dX6_figures_89 : decode cX6_figures 89 = .ok (.iadd, 1) := by decide +kernel
theorem dX6_figures_90 : decode cX6_figures 90 = .ok (.istore 4, 2) := by decide +kernel
theorem dX6_figures_92 : decode cX6_figures 92 = .ok (.aload_n 0, 1) := by decide +kernel
theorem dX6_figures_93 : decode cX6_figures 93 = .ok (.dup, 1) := by decide +kernel
theorem dX6_figures_94 : decode cX6_figures 94 = .ok (.getfield 122, 3) := by decide +kernel
theorem dX6_figures_97 : decode cX6_figures 97 = .ok (.iconst 1, 1) := by decide +kernel
theorem dX6_figures_98 : decode cX6_figures 98 = .ok (.iadd, 1) := by decide +kernel
theorem dX6_figures_99 : decode cX6_figures 99 = .ok (.putfield 122, 3) := by decide +kernel
theorem dX6_figures_102 : decode cX6_figures 102 = .ok (.iload 5, 2) := by decide +kernel
theorem dX6_figures_104 : decode cX6_figures 104 = .ok (.bipush 10, 2) := by decide +kernel
theorem dX6_figures_106 : decode cX6_figures 106 = .ok (.idiv, 1) := by decide +kernel
theorem dX6_figures_107 : decode cX6_figures 107 = .ok (.istore 5, 2) := by decide +kernel
theorem dX6_figures_109 : decode cX6_figures 109 = .ok (.goto (-93), 3) := by decide +kernel
theorem dX6_figures_112 : decode cX6_figures 112 = .ok (.iload_n 1, 1) := by decide +kernel
theorem dX6_figures_113 : decode cX6_figures 113 = .ok (.iconst (-1), 1) := by decide +kernel
theorem dX6_figures_114 : decode cX6_figures 114 = .ok (.if_icmp .ne 7, 3) := by decide +kernel
theorem dX6_figures_117 : decode cX6_figures 117 = .ok (.iconst (-1), 1) := by decide +kernel
theorem dX6_figures_118 : decode cX6_figures 118 = .ok (.goto 5, 3) := by decide +kernel
theorem dX6_figures_121 : decode cX6_figures 121 = .ok (.iload 4, 2) := by decide +kernel
theorem dX6_figures_123 : decode cX6_figures 123 = .ok (.ireturn, 1) := by decide +kernel
theorem dX6_done_0 : decode cX6_done 0 = .ok (.aload_n 0, 1) := by decide +kernel
theorem dX6_done_1 : decode cX6_done 1 = .ok (.dup, 1) := by decide +kernel
theorem dX6_done_2 : decode cX6_done 2 = .ok (.getfield 125, 3) := by decide +kernel
theorem dX6_done_5 : decode cX6_done 5 = .ok (.iload_n 1, 1) := by decide +kernel
theorem dX6_done_6 : decode cX6_done 6 = .ok (.ifCond .eq 7, 3) := by decide +kernel
theorem dX6_done_9 : decode cX6_done 9 = .ok (.iconst 0, 1) := by decide +kernel
theorem dX6_done_10 : decode cX6_done 10 = .ok (.goto 4, 3) := by decide +kernel
theorem dX6_done_13 : decode cX6_done 13 = .ok (.iconst 1, 1) := by decide +kernel
theorem dX6_done_14 : decode cX6_done 14 = .ok (.iadd, 1) := by decide +kernel
theorem dX6_done_15 : decode cX6_done 15 = .ok (.putfield 125, 3) := by decide +kernel
theorem dX6_done_18 : decode cX6_done 18 = .ok (.iconst 1, 1) := by decide +kernel
theorem dX6_done_19 : decode cX6_done 19 = .ok (.ireturn, 1) := by decide +kernel
theorem dX6_readSlip_0 : decode cX6_readSlip 0 = .ok (.aload_n 0, 1) := by decide +kernel
theorem dX6_readSlip_1 : decode cX6_readSlip 1 = .ok (.iconst 0, 1) := by decide +kernel
theorem dX6_readSlip_2 : decode cX6_readSlip 2 = .ok (.iconst 2, 1) := by decide +kernel
theorem dX6_readSlip_3 : decode cX6_readSlip 3 = .ok (.bipush 19, 2) := by decide +kernel
theorem dX6_readSlip_5 : decode cX6_readSlip 5 = .ok (.invokevirtual 128, 3) := by decide +kernel
theorem dX6_readSlip_8 : decode cX6_readSlip 8 = .ok (.istore_n 2, 1) := by decide +kernel
theorem dX6_readSlip_9 : decode cX6_readSlip 9 = .ok (.aload_n 0, 1) := by decide +kernel
theorem dX6_readSlip_10 : decode cX6_readSlip 10 = .ok (.iload_n 2, 1) := by decide +kernel
theorem dX6_readSlip_11 : decode cX6_readSlip 11 = .ok (.iconst 1, 1) := by decide +kernel
theorem dX6_readSlip_12 : decode cX6_readSlip 12 = .ok (.iconst 5, 1) := by decide +kernel
theorem dX6_readSlip_13 : decode cX6_readSlip 13 = .ok (.invokevirtual 128, 3) := by decide +kernel
theorem dX6_readSlip_16 : decode cX6_readSlip 16 = .ok (.istore_n 3, 1) := by decide +kernel
theorem dX6_readSlip_17 : decode cX6_readSlip 17 = .ok (.aload_n 0, 1) := by decide +kernel
theorem dX6_readSlip_18 : decode cX6_readSlip 18 = .ok (.iload_n 3, 1) := by decide +kernel
theorem dX6_readSlip_19 : decode cX6_readSlip 19 = .ok (.iconst 1, 1) := by decide +kernel
theorem dX6_readSlip_20 : decode cX6_readSlip 20 = .ok (.bipush 9, 2) := by decide +kernel
theorem dX6_readSlip_22 : decode cX6_readSlip 22 = .ok (.invokevirtual 128, 3) := by decide +kernel
theorem dX6_readSlip_25 : decode cX6_readSlip 25 = .ok (.istore 4, 2) := by decide +kernel
theorem dX6_readSlip_27 : decode cX6_readSlip 27 = .ok (.aload_n 0, 1) := by decide +kernel
theorem dX6_readSlip_28 : decode cX6_readSlip 28 = .ok (.iload 4, 2) := by decide +kernel
theorem dX6_readSlip_30 : decode cX6_readSlip 30 = .ok (.iconst 2, 1) := by decide +kernel
theorem dX6_readSlip_31 : decode cX6_readSlip 31 = .ok (.bipush 23, 2) := by decide +kernel
theorem dX6_readSlip_33 : decode cX6_readSlip 33 = .ok (.invokevirtual 128, 3) := by decide +kernel
theorem dX6_readSlip_36 : decode cX6_readSlip 36 = .ok (.istore 5, 2) := by decide +kernel
theorem dX6_readSlip_38 : decode cX6_readSlip 38 = .ok (.iload 5, 2) := by decide +kernel
theorem dX6_readSlip_40 : decode cX6_readSlip 40 = .ok (.iconst (-1), 1) := by decide +kernel
theorem dX6_readSlip_41 : decode cX6_readSlip 41 = .ok (.if_icmp .eq 43, 3) := by decide +kernel
theorem dX6_readSlip_44 : decode cX6_readSlip 44 = .ok (.aload_n 0, 1) := by decide +kernel
theorem dX6_readSlip_45 : decode cX6_readSlip 45 = .ok (.aload_n 1, 1) := by decide +kernel
theorem dX6_readSlip_46 : decode cX6_readSlip 46 = .ok (.iload_n 2, 1) := by decide +kernel
theorem dX6_readSlip_47 : decode cX6_readSlip 47 = .ok (.iload_n 3, 1) := by decide +kernel
theorem dX6_readSlip_48 : decode cX6_readSlip 48 = .ok (.iload 4, 2) := by decide +kernel
theorem dX6_readSlip_50 : decode cX6_readSlip 50 = .ok (.invokestatic 132, 3) := by decide +kernel
theorem dX6_readSlip_53 : decode cX6_readSlip 53 = .ok (.ifCond .eq 20, 3) := by decide +kernel
theorem dX6_readSlip_56 : decode cX6_readSlip 56 = .ok (.aload_n 1, 1) := by decide +kernel
theorem dX6_readSlip_57 : decode cX6_readSlip 57 = .ok (.iload_n 2, 1) := by decide +kernel
theorem dX6_readSlip_58 : decode cX6_readSlip 58 = .ok (.iload_n 3, 1) := by decide +kernel
theorem dX6_readSlip_59 : decode cX6_readSlip 59 = .ok (.iload 4, 2) := by decide +kernel
theorem dX6_readSlip_61 : decode cX6_readSlip 61 = .ok (.iload 5, 2) := by decide +kernel
theorem dX6_readSlip_63 : decode cX6_readSlip 63 = .ok (.invokestatic 135, 3) := by decide +kernel
theorem dX6_readSlip_66 : decode cX6_readSlip 66 = .ok (.ifCond .lt 7, 3) := by decide +kernel
theorem dX6_readSlip_69 : decode cX6_readSlip 69 = .ok (.iconst 1, 1) := by decide +kernel
theorem dX6_readSlip_70 : decode cX6_readSlip 70 = .ok (.goto 4, 3) := by decide +kernel
theorem dX6_readSlip_73 : decode cX6_readSlip 73 = .ok (.iconst 0, 1) := by decide +kernel
theorem dX6_readSlip_74 : decode cX6_readSlip 74 = .ok (.invokevirtual 139, 3) := by decide +kernel
theorem dX6_readSlip_77 : decode cX6_readSlip 77 = .ok (.ifCond .eq 7, 3) := by decide +kernel
theorem dX6_readSlip_80 : decode cX6_readSlip 80 = .ok (.iconst 1, 1) := by decide +kernel
theorem dX6_readSlip_81 : decode cX6_readSlip 81 = .ok (.goto 4, 3) := by decide +kernel
theorem dX6_readSlip_84 : decode cX6_readSlip 84 = .ok (.iconst 0, 1) := by decide +kernel
theorem dX6_readSlip_85 : decode cX6_readSlip 85 = .ok (.ireturn, 1) := by decide +kernel
theorem dX6_readCommand_0 : decode cX6_readCommand 0 = .ok (.aload_n 0, 1) := by decide +kernel
theorem dX6_readCommand_1 : decode cX6_readCommand 1 = .ok (.getfield 7, 3) := by decide +kernel
theorem dX6_readCommand_4 : decode cX6_readCommand 4 = .ok (.aload_n 0, 1) := by decide +kernel
theorem dX6_readCommand_5 : decode cX6_readCommand 5 = .ok (.getfield 122, 3) := by decide +kernel
theorem dX6_readCommand_8 : decode cX6_readCommand 8 = .ok (.iaload, 1) := by decide +kernel
theorem dX6_readCommand_9 : decode cX6_readCommand 9 = .ok (.istore_n 2, 1) := by decide +kernel
theorem dX6_readCommand_10 : decode cX6_readCommand 10 = .ok (.aload_n 0, 1) := by decide +kernel
theorem dX6_readCommand_11 : decode cX6_readCommand 11 = .ok (.dup, 1) := by decide +kernel
theorem dX6_readCommand_12 : decode cX6_readCommand 12 = .ok (.getfield 122, 3) := by decide +kernel
theorem dX6_readCommand_15 : decode cX6_readCommand 15 = .ok (.iconst 1, 1) := by decide +kernel
theorem dX6_readCommand_16 : decode cX6_readCommand 16 = .ok (.iadd, 1) := by decide +kernel
theorem dX6_readCommand_17 : decode cX6_readCommand 17 = .ok (.putfield 122, 3) := by decide +kernel
theorem dX6_readCommand_20 : decode cX6_readCommand 20 = .ok (.iload_n 2, 1) := by decide +kernel
theorem dX6_readCommand_21 : decode cX6_readCommand 21 = .ok (.lookupswitch 345 #[(97, 59), (99, 132), (105, 277), (112, 107), (115, 339), (117, 215)], 59) := by decide +kernel
theorem dX6_readCommand_80 : decode cX6_readCommand 80 = .ok (.aload_n 0, 1) := by decide +kernel
theorem dX6_readCommand_81 : decode cX6_readCommand 81 = .ok (.iconst 0, 1) := by decide +kernel
theorem dX6_readCommand_82 : decode cX6_readCommand 82 = .ok (.iconst 1, 1) := by decide +kernel
theorem dX6_readCommand_83 : decode cX6_readCommand 83 = .ok (.bipush 9, 2) := by decide +kernel
theorem dX6_readCommand_85 : decode cX6_readCommand 85 = .ok (.invokevirtual 128, 3) := by decide +kernel
theorem dX6_readCommand_88 : decode cX6_readCommand 88 = .ok (.istore_n 3, 1) := by decide +kernel
theorem dX6_readCommand_89 : decode cX6_readCommand 89 = .ok (.iload_n 3, 1) := by decide +kernel
theorem dX6_readCommand_90 : decode cX6_readCommand 90 = .ok (.iconst (-1), 1) := by decide +kernel
theorem dX6_readCommand_91 : decode cX6_readCommand 91 = .ok (.if_icmp .eq 35, 3) := by decide +kernel
theorem dX6_readCommand_94 : decode cX6_readCommand 94 = .ok (.aload_n 0, 1) := by decide +kernel
theorem dX6_readCommand_95 : decode cX6_readCommand 95 = .ok (.aload_n 1, 1) := by decide +kernel
theorem dX6_readCommand_96 : decode cX6_readCommand 96 = .ok (.iconst 1, 1) := by decide +kernel
theorem dX6_readCommand_97 : decode cX6_readCommand 97 = .ok (.iaload, 1) := by decide +kernel
theorem dX6_readCommand_98 : decode cX6_readCommand 98 = .ok (.bipush 10, 2) := by decide +kernel
theorem dX6_readCommand_100 : decode cX6_readCommand 100 = .ok (.if_icmp .ge 15, 3) := by decide +kernel
theorem dX6_readCommand_103 : decode cX6_readCommand 103 = .ok (.aload_n 1, 1) := by decide +kernel
theorem dX6_readCommand_104 : decode cX6_readCommand 104 = .ok (.iload_n 3, 1) := by decide +kernel
theorem dX6_readCommand_105 : decode cX6_readCommand 105 = .ok (.invokestatic 143, 3) := by decide +kernel
theorem dX6_readCommand_108 : decode cX6_readCommand 108 = .ok (.ifCond .lt 7, 3) := by decide +kernel
theorem dX6_readCommand_111 : decode cX6_readCommand 111 = .ok (.iconst 1, 1) := by decide +kernel
theorem dX6_readCommand_112 : decode cX6_readCommand 112 = .ok (.goto 4, 3) := by decide +kernel
theorem dX6_readCommand_115 : decode cX6_readCommand 115 = .ok (.iconst 0, 1) := by decide +kernel
theorem dX6_readCommand_116 : decode cX6_readCommand 116 = .ok (.invokevirtual 139, 3) := by decide +kernel
theorem dX6_readCommand_119 : decode cX6_readCommand 119 = .ok (.ifCond .eq 7, 3) := by decide +kernel
theorem dX6_readCommand_122 : decode cX6_readCommand 122 = .ok (.iconst 1, 1) := by decide +kernel
theorem dX6_readCommand_123 : decode cX6_readCommand 123 = .ok (.goto 4, 3) := by decide +kernel
theorem dX6_readCommand_126 : decode cX6_readCommand 126 = .ok (.iconst 0, 1) := by decide +kernel
theorem dX6_readCommand_127 : decode cX6_readCommand 127 = .ok (.ireturn, 1) := by decide +kernel
theorem dX6_readCommand_128 : decode cX6_readCommand 128 = .ok (.aload_n 0, 1) := by decide +kernel
theorem dX6_readCommand_129 : decode cX6_readCommand 129 = .ok (.aload_n 1, 1) := by decide +kernel
theorem dX6_readCommand_130 : decode cX6_readCommand 130 = .ok (.iconst 0, 1) := by decide +kernel
theorem dX6_readCommand_131 : decode cX6_readCommand 131 = .ok (.iaload, 1) := by decide +kernel
theorem dX6_readCommand_132 : decode cX6_readCommand 132 = .ok (.bipush 6, 2) := by decide +kernel
theorem dX6_readCommand_134 : decode cX6_readCommand 134 = .ok (.if_icmp .ge 14, 3) := by decide +kernel
theorem dX6_readCommand_137 : decode cX6_readCommand 137 = .ok (.aload_n 1, 1) := by decide +kernel
theorem dX6_readCommand_138 : decode cX6_readCommand 138 = .ok (.invokestatic 146, 3) := by decide +kernel
theorem dX6_readCommand_141 : decode cX6_readCommand 141 = .ok (.ifCond .lt 7, 3) := by decide +kernel
theorem dX6_readCommand_144 : decode cX6_readCommand 144 = .ok (.iconst 1, 1) := by decide +kernel
theorem dX6_readCommand_145 : decode cX6_readCommand 145 = .ok (.goto 4, 3) := by decide +kernel
theorem dX6_readCommand_148 : decode cX6_readCommand 148 = .ok (.iconst 0, 1) := by decide +kernel
theorem dX6_readCommand_149 : decode cX6_readCommand 149 = .ok (.invokevirtual 139, 3) := by decide +kernel
theorem dX6_readCommand_152 : decode cX6_readCommand 152 = .ok (.ireturn, 1) := by decide +kernel
theorem dX6_readCommand_153 : decode cX6_readCommand 153 = .ok (.aload_n 0, 1) := by decide +kernel
theorem dX6_readCommand_154 : decode cX6_readCommand 154 = .ok (.iconst 0, 1) := by decide +kernel
theorem dX6_readCommand_155 : decode cX6_readCommand 155 = .ok (.iconst 1, 1) := by decide +kernel
theorem dX6_readCommand_156 : decode cX6_readCommand 156 = .ok (.iconst 5, 1) := by decide +kernel
theorem dX6_readCommand_157 : decode cX6_readCommand 157 = .ok (.invokevirtual 128, 3) := by decide +kernel
theorem dX6_readCommand_160 : decode cX6_readCommand 160 = .ok (.istore_n 3, 1) := by decide +kernel
theorem dX6_readCommand_161 : decode cX6_readCommand 161 = .ok (.aload_n 0, 1) := by decide +kernel
theorem dX6_readCommand_162 : decode cX6_readCommand 162 = .ok (.iload_n 3, 1) := by decide +kernel
theorem dX6_readCommand_163 : decode cX6_readCommand 163 = .ok (.iconst 1, 1) := by decide +kernel
theorem dX6_readCommand_164 : decode cX6_readCommand 164 = .ok (.bipush 9, 2) := by decide +kernel
theorem dX6_readCommand_166 : decode cX6_readCommand 166 = .ok (.invokevirtual 128, 3) := by decide +kernel
theorem dX6_readCommand_169 : decode cX6_readCommand 169 = .ok (.istore 4, 2) := by decide +kernel
theorem dX6_readCommand_171 : decode cX6_readCommand 171 = .ok (.aload_n 0, 1) := by decide +kernel
theorem dX6_readCommand_172 : decode cX6_readCommand 172 = .ok (.iload 4, 2) := by decide +kernel
theorem dX6_readCommand_174 : decode cX6_readCommand 174 = .ok (.iconst 2, 1) := by decide +kernel
theorem dX6_readCommand_175 : decode cX6_readCommand 175 = .ok (.bipush 19, 2) := by decide +kernel
theorem dX6_readCommand_177 : decode cX6_readCommand 177 = .ok (.invokevirtual 128, 3) := by decide +kernel
theorem dX6_readCommand_180 : decode cX6_readCommand 180 = .ok (.istore 5, 2) := by decide +kernel
theorem dX6_readCommand_182 : decode cX6_readCommand 182 = .ok (.iload 5, 2) := by decide +kernel
theorem dX6_readCommand_184 : decode cX6_readCommand 184 = .ok (.iconst (-1), 1) := by decide +kernel
theorem dX6_readCommand_185 : decode cX6_readCommand 185 = .ok (.if_icmp .eq 49, 3) := by decide +kernel
theorem dX6_readCommand_188 : decode cX6_readCommand 188 = .ok (.aload_n 0, 1) := by decide +kernel
theorem dX6_readCommand_189 : decode cX6_readCommand 189 = .ok (.aload_n 1, 1) := by decide +kernel
theorem dX6_readCommand_190 : decode cX6_readCommand 190 = .ok (.iload_n 3, 1) := by decide +kernel
theorem dX6_readCommand_191 : decode cX6_readCommand 191 = .ok (.invokestatic 93, 3) := by decide +kernel
theorem dX6_readCommand_194 : decode cX6_readCommand 194 = .ok (.ifCond .eq 29, 3) := by decide +kernel
theorem dX6_readCommand_197 : decode cX6_readCommand 197 = .ok (.aload_n 1, 1) := by decide +kernel
theorem dX6_readCommand_198 : decode cX6_readCommand 198 = .ok (.iload 4, 2) := by decide +kernel
theorem dX6_readCommand_200 : decode cX6_readCommand 200 = .ok (.invokestatic 96, 3) := by decide +kernel
theorem dX6_readCommand_203 : decode cX6_readCommand 203 = .ok (.ifCond .eq 20, 3) := by decide +kernel
theorem dX6_readCommand_206 : decode cX6_readCommand 206 = .ok (.aload_n 1, 1) := by decide +kernel
theorem dX6_readCommand_207 : decode cX6_readCommand 207 = .ok (.iload_n 3, 1) := by decide +kernel
theorem dX6_readCommand_208 : decode cX6_readCommand 208 = .ok (.iload 4, 2) := by decide +kernel
theorem dX6_readCommand_210 : decode cX6_readCommand 210 = .ok (.iload 5, 2) := by decide +kernel
theorem dX6_readCommand_212 : decode cX6_readCommand 212 = .ok (.invokestatic 150, 3) := by decide +kernel
theorem dX6_readCommand_215 : decode cX6_readCommand 215 = .ok (.iconst (-1), 1) := by decide +kernel
theorem dX6_readCommand_216 : decode cX6_readCommand 216 = .ok (.if_icmp .lt 7, 3) := by decide +kernel
theorem dX6_readCommand_219 : decode cX6_readCommand 219 = .ok (.iconst 1, 1) := by decide +kernel
theorem dX6_readCommand_220 : decode cX6_readCommand 220 = .ok (.goto 4, 3) := by decide +kernel
theorem dX6_readCommand_223 : decode cX6_readCommand 223 = .ok (.iconst 0, 1) := by decide +kernel
theorem dX6_readCommand_224 : decode cX6_readCommand 224 = .ok (.invokevirtual 139, 3) := by decide +kernel
theorem dX6_readCommand_227 : decode cX6_readCommand 227 = .ok (.ifCond .eq 7, 3) := by decide +kernel
theorem dX6_readCommand_230 : decode cX6_readCommand 230 = .ok (.iconst 1, 1) := by decide +kernel
theorem dX6_readCommand_231 : decode cX6_readCommand 231 = .ok (.goto 4, 3) := by decide +kernel
theorem dX6_readCommand_234 : decode cX6_readCommand 234 = .ok (.iconst 0, 1) := by decide +kernel
theorem dX6_readCommand_235 : decode cX6_readCommand 235 = .ok (.ireturn, 1) := by decide +kernel
theorem dX6_readCommand_236 : decode cX6_readCommand 236 = .ok (.aload_n 0, 1) := by decide +kernel
theorem dX6_readCommand_237 : decode cX6_readCommand 237 = .ok (.iconst 0, 1) := by decide +kernel
theorem dX6_readCommand_238 : decode cX6_readCommand 238 = .ok (.iconst 1, 1) := by decide +kernel
theorem dX6_readCommand_239 : decode cX6_readCommand 239 = .ok (.iconst 5, 1) := by decide +kernel
theorem dX6_readCommand_240 : decode cX6_readCommand 240 = .ok (.invokevirtual 128, 3) := by decide +kernel
theorem dX6_readCommand_243 : decode cX6_readCommand 243 = .ok (.istore_n 3, 1) := by decide +kernel
theorem dX6_readCommand_244 : decode cX6_readCommand 244 = .ok (.aload_n 0, 1) := by decide +kernel
theorem dX6_readCommand_245 : decode cX6_readCommand 245 = .ok (.iload_n 3, 1) := by decide +kernel
theorem dX6_readCommand_246 : decode cX6_readCommand 246 = .ok (.iconst 1, 1) := by decide +kernel
theorem dX6_readCommand_247 : decode cX6_readCommand 247 = .ok (.bipush 9, 2) := by decide +kernel
theorem dX6_readCommand_249 : decode cX6_readCommand 249 = .ok (.invokevirtual 128, 3) := by decide +kernel
theorem dX6_readCommand_252 : decode cX6_readCommand 252 = .ok (.istore 4, 2) := by decide +kernel
theorem dX6_readCommand_254 : decode cX6_readCommand 254 = .ok (.iload 4, 2) := by decide +kernel
theorem dX6_readCommand_256 : decode cX6_readCommand 256 = .ok (.iconst (-1), 1) := by decide +kernel
theorem dX6_readCommand_257 : decode cX6_readCommand 257 = .ok (.if_icmp .eq 39, 3) := by decide +kernel
theorem dX6_readCommand_260 : decode cX6_readCommand 260 = .ok (.aload_n 0, 1) := by decide +kernel
theorem dX6_readCommand_261 : decode cX6_readCommand 261 = .ok (.aload_n 1, 1) := by decide +kernel
theorem dX6_readCommand_262 : decode cX6_readCommand 262 = .ok (.iload_n 3, 1) := by decide +kernel
theorem dX6_readCommand_263 : decode cX6_readCommand 263 = .ok (.iload 4, 2) := by decide +kernel
theorem dX6_readCommand_265 : decode cX6_readCommand 265 = .ok (.invokestatic 153, 3) := by decide +kernel
theorem dX6_readCommand_268 : decode cX6_readCommand 268 = .ok (.ifCond .eq 17, 3) := by decide +kernel
theorem dX6_readCommand_271 : decode cX6_readCommand 271 = .ok (.aload_n 1, 1) := by decide +kernel
theorem dX6_readCommand_272 : decode cX6_readCommand 272 = .ok (.iload_n 3, 1) := by decide +kernel
theorem dX6_readCommand_273 : decode cX6_readCommand 273 = .ok (.iload 4, 2) := by decide +kernel
theorem dX6_readCommand_275 : decode cX6_readCommand 275 = .ok (.invokestatic 156, 3) := by decide +kernel
theorem dX6_readCommand_278 : decode cX6_readCommand 278 = .ok (.ifCond .le 7, 3) := by decide +kernel
theorem dX6_readCommand_281 : decode cX6_readCommand 281 = .ok (.iconst 1, 1) := by decide +kernel
theorem dX6_readCommand_282 : decode cX6_readCommand 282 = .ok (.goto 4, 3) := by decide +kernel
theorem dX6_readCommand_285 : decode cX6_readCommand 285 = .ok (.iconst 0, 1) := by decide +kernel
theorem dX6_readCommand_286 : decode cX6_readCommand 286 = .ok (.invokevirtual 139, 3) := by decide +kernel
theorem dX6_readCommand_289 : decode cX6_readCommand 289 = .ok (.ifCond .eq 7, 3) := by decide +kernel
theorem dX6_readCommand_292 : decode cX6_readCommand 292 = .ok (.iconst 1, 1) := by decide +kernel
theorem dX6_readCommand_293 : decode cX6_readCommand 293 = .ok (.goto 4, 3) := by decide +kernel
theorem dX6_readCommand_296 : decode cX6_readCommand 296 = .ok (.iconst 0, 1) := by decide +kernel
theorem dX6_readCommand_297 : decode cX6_readCommand 297 = .ok (.ireturn, 1) := by decide +kernel
theorem dX6_readCommand_298 : decode cX6_readCommand 298 = .ok (.aload_n 0, 1) := by decide +kernel
theorem dX6_readCommand_299 : decode cX6_readCommand 299 = .ok (.iconst 0, 1) := by decide +kernel
theorem dX6_readCommand_300 : decode cX6_readCommand 300 = .ok (.iconst 1, 1) := by decide +kernel
theorem dX6_readCommand_301 : decode cX6_readCommand 301 = .ok (.bipush 9, 2) := by decide +kernel
theorem dX6_readCommand_303 : decode cX6_readCommand 303 = .ok (.invokevirtual 128, 3) := by decide +kernel
theorem dX6_readCommand_306 : decode cX6_readCommand 306 = .ok (.istore_n 3, 1) := by decide +kernel
theorem dX6_readCommand_307 : decode cX6_readCommand 307 = .ok (.aload_n 0, 1) := by decide +kernel
theorem dX6_readCommand_308 : decode cX6_readCommand 308 = .ok (.iload_n 3, 1) := by decide +kernel
theorem dX6_readCommand_309 : decode cX6_readCommand 309 = .ok (.iconst 2, 1) := by decide +kernel
theorem dX6_readCommand_310 : decode cX6_readCommand 310 = .ok (.bipush 19, 2) := by decide +kernel
theorem dX6_readCommand_312 : decode cX6_readCommand 312 = .ok (.invokevirtual 128, 3) := by decide +kernel
theorem dX6_readCommand_315 : decode cX6_readCommand 315 = .ok (.istore 5, 2) := by decide +kernel
theorem dX6_readCommand_317 : decode cX6_readCommand 317 = .ok (.iload 5, 2) := by decide +kernel
theorem dX6_readCommand_319 : decode cX6_readCommand 319 = .ok (.iconst (-1), 1) := by decide +kernel
theorem dX6_readCommand_320 : decode cX6_readCommand 320 = .ok (.if_icmp .eq 38, 3) := by decide +kernel
theorem dX6_readCommand_323 : decode cX6_readCommand 323 = .ok (.aload_n 0, 1) := by decide +kernel
theorem dX6_readCommand_324 : decode cX6_readCommand 324 = .ok (.aload_n 1, 1) := by decide +kernel
theorem dX6_readCommand_325 : decode cX6_readCommand 325 = .ok (.iload_n 3, 1) := by decide +kernel
theorem dX6_readCommand_326 : decode cX6_readCommand 326 = .ok (.invokestatic 96, 3) := by decide +kernel
theorem dX6_readCommand_329 : decode cX6_readCommand 329 = .ok (.ifCond .eq 18, 3) := by decide +kernel
theorem dX6_readCommand_332 : decode cX6_readCommand 332 = .ok (.aload_n 1, 1) := by decide +kernel
theorem dX6_readCommand_333 : decode cX6_readCommand 333 = .ok (.iload_n 3, 1) := by decide +kernel
theorem dX6_readCommand_334 : decode cX6_readCommand 334 = .ok (.iload 5, 2) := by decide +kernel
theorem dX6_readCommand_336 : decode cX6_readCommand 336 = .ok (.iconst 1, 1) := by decide +kernel
theorem dX6_readCommand_337 : decode cX6_readCommand 337 = .ok (.invokestatic 159, 3) := by decide +kernel
theorem dX6_readCommand_340 : decode cX6_readCommand 340 = .ok (.ifCond .le 7, 3) := by decide +kernel
theorem dX6_readCommand_343 : decode cX6_readCommand 343 = .ok (.iconst 1, 1) := by decide +kernel
theorem dX6_readCommand_344 : decode cX6_readCommand 344 = .ok (.goto 4, 3) := by decide +kernel
theorem dX6_readCommand_347 : decode cX6_readCommand 347 = .ok (.iconst 0, 1) := by decide +kernel
theorem dX6_readCommand_348 : decode cX6_readCommand 348 = .ok (.invokevirtual 139, 3) := by decide +kernel
theorem dX6_readCommand_351 : decode cX6_readCommand 351 = .ok (.ifCond .eq 7, 3) := by decide +kernel
theorem dX6_readCommand_354 : decode cX6_readCommand 354 = .ok (.iconst 1, 1) := by decide +kernel
theorem dX6_readCommand_355 : decode cX6_readCommand 355 = .ok (.goto 4, 3) := by decide +kernel
theorem dX6_readCommand_358 : decode cX6_readCommand 358 = .ok (.iconst 0, 1) := by decide +kernel
theorem dX6_readCommand_359 : decode cX6_readCommand 359 = .ok (.ireturn, 1) := by decide +kernel
theorem dX6_readCommand_360 : decode cX6_readCommand 360 = .ok (.aload_n 0, 1) := by decide +kernel
theorem dX6_readCommand_361 : decode cX6_readCommand 361 = .ok (.aload_n 1, 1) := by decide +kernel
theorem dX6_readCommand_362 : decode cX6_readCommand 362 = .ok (.invokevirtual 163, 3) := by decide +kernel
theorem dX6_readCommand_365 : decode cX6_readCommand 365 = .ok (.ireturn, 1) := by decide +kernel
theorem dX6_readCommand_366 : decode cX6_readCommand 366 = .ok (.aload_n 0, 1) := by decide +kernel
theorem dX6_readCommand_367 : decode cX6_readCommand 367 = .ok (.dup, 1) := by decide +kernel
theorem dX6_readCommand_368 : decode cX6_readCommand 368 = .ok (.getfield 122, 3) := by decide +kernel
theorem dX6_readCommand_371 : decode cX6_readCommand 371 = .ok (.iconst 1, 1) := by decide +kernel
theorem dX6_readCommand_372 : decode cX6_readCommand 372 = .ok (.isub, 1) := by decide +kernel
theorem dX6_readCommand_373 : decode cX6_readCommand 373 = .ok (.putfield 122, 3) := by decide +kernel
theorem dX6_readCommand_376 : decode cX6_readCommand 376 = .ok (.iconst 0, 1) := by decide +kernel
theorem dX6_readCommand_377 : decode cX6_readCommand 377 = .ok (.ireturn, 1) := by decide +kernel
theorem dX6_readText_0 : decode cX6_readText 0 = .ok (.aload_n 1, 1) := by decide +kernel
theorem dX6_readText_1 : decode cX6_readText 1 = .ok (.invokestatic 38, 3) := by decide +kernel
theorem dX6_readText_4 : decode cX6_readText 4 = .ok (.aload_n 0, 1) := by decide +kernel
theorem dX6_readText_5 : decode cX6_readText 5 = .ok (.iconst 0, 1) := by decide +kernel
theorem dX6_readText_6 : decode cX6_readText 6 = .ok (.putfield 125, 3) := by decide +kernel
theorem dX6_readText_9 : decode cX6_readText 9 = .ok (.aload_n 0, 1) := by decide +kernel
theorem dX6_readText_10 : decode cX6_readText 10 = .ok (.iconst 0, 1) := by decide +kernel
theorem dX6_readText_11 : decode cX6_readText 11 = .ok (.putfield 122, 3) := by decide +kernel
theorem dX6_readText_14 : decode cX6_readText 14 = .ok (.aload_n 0, 1) := by decide +kernel
theorem dX6_readText_15 : decode cX6_readText 15 = .ok (.getfield 116, 3) := by decide +kernel
theorem dX6_readText_18 : decode cX6_readText 18 = .ok (.ifCond .eq 14, 3) := by decide +kernel
theorem dX6_readText_21 : decode cX6_readText 21 = .ok (.aload_n 0, 1) := by decide +kernel
theorem dX6_readText_22 : decode cX6_readText 22 = .ok (.getfield 7, 3) := by decide +kernel
theorem dX6_readText_25 : decode cX6_readText 25 = .ok (.iconst 0, 1) := by decide +kernel
theorem dX6_readText_26 : decode cX6_readText 26 = .ok (.iaload, 1) := by decide +kernel
theorem dX6_readText_27 : decode cX6_readText 27 = .ok (.bipush 66, 2) := by decide +kernel
theorem dX6_readText_29 : decode cX6_readText 29 = .ok (.if_icmp .eq 5, 3) := by decide +kernel
theorem dX6_readText_32 : decode cX6_readText 32 = .ok (.iconst 0, 1) := by decide +kernel
theorem dX6_readText_33 : decode cX6_readText 33 = .ok (.ireturn, 1) := by decide +kernel
theorem dX6_readText_34 : decode cX6_readText 34 = .ok (.aload_n 0, 1) := by decide +kernel
theorem dX6_readText_35 : decode cX6_readText 35 = .ok (.iconst 1, 1) := by decide +kernel
theorem dX6_readText_36 : decode cX6_readText 36 = .ok (.putfield 122, 3) := by decide +kernel
theorem dX6_readText_39 : decode cX6_readText 39 = .ok (.aload_n 0, 1) := by decide +kernel
theorem dX6_readText_40 : decode cX6_readText 40 = .ok (.getfield 122, 3) := by decide +kernel
theorem dX6_readText_43 : decode cX6_readText 43 = .ok (.aload_n 0, 1) := by decide +kernel
theorem dX6_readText_44 : decode cX6_readText 44 = .ok (.getfield 116, 3) := by decide +kernel
theorem dX6_readText_47 : decode cX6_readText 47 = .ok (.if_icmp .ge 16, 3) := by decide +kernel
theorem dX6_readText_50 : decode cX6_readText 50 = .ok (.aload_n 0, 1) := by decide +kernel
theorem dX6_readText_51 : decode cX6_readText 51 = .ok (.aload_n 1, 1) := by decide +kernel
theorem dX6_readText_52 : decode cX6_readText 52 = .ok (.invokevirtual 167, 3) := by decide +kernel
theorem dX6_readText_55 : decode cX6_readText 55 = .ok (.ifCond .ne (-16), 3) := by decide +kernel
theorem dX6_readText_58 : decode cX6_readText 58 = .ok (.aload_n 0, 1) := by decide +kernel
theorem dX6_readText_59 : decode cX6_readText 59 = .ok (.getfield 122, 3) := by decide +kernel
theorem dX6_readText_62 : decode cX6_readText 62 = .ok (.ireturn, 1) := by decide +kernel
theorem dX6_readText_63 : decode cX6_readText 63 = .ok (.iconst (-1), 1) := by decide +kernel
theorem dX6_readText_64 : decode cX6_readText 64 = .ok (.ireturn, 1) := by decide +kernel
theorem dX6_errorPosition_0 : decode cX6_errorPosition 0 = .ok (.aload_n 0, 1) := by decide +kernel
theorem dX6_errorPosition_1 : decode cX6_errorPosition 1 = .ok (.iconst 0, 1) := by decide +kernel
theorem dX6_errorPosition_2 : decode cX6_errorPosition 2 = .ok (.putfield 42, 3) := by decide +kernel
theorem dX6_errorPosition_5 : decode cX6_errorPosition 5 = .ok (.aload_n 0, 1) := by decide +kernel
theorem dX6_errorPosition_6 : decode cX6_errorPosition 6 = .ok (.aload_n 0, 1) := by decide +kernel
theorem dX6_errorPosition_7 : decode cX6_errorPosition 7 = .ok (.getfield 16, 3) := by decide +kernel
theorem dX6_errorPosition_10 : decode cX6_errorPosition 10 = .ok (.invokevirtual 170, 3) := by decide +kernel
theorem dX6_errorPosition_13 : decode cX6_errorPosition 13 = .ok (.ireturn, 1) := by decide +kernel
theorem dX6_load_0 : decode cX6_load 0 = .ok (.aload_n 0, 1) := by decide +kernel
theorem dX6_load_1 : decode cX6_load 1 = .ok (.aload_n 0, 1) := by decide +kernel
theorem dX6_load_2 : decode cX6_load 2 = .ok (.aload_n 0, 1) := by decide +kernel
theorem dX6_load_3 : decode cX6_load 3 = .ok (.getfield 16, 3) := by decide +kernel
theorem dX6_load_6 : decode cX6_load 6 = .ok (.invokevirtual 170, 3) := by decide +kernel
theorem dX6_load_9 : decode cX6_load 9 = .ok (.iconst (-1), 1) := by decide +kernel
theorem dX6_load_10 : decode cX6_load 10 = .ok (.if_icmp .ne 7, 3) := by decide +kernel
theorem dX6_load_13 : decode cX6_load 13 = .ok (.iconst 0, 1) := by decide +kernel
theorem dX6_load_14 : decode cX6_load 14 = .ok (.goto 4, 3) := by decide +kernel
theorem dX6_load_17 : decode cX6_load 17 = .ok (.iconst 1, 1) := by decide +kernel
theorem dX6_load_18 : decode cX6_load 18 = .ok (.invokevirtual 119, 3) := by decide +kernel
theorem dX6_load_21 : decode cX6_load 21 = .ok (.ifCond .eq 5, 3) := by decide +kernel
theorem dX6_load_24 : decode cX6_load 24 = .ok (.iconst 0, 1) := by decide +kernel
theorem dX6_load_25 : decode cX6_load 25 = .ok (.ireturn, 1) := by decide +kernel
theorem dX6_load_26 : decode cX6_load 26 = .ok (.aload_n 0, 1) := by decide +kernel
theorem dX6_load_27 : decode cX6_load 27 = .ok (.getfield 16, 3) := by decide +kernel
theorem dX6_load_30 : decode cX6_load 30 = .ok (.iconst 0, 1) := by decide +kernel
theorem dX6_load_31 : decode cX6_load 31 = .ok (.aload_n 0, 1) := by decide +kernel
theorem dX6_load_32 : decode cX6_load 32 = .ok (.getfield 13, 3) := by decide +kernel
theorem dX6_load_35 : decode cX6_load 35 = .ok (.iconst 0, 1) := by decide +kernel
theorem dX6_load_36 : decode cX6_load 36 = .ok (.invokestatic 173, 3) := by decide +kernel
theorem dX6_load_39 : decode cX6_load 39 = .ok (.aload_n 0, 1) := by decide +kernel
theorem dX6_load_40 : decode cX6_load 40 = .ok (.iconst 0, 1) := by decide +kernel
theorem dX6_load_41 : decode cX6_load 41 = .ok (.putfield 177, 3) := by decide +kernel
theorem dX6_load_44 : decode cX6_load 44 = .ok (.aload_n 0, 1) := by decide +kernel
theorem dX6_load_45 : decode cX6_load 45 = .ok (.getfield 25, 3) := by decide +kernel
theorem dX6_load_48 : decode cX6_load 48 = .ok (.iconst 0, 1) := by decide +kernel
theorem dX6_load_49 : decode cX6_load 49 = .ok (.iconst 0, 1) := by decide +kernel
theorem dX6_load_50 : decode cX6_load 50 = .ok (.bastore, 1) := by decide +kernel
theorem dX6_load_51 : decode cX6_load 51 = .ok (.aload_n 0, 1) := by decide +kernel
theorem dX6_load_52 : decode cX6_load 52 = .ok (.getfield 25, 3) := by decide +kernel
theorem dX6_load_55 : decode cX6_load 55 = .ok (.iconst 1, 1) := by decide +kernel
theorem dX6_load_56 : decode cX6_load 56 = .ok (.iconst 0, 1) := by decide +kernel
theorem dX6_load_57 : decode cX6_load 57 = .ok (.bastore, 1) := by decide +kernel
theorem dX6_load_58 : decode cX6_load 58 = .ok (.aload_n 0, 1) := by decide +kernel
theorem dX6_load_59 : decode cX6_load 59 = .ok (.getfield 125, 3) := by decide +kernel
theorem dX6_load_62 : decode cX6_load 62 = .ok (.ireturn, 1) := by decide +kernel
theorem dX6_about_0 : decode cX6_about 0 = .ok (.aload_n 0, 1) := by decide +kernel
theorem dX6_about_1 : decode cX6_about 1 = .ok (.iload_n 1, 1) := by decide +kernel
theorem dX6_about_2 : decode cX6_about 2 = .ok (.i2l, 1) := by decide +kernel
theorem dX6_about_3 : decode cX6_about 3 = .ok (.lconst 0, 1) := by decide +kernel
theorem dX6_about_4 : decode cX6_about 4 = .ok (.ldc2_w 180, 3) := by decide +kernel
theorem dX6_about_7 : decode cX6_about 7 = .ok (.invokestatic 48, 3) := by decide +kernel
theorem dX6_about_10 : decode cX6_about 10 = .ok (.ifCond .eq 7, 3) := by decide +kernel
theorem dX6_about_13 : decode cX6_about 13 = .ok (.iconst 0, 1) := by decide +kernel
theorem dX6_about_14 : decode cX6_about 14 = .ok (.goto 4, 3) := by decide +kernel
theorem dX6_about_17 : decode cX6_about 17 = .ok (.iconst 1, 1) := by decide +kernel
theorem dX6_about_18 : decode cX6_about 18 = .ok (.invokevirtual 119, 3) := by decide +kernel
theorem dX6_about_21 : decode cX6_about 21 = .ok (.ifCond .eq 5, 3) := by decide +kernel
theorem dX6_about_24 : decode cX6_about 24 = .ok (.iconst 0, 1) := by decide +kernel
theorem dX6_about_25 : decode cX6_about 25 = .ok (.ireturn, 1) := by decide +kernel
theorem dX6_about_26 : decode cX6_about 26 = .ok (.iconst 0, 1) := by decide +kernel
theorem dX6_about_27 : decode cX6_about 27 = .ok (.istore_n 2, 1) := by decide +kernel
theorem dX6_about_28 : decode cX6_about 28 = .ok (.iconst 0, 1) := by decide +kernel
theorem dX6_about_29 : decode cX6_about 29 = .ok (.istore_n 3, 1) := by decide +kernel
theorem dX6_about_30 : decode cX6_about 30 = .ok (.iload_n 3, 1) := by decide +kernel
theorem dX6_about_31 : decode cX6_about 31 = .ok (.aload_n 0, 1) := by decide +kernel
theorem dX6_about_32 : decode cX6_about 32 = .ok (.getfield 13, 3) := by decide +kernel
theorem dX6_about_35 : decode cX6_about 35 = .ok (.iconst 2, 1) := by decide +kernel
theorem dX6_about_36 : decode cX6_about 36 = .ok (.iaload, 1) := by decide +kernel
theorem dX6_about_37 : decode cX6_about 37 = .ok (.if_icmp .ge 25, 3) := by decide +kernel
theorem dX6_about_40 : decode cX6_about 40 = .ok (.iload_n 2, 1) := by decide +kernel
theorem dX6_about_41 : decode cX6_about 41 = .ok (.aload_n 0, 1) := by decide +kernel
theorem dX6_about_42 : decode cX6_about 42 = .ok (.iload_n 3, 1) := by decide +kernel
theorem dX6_about_43 : decode cX6_about 43 = .ok (.invokevirtual 182, 3) := by decide +kernel
theorem dX6_about_46 : decode cX6_about 46 = .ok (.ifCond .eq 7, 3) := by decide +kernel
theorem dX6_about_49 : decode cX6_about 49 = .ok (.iconst 1, 1) := by decide +kernel
theorem dX6_about_50 : decode cX6_about 50 = .ok (.goto 4, 3) := by decide +kernel
theorem dX6_about_53 : decode cX6_about 53 = .ok (.iconst 0, 1) := by decide +kernel
theorem dX6_about_54 : decode cX6_about 54 = .ok (.iadd, 1) := by decide +kernel
theorem dX6_about_55 : decode cX6_about 55 = .ok (.istore_n 2, 1) := by decide +kernel
theorem dX6_about_56 : decode cX6_about 56 = .ok (.iinc 3 1, 3) := by decide +kernel
theorem dX6_about_59 : decode cX6_about 59 = .ok (.goto (-29), 3) := by decide +kernel
theorem dX6_about_62 : decode cX6_about 62 = .ok (.iload_n 1, 1) := by decide +kernel
theorem dX6_about_63 : decode cX6_about 63 = .ok (.iconst 3, 1) := by decide +kernel
theorem dX6_about_64 : decode cX6_about 64 = .ok (.if_icmp .ge 12, 3) := by decide +kernel
theorem dX6_about_67 : decode cX6_about 67 = .ok (.aload_n 0, 1) := by decide +kernel
theorem dX6_about_68 : decode cX6_about 68 = .ok (.getfield 13, 3) := by decide +kernel
theorem dX6_about_71 : decode cX6_about 71 = .ok (.iload_n 1, 1) := by decide +kernel
theorem dX6_about_72 : decode cX6_about 72 = .ok (.iaload, 1) := by decide +kernel
theorem dX6_about_73 : decode cX6_about 73 = .ok (.goto 48, 3) := by decide +kernel
theorem dX6_about_76 : decode cX6_about 76 = .ok (.iload_n 1, 1) := by decide +kernel
theorem dX6_about_77 : decode cX6_about 77 = .ok (.iconst 3, 1) := by decide +kernel
theorem dX6_about_78 : decode cX6_about 78 = .ok (.if_icmp .ne 14, 3) := by decide +kernel
theorem dX6_about_81 : decode cX6_about 81 = .ok (.aload_n 0, 1) := by decide +kernel
theorem dX6_about_82 : decode cX6_about 82 = .ok (.aload_n 0, 1) := by decide +kernel
theorem dX6_about_83 : decode cX6_about 83 = .ok (.getfield 13, 3) := by decide +kernel
theorem dX6_about_86 : decode cX6_about 86 = .ok (.invokevirtual 185, 3) := by decide +kernel
theorem dX6_about_89 : decode cX6_about 89 = .ok (.goto 32, 3) := by decide +kernel
theorem dX6_about_92 : decode cX6_about 92 = .ok (.iload_n 1, 1) := by decide +kernel
theorem dX6_about_93 : decode cX6_about 93 = .ok (.iconst 4, 1) := by decide +kernel
theorem dX6_about_94 : decode cX6_about 94 = .ok (.if_icmp .ne 14, 3) := by decide +kernel
theorem dX6_about_97 : decode cX6_about 97 = .ok (.aload_n 0, 1) := by decide +kernel
theorem dX6_about_98 : decode cX6_about 98 = .ok (.aload_n 0, 1) := by decide +kernel
theorem dX6_about_99 : decode cX6_about 99 = .ok (.getfield 13, 3) := by decide +kernel
theorem dX6_about_102 : decode cX6_about 102 = .ok (.invokevirtual 188, 3) := by decide +kernel
theorem dX6_about_105 : decode cX6_about 105 = .ok (.goto 16, 3) := by decide +kernel
theorem dX6_about_108 : decode cX6_about 108 = .ok (.iload_n 1, 1) := by decide +kernel
theorem dX6_about_109 : decode cX6_about 109 = .ok (.iconst 5, 1) := by decide +kernel
theorem dX6_about_110 : decode cX6_about 110 = .ok (.if_icmp .ne 10, 3) := by decide +kernel
theorem dX6_about_113 : decode cX6_about 113 = .ok (.aload_n 0, 1) := by decide +kernel
theorem dX6_about_114 : decode cX6_about 114 = .ok (.invokevirtual 191, 3) := by decide +kernel
theorem dX6_about_117 : decode cX6_about 117 = .ok (.goto 4, 3) := by decide +kernel
theorem dX6_about_120 : decode cX6_about 120 = .ok (.iload_n 2, 1) := by decide +kernel
theorem dX6_about_121 : decode cX6_about 121 = .ok (.ireturn, 1) := by decide +kernel
theorem dX6_played_0 : decode cX6_played 0 = .ok (.aload_n 0, 1) := by decide +kernel
theorem dX6_played_1 : decode cX6_played 1 = .ok (.iload_n 1, 1) := by decide +kernel
theorem dX6_played_2 : decode cX6_played 2 = .ok (.invokestatic 106, 3) := by decide +kernel
theorem dX6_played_5 : decode cX6_played 5 = .ok (.ifCond .eq 18, 3) := by decide +kernel
theorem dX6_played_8 : decode cX6_played 8 = .ok (.aload_n 0, 1) := by decide +kernel
theorem dX6_played_9 : decode cX6_played 9 = .ok (.getfield 13, 3) := by decide +kernel
theorem dX6_played_12 : decode cX6_played 12 = .ok (.iload_n 2, 1) := by decide +kernel
theorem dX6_played_13 : decode cX6_played 13 = .ok (.invokestatic 93, 3) := by decide +kernel
theorem dX6_played_16 : decode cX6_played 16 = .ok (.ifCond .eq 7, 3) := by decide +kernel
theorem dX6_played_19 : decode cX6_played 19 = .ok (.iconst 0, 1) := by decide +kernel
theorem dX6_played_20 : decode cX6_played 20 = .ok (.goto 4, 3) := by decide +kernel
theorem dX6_played_23 : decode cX6_played 23 = .ok (.iconst 1, 1) := by decide +kernel
theorem dX6_played_24 : decode cX6_played 24 = .ok (.invokevirtual 119, 3) := by decide +kernel
theorem dX6_played_27 : decode cX6_played 27 = .ok (.ifCond .eq 5, 3) := by decide +kernel
theorem dX6_played_30 : decode cX6_played 30 = .ok (.iconst 0, 1) := by decide +kernel
theorem dX6_played_31 : decode cX6_played 31 = .ok (.ireturn, 1) := by decide +kernel
theorem dX6_played_32 : decode cX6_played 32 = .ok (.aload_n 0, 1) := by decide +kernel
theorem dX6_played_33 : decode cX6_played 33 = .ok (.aload_n 0, 1) := by decide +kernel
theorem dX6_played_34 : decode cX6_played 34 = .ok (.getfield 13, 3) := by decide +kernel
theorem dX6_played_37 : decode cX6_played 37 = .ok (.iload_n 1, 1) := by decide +kernel
theorem dX6_played_38 : decode cX6_played 38 = .ok (.invokevirtual 77, 3) := by decide +kernel
theorem dX6_played_41 : decode cX6_played 41 = .ok (.ifCond .eq 7, 3) := by decide +kernel
theorem dX6_played_44 : decode cX6_played 44 = .ok (.iconst (-1), 1) := by decide +kernel
theorem dX6_played_45 : decode cX6_played 45 = .ok (.goto 9, 3) := by decide +kernel
theorem dX6_played_48 : decode cX6_played 48 = .ok (.aload_n 0, 1) := by decide +kernel
theorem dX6_played_49 : decode cX6_played 49 = .ok (.getfield 29, 3) := by decide +kernel
theorem dX6_played_52 : decode cX6_played 52 = .ok (.iload_n 2, 1) := by decide +kernel
theorem dX6_played_53 : decode cX6_played 53 = .ok (.iaload, 1) := by decide +kernel
theorem dX6_played_54 : decode cX6_played 54 = .ok (.ireturn, 1) := by decide +kernel
theorem dX6_bill_0 : decode cX6_bill 0 = .ok (.aload_n 0, 1) := by decide +kernel
theorem dX6_bill_1 : decode cX6_bill 1 = .ok (.iload_n 1, 1) := by decide +kernel
theorem dX6_bill_2 : decode cX6_bill 2 = .ok (.invokestatic 106, 3) := by decide +kernel
theorem dX6_bill_5 : decode cX6_bill 5 = .ok (.ifCond .eq 14, 3) := by decide +kernel
theorem dX6_bill_8 : decode cX6_bill 8 = .ok (.aload_n 0, 1) := by decide +kernel
theorem dX6_bill_9 : decode cX6_bill 9 = .ok (.getfield 13, 3) := by decide +kernel
theorem dX6_bill_12 : decode cX6_bill 12 = .ok (.iload_n 2, 1) := by decide +kernel
theorem dX6_bill_13 : decode cX6_bill 13 = .ok (.invokestatic 93, 3) := by decide +kernel
theorem dX6_bill_16 : decode cX6_bill 16 = .ok (.ifCond .ne 7, 3) := by decide +kernel
theorem dX6_bill_19 : decode cX6_bill 19 = .ok (.iconst 1, 1) := by decide +kernel
theorem dX6_bill_20 : decode cX6_bill 20 = .ok (.goto 20, 3) := by decide +kernel
theorem dX6_bill_23 : decode cX6_bill 23 = .ok (.iload_n 3, 1) := by decide +kernel
theorem dX6_bill_24 : decode cX6_bill 24 = .ok (.i2l, 1) := by decide +kernel
theorem dX6_bill_25 : decode cX6_bill 25 = .ok (.lconst 0, 1) := by decide +kernel
theorem dX6_bill_26 : decode cX6_bill 26 = .ok (.ldc2_w 195, 3) := by decide +kernel
theorem dX6_bill_29 : decode cX6_bill 29 = .ok (.invokestatic 48, 3) := by decide +kernel
theorem dX6_bill_32 : decode cX6_bill 32 = .ok (.ifCond .eq 7, 3) := by decide +kernel
theorem dX6_bill_35 : decode cX6_bill 35 = .ok (.iconst 0, 1) := by decide +kernel
theorem dX6_bill_36 : decode cX6_bill 36 = .ok (.goto 4, 3) := by decide +kernel
theorem dX6_bill_39 : decode cX6_bill 39 = .ok (.iconst 2, 1) := by decide +kernel
theorem dX6_bill_40 : decode cX6_bill 40 = .ok (.invokevirtual 119, 3) := by decide +kernel
theorem dX6_bill_43 : decode cX6_bill 43 = .ok (.ifCond .eq 5, 3) := by decide +kernel
theorem dX6_bill_46 : decode cX6_bill 46 = .ok (.iconst 0, 1) := by decide +kernel
theorem dX6_bill_47 : decode cX6_bill 47 = .ok (.ireturn, 1) := by decide +kernel
theorem dX6_bill_48 : decode cX6_bill 48 = .ok (.aload_n 0, 1) := by decide +kernel
theorem dX6_bill_49 : decode cX6_bill 49 = .ok (.aload_n 0, 1) := by decide +kernel
theorem dX6_bill_50 : decode cX6_bill 50 = .ok (.getfield 13, 3) := by decide +kernel
theorem dX6_bill_53 : decode cX6_bill 53 = .ok (.iload_n 1, 1) := by decide +kernel
theorem dX6_bill_54 : decode cX6_bill 54 = .ok (.invokevirtual 77, 3) := by decide +kernel
theorem dX6_bill_57 : decode cX6_bill 57 = .ok (.pop, 1) := by decide +kernel
theorem dX6_bill_58 : decode cX6_bill 58 = .ok (.iconst 0, 1) := by decide +kernel
theorem dX6_bill_59 : decode cX6_bill 59 = .ok (.istore 4, 2) := by decide +kernel
theorem dX6_bill_61 : decode cX6_bill 61 = .ok (.iconst 0, 1) := by decide +kernel
theorem dX6_bill_62 : decode cX6_bill 62 = .ok (.istore 5, 2) := by decide +kernel
theorem dX6_bill_64 : decode cX6_bill 64 = .ok (.iload 5, 2) := by decide +kernel
theorem dX6_bill_66 : decode cX6_bill 66 = .ok (.aload_n 0, 1) := by decide +kernel
theorem dX6_bill_67 : decode cX6_bill 67 = .ok (.getfield 13, 3) := by decide +kernel
theorem dX6_bill_70 : decode cX6_bill 70 = .ok (.iconst 2, 1) := by decide +kernel
theorem dX6_bill_71 : decode cX6_bill 71 = .ok (.iaload, 1) := by decide +kernel
theorem dX6_bill_72 : decode cX6_bill 72 = .ok (.if_icmp .ge 47, 3) := by decide +kernel
theorem dX6_bill_75 : decode cX6_bill 75 = .ok (.iload 4, 2) := by decide +kernel
theorem dX6_bill_77 : decode cX6_bill 77 = .ok (.aload_n 0, 1) := by decide +kernel
theorem dX6_bill_78 : decode cX6_bill 78 = .ok (.getfield 13, 3) := by decide +kernel
theorem dX6_bill_81 : decode cX6_bill 81 = .ok (.iload 5, 2) := by decide +kernel
theorem dX6_bill_83 : decode cX6_bill 83 = .ok (.iconst 0, 1) := by decide +kernel
theorem dX6_bill_84 : decode cX6_bill 84 = .ok (.invokestatic 60, 3) := by decide +kernel
theorem dX6_bill_87 : decode cX6_bill 87 = .ok (.iload_n 1, 1) := by decide +kernel
theorem dX6_bill_88 : decode cX6_bill 88 = .ok (.if_icmp .ne 21, 3) := by decide +kernel
theorem dX6_bill_91 : decode cX6_bill 91 = .ok (.aload_n 0, 1) := by decide +kernel
theorem dX6_bill_92 : decode cX6_bill 92 = .ok (.getfield 13, 3) := by decide +kernel
theorem dX6_bill_95 : decode cX6_bill 95 = .ok (.iload 5, 2) := by decide +kernel
theorem dX6_bill_97 : decode cX6_bill 97 = .ok (.iconst 1, 1) := by decide +kernel
theorem dX6_bill_98 : decode cX6_bill 98 = .ok (.invokestatic 60, 3) := by decide +kernel
theorem dX6_bill_101 : decode cX6_bill 101 = .ok (.iload_n 2, 1) := by decide +kernel
theorem dX6_bill_102 : decode cX6_bill 102 = .ok (.if_icmp .ne 7, 3) := by decide +kernel
theorem dX6_bill_105 : decode cX6_bill 105 = .ok (.iconst 1, 1) := by decide +kernel
theorem dX6_bill_106 : decode cX6_bill 106 = .ok (.goto 4, 3) := by decide +kernel
theorem dX6_bill_109 : decode cX6_bill 109 = .ok (.iconst 0, 1) := by decide +kernel
theorem dX6_bill_110 : decode cX6_bill 110 = .ok (.iadd, 1) := by decide +kernel
theorem dX6_bill_111 : decode cX6_bill 111 = .ok (.istore 4, 2) := by decide +kernel
theorem dX6_bill_113 : decode cX6_bill 113 = .ok (.iinc 5 1, 3) := by decide +kernel
theorem dX6_bill_116 : decode cX6_bill 116 = .ok (.goto (-52), 3) := by decide +kernel
theorem dX6_bill_119 : decode cX6_bill 119 = .ok (.iload_n 3, 1) := by decide +kernel
theorem dX6_bill_120 : decode cX6_bill 120 = .ok (.ifCond .ne 15, 3) := by decide +kernel
theorem dX6_bill_123 : decode cX6_bill 123 = .ok (.aload_n 0, 1) := by decide +kernel
theorem dX6_bill_124 : decode cX6_bill 124 = .ok (.getfield 13, 3) := by decide +kernel
theorem dX6_bill_127 : decode cX6_bill 127 = .ok (.iload_n 1, 1) := by decide +kernel
theorem dX6_bill_128 : decode cX6_bill 128 = .ok (.iload_n 2, 1) := by decide +kernel
theorem dX6_bill_129 : decode cX6_bill 129 = .ok (.invokestatic 56, 3) := by decide +kernel
theorem dX6_bill_132 : decode cX6_bill 132 = .ok (.goto 33, 3) := by decide +kernel
theorem dX6_bill_135 : decode cX6_bill 135 = .ok (.iload_n 3, 1) := by decide +kernel
theorem dX6_bill_136 : decode cX6_bill 136 = .ok (.iconst 1, 1) := by decide +kernel
theorem dX6_bill_137 : decode cX6_bill 137 = .ok (.if_icmp .ne 12, 3) := by decide +kernel
theorem dX6_bill_140 : decode cX6_bill 140 = .ok (.aload_n 0, 1) := by decide +kernel
theorem dX6_bill_141 : decode cX6_bill 141 = .ok (.getfield 29, 3) := by decide +kernel
theorem dX6_bill_144 : decode cX6_bill 144 = .ok (.iload_n 2, 1) := by decide +kernel
theorem dX6_bill_145 : decode cX6_bill 145 = .ok (.iaload, 1) := by decide +kernel
theorem dX6_bill_146 : decode cX6_bill 146 = .ok (.goto 19, 3) := by decide +kernel
theorem dX6_bill_149 : decode cX6_bill 149 = .ok (.iload_n 3, 1) := by decide +kernel
theorem dX6_bill_150 : decode cX6_bill 150 = .ok (.iconst 2, 1) := by decide +kernel
theorem dX6_bill_151 : decode cX6_bill 151 = .ok (.if_icmp .ne 12, 3) := by decide +kernel
theorem dX6_bill_154 : decode cX6_bill 154 = .ok (.aload_n 0, 1) := by decide +kernel
theorem dX6_bill_155 : decode cX6_bill 155 = .ok (.getfield 32, 3) := by decide +kernel
theorem dX6_bill_158 : decode cX6_bill 158 = .ok (.iload_n 2, 1) := by decide +kernel
theorem dX6_bill_159 : decode cX6_bill 159 = .ok (.iaload, 1) := by decide +kernel
theorem dX6_bill_160 : decode cX6_bill 160 = .ok (.goto 5, 3) := by decide +kernel
theorem dX6_bill_163 : decode cX6_bill 163 = .ok (.iload 4, 2) := by decide +kernel
theorem dX6_bill_165 : decode cX6_bill 165 = .ok (.ireturn, 1) := by decide +kernel
theorem dX6_night_0 : decode cX6_night 0 = .ok (.aload_n 0, 1) := by decide +kernel
theorem dX6_night_1 : decode cX6_night 1 = .ok (.iload_n 1, 1) := by decide +kernel
theorem dX6_night_2 : decode cX6_night 2 = .ok (.invokestatic 106, 3) := by decide +kernel
theorem dX6_night_5 : decode cX6_night 5 = .ok (.ifCond .ne 7, 3) := by decide +kernel
theorem dX6_night_8 : decode cX6_night 8 = .ok (.iconst 1, 1) := by decide +kernel
theorem dX6_night_9 : decode cX6_night 9 = .ok (.goto 20, 3) := by decide +kernel
theorem dX6_night_12 : decode cX6_night 12 = .ok (.iload_n 2, 1) := by decide +kernel
theorem dX6_night_13 : decode cX6_night 13 = .ok (.i2l, 1) := by decide +kernel
theorem dX6_night_14 : decode cX6_night 14 = .ok (.lconst 0, 1) := by decide +kernel
theorem dX6_night_15 : decode cX6_night 15 = .ok (.ldc2_w 197, 3) := by decide +kernel
theorem dX6_night_18 : decode cX6_night 18 = .ok (.invokestatic 48, 3) := by decide +kernel
theorem dX6_night_21 : decode cX6_night 21 = .ok (.ifCond .eq 7, 3) := by decide +kernel
theorem dX6_night_24 : decode cX6_night 24 = .ok (.iconst 0, 1) := by decide +kernel
theorem dX6_night_25 : decode cX6_night 25 = .ok (.goto 4, 3) := by decide +kernel
theorem dX6_night_28 : decode cX6_night 28 = .ok (.iconst 2, 1) := by decide +kernel
theorem dX6_night_29 : decode cX6_night 29 = .ok (.invokevirtual 119, 3) := by decide +kernel
theorem dX6_night_32 : decode cX6_night 32 = .ok (.ifCond .eq 5, 3) := by decide +kernel
theorem dX6_night_35 : decode cX6_night 35 = .ok (.iconst 0, 1) := by decide +kernel
theorem dX6_night_36 : decode cX6_night 36 = .ok (.ireturn, 1) := by decide +kernel
theorem dX6_night_37 : decode cX6_night 37 = .ok (.iconst 0, 1) := by decide +kernel
theorem dX6_night_38 : decode cX6_night 38 = .ok (.istore_n 3, 1) := by decide +kernel
theorem dX6_night_39 : decode cX6_night 39 = .ok (.iconst 0, 1) := by decide +kernel
theorem dX6_night_40 : decode cX6_night 40 = .ok (.istore 4, 2) := by decide +kernel
theorem dX6_night_42 : decode cX6_night 42 = .ok (.iload 4, 2) := by decide +kernel
theorem dX6_night_44 : decode cX6_night 44 = .ok (.aload_n 0, 1) := by decide +kernel
theorem dX6_night_45 : decode cX6_night 45 = .ok (.getfield 13, 3) := by decide +kernel
theorem dX6_night_48 : decode cX6_night 48 = .ok (.iconst 1, 1) := by decide +kernel
theorem dX6_night_49 : decode cX6_night 49 = .ok (.iaload, 1) := by decide +kernel
theorem dX6_night_50 : decode cX6_night 50 = .ok (.if_icmp .ge 33, 3) := by decide +kernel
theorem dX6_night_53 : decode cX6_night 53 = .ok (.iload_n 3, 1) := by decide +kernel
theorem dX6_night_54 : decode cX6_night 54 = .ok (.aload_n 0, 1) := by decide +kernel
theorem dX6_night_55 : decode cX6_night 55 = .ok (.getfield 13, 3) := by decide +kernel
theorem dX6_night_58 : decode cX6_night 58 = .ok (.iload 4, 2) := by decide +kernel
theorem dX6_night_60 : decode cX6_night 60 = .ok (.iload_n 1, 1) := by decide +kernel
theorem dX6_night_61 : decode cX6_night 61 = .ok (.invokestatic 52, 3) := by decide +kernel
theorem dX6_night_64 : decode cX6_night 64 = .ok (.ifCond .eq 10, 3) := by decide +kernel
theorem dX6_night_67 : decode cX6_night 67 = .ok (.iconst 1, 1) := by decide +kernel
theorem dX6_night_68 : decode cX6_night 68 = .ok (.iload 4, 2) := by decide +kernel
theorem dX6_night_70 : decode cX6_night 70 = .ok (.ishl, 1) := by decide +kernel
theorem dX6_night_71 : decode cX6_night 71 = .ok (.goto 4, 3) := by decide +kernel
theorem dX6_night_74 : decode cX6_night 74 = .ok (.iconst 0, 1) := by decide +kernel
theorem dX6_night_75 : decode cX6_night 75 = .ok (.ior, 1) := by decide +kernel
theorem dX6_night_76 : decode cX6_night 76 = .ok (.istore_n 3, 1) := by decide +kernel
theorem dX6_night_77 : decode cX6_night 77 = .ok (.iinc 4 1, 3) := by decide +kernel
theorem dX6_night_80 : decode cX6_night 80 = .ok (.goto (-38), 3) := by decide +kernel
theorem dX6_night_83 : decode cX6_night 83 = .ok (.aload_n 0, 1) := by decide +kernel
theorem dX6_night_84 : decode cX6_night 84 = .ok (.aload_n 0, 1) := by decide +kernel
theorem dX6_night_85 : decode cX6_night 85 = .ok (.getfield 13, 3) := by decide +kernel
theorem dX6_night_88 : decode cX6_night 88 = .ok (.iload_n 1, 1) := by decide +kernel
theorem dX6_night_89 : decode cX6_night 89 = .ok (.invokevirtual 81, 3) := by decide +kernel
theorem dX6_night_92 : decode cX6_night 92 = .ok (.istore 4, 2) := by decide +kernel
theorem dX6_night_94 : decode cX6_night 94 = .ok (.aload_n 0, 1) := by decide +kernel
theorem dX6_night_95 : decode cX6_night 95 = .ok (.aload_n 0, 1) := by decide +kernel
theorem dX6_night_96 : decode cX6_night 96 = .ok (.getfield 13, 3) := by decide +kernel
theorem dX6_night_99 : decode cX6_night 99 = .ok (.iload_n 1, 1) := by decide +kernel
theorem dX6_night_100 : decode cX6_night 100 = .ok (.invokevirtual 77, 3) := by decide +kernel
theorem dX6_night_103 : decode cX6_night 103 = .ok (.istore 5, 2) := by decide +kernel
theorem dX6_night_105 : decode cX6_night 105 = .ok (.iconst 0, 1) := by decide +kernel
theorem dX6_night_106 : decode cX6_night 106 = .ok (.istore 6, 2) := by decide +kernel
theorem dX6_night_108 : decode cX6_night 108 = .ok (.iconst 0, 1) := by decide +kernel
theorem dX6_night_109 : decode cX6_night 109 = .ok (.istore 7, 2) := by decide +kernel
theorem dX6_night_111 : decode cX6_night 111 = .ok (.iconst 0, 1) := by decide +kernel
theorem dX6_night_112 : decode cX6_night 112 = .ok (.istore 8, 2) := by decide +kernel
theorem dX6_night_114 : decode cX6_night 114 = .ok (.iload 8, 2) := by decide +kernel
theorem dX6_night_116 : decode cX6_night 116 = .ok (.aload_n 0, 1) := by decide +kernel
theorem dX6_night_117 : decode cX6_night 117 = .ok (.getfield 13, 3) := by decide +kernel
theorem dX6_night_120 : decode cX6_night 120 = .ok (.iconst 0, 1) := by decide +kernel
theorem dX6_night_121 : decode cX6_night 121 = .ok (.iaload, 1) := by decide +kernel
theorem dX6_night_122 : decode cX6_night 122 = .ok (.if_icmp .ge 58, 3) := by decide +kernel
theorem dX6_night_125 : decode cX6_night 125 = .ok (.iload 5, 2) := by decide +kernel
theorem dX6_night_127 : decode cX6_night 127 = .ok (.ifCond .ne 53, 3) := by decide +kernel
theorem dX6_night_130 : decode cX6_night 130 = .ok (.iload 6, 2) := by decide +kernel
theorem dX6_night_132 : decode cX6_night 132 = .ok (.iconst 1, 1) := by decide +kernel
theorem dX6_night_133 : decode cX6_night 133 = .ok (.aload_n 0, 1) := by decide +kernel
theorem dX6_night_134 : decode cX6_night 134 = .ok (.getfield 29, 3) := by decide +kernel
theorem dX6_night_137 : decode cX6_night 137 = .ok (.iload 8, 2) := by decide +kernel
theorem dX6_night_139 : decode cX6_night 139 = .ok (.iaload, 1) := by decide +kernel
theorem dX6_night_140 : decode cX6_night 140 = .ok (.ishl, 1) := by decide +kernel
theorem dX6_night_141 : decode cX6_night 141 = .ok (.ior, 1) := by decide +kernel
theorem dX6_night_142 : decode cX6_night 142 = .ok (.istore 6, 2) := by decide +kernel
theorem dX6_night_144 : decode cX6_night 144 = .ok (.iload 7, 2) := by decide +kernel
theorem dX6_night_146 : decode cX6_night 146 = .ok (.aload_n 0, 1) := by decide +kernel
theorem dX6_night_147 : decode cX6_night 147 = .ok (.getfield 29, 3) := by decide +kernel
theorem dX6_night_150 : decode cX6_night 150 = .ok (.iload 8, 2) := by decide +kernel
theorem dX6_night_152 : decode cX6_night 152 = .ok (.iaload, 1) := by decide +kernel
theorem dX6_night_153 : decode cX6_night 153 = .ok (.aload_n 0, 1) := by decide +kernel
theorem dX6_night_154 : decode cX6_night 154 = .ok (.getfield 13, 3) := by decide +kernel
theorem dX6_night_157 : decode cX6_night 157 = .ok (.iload_n 1, 1) := by decide +kernel
theorem dX6_night_158 : decode cX6_night 158 = .ok (.iload 8, 2) := by decide +kernel
theorem dX6_night_160 : decode cX6_night 160 = .ok (.invokestatic 56, 3) := by decide +kernel
theorem dX6_night_163 : decode cX6_night 163 = .ok (.if_icmp .ne 7, 3) := by decide +kernel
theorem dX6_night_166 : decode cX6_night 166 = .ok (.iconst 0, 1) := by decide +kernel
theorem dX6_night_167 : decode cX6_night 167 = .ok (.goto 4, 3) := by decide +kernel
theorem dX6_night_170 : decode cX6_night 170 = .ok (.iconst 1, 1) := by decide +kernel
theorem dX6_night_171 : decode cX6_night 171 = .ok (.iadd, 1) := by decide +kernel
theorem dX6_night_172 : decode cX6_night 172 = .ok (.istore 7, 2) := by decide +kernel
theorem dX6_night_174 : decode cX6_night 174 = .ok (.iinc 8 1, 3) := by decide +kernel
theorem dX6_night_177 : decode cX6_night 177 = .ok (.goto (-63), 3) := by decide +kernel
theorem dX6_night_180 : decode cX6_night 180 = .ok (.iload_n 2, 1) := by decide +kernel
theorem dX6_night_181 : decode cX6_night 181 = .ok (.ifCond .ne 16, 3) := by decide +kernel
theorem dX6_night_184 : decode cX6_night 184 = .ok (.iload 5, 2) := by decide +kernel
theorem dX6_night_186 : decode cX6_night 186 = .ok (.ifCond .eq 7, 3) := by decide +kernel
theorem dX6_night_189 : decode cX6_night 189 = .ok (.iconst 1, 1) := by decide +kernel
theorem dX6_night_190 : decode cX6_night 190 = .ok (.goto 38, 3) := by decide +kernel
theorem dX6_night_193 : decode cX6_night 193 = .ok (.iconst 0, 1) := by decide +kernel
theorem dX6_night_194 : decode cX6_night 194 = .ok (.goto 34, 3) := by decide +kernel
theorem dX6_night_197 : decode cX6_night 197 = .ok (.iload_n 2, 1) := by decide +kernel
theorem dX6_night_198 : decode cX6_night 198 = .ok (.iconst 1, 1) := by decide +kernel
theorem dX6_night_199 : decode cX6_night 199 = .ok (.if_icmp .ne 8, 3) := by decide +kernel
theorem dX6_night_202 : decode cX6_night 202 = .ok (.iload 4, 2) := by decide +kernel
theorem dX6_night_204 : decode cX6_night 204 = .ok (.goto 24, 3) := by decide +kernel
theorem dX6_night_207 : decode cX6_night 207 = .ok (.iload_n 2, 1) := by decide +kernel
theorem dX6_night_208 : decode cX6_night 208 = .ok (.iconst 2, 1) := by decide +kernel
theorem dX6_night_209 : decode cX6_night 209 = .ok (.if_icmp .ne 7, 3) := by decide +kernel
theorem dX6_night_212 : decode cX6_night 212 = .ok (.iload_n 3, 1) := by decide +kernel
theorem dX6_night_213 : decode cX6_night 213 = .ok (.goto 15, 3) := by decide +kernel
theorem dX6_night_216 : decode cX6_night 216 = .ok (.iload_n 2, 1) := by decide +kernel
theorem dX6_night_217 : decode cX6_night 217 = .ok (.iconst 3, 1) := by decide +kernel
theorem dX6_night_218 : decode cX6_night 218 = .ok (.if_icmp .ne 8, 3) := by decide +kernel
theorem dX6_night_221 : decode cX6_night 221 = .ok (.iload 6, 2) := by decide +kernel
theorem dX6_night_223 : decode cX6_night 223 = .ok (.goto 5, 3) := by decide +kernel
theorem dX6_night_226 : decode cX6_night 226 = .ok (.iload 7, 2) := by decide +kernel
theorem dX6_night_228 : decode cX6_night 228 = .ok (.ireturn, 1) := by decide +kernel
theorem dX6_actor_0 : decode cX6_actor 0 = .ok (.aload_n 0, 1) := by decide +kernel
theorem dX6_actor_1 : decode cX6_actor 1 = .ok (.aload_n 0, 1) := by decide +kernel
theorem dX6_actor_2 : decode cX6_actor 2 = .ok (.getfield 13, 3) := by decide +kernel
theorem dX6_actor_5 : decode cX6_actor 5 = .ok (.iload_n 1, 1) := by decide +kernel
theorem dX6_actor_6 : decode cX6_actor 6 = .ok (.invokestatic 96, 3) := by decide +kernel
theorem dX6_actor_9 : decode cX6_actor 9 = .ok (.ifCond .ne 7, 3) := by decide +kernel
theorem dX6_actor_12 : decode cX6_actor 12 = .ok (.iconst 1, 1) := by decide +kernel
theorem dX6_actor_13 : decode cX6_actor 13 = .ok (.goto 20, 3) := by decide +kernel
theorem dX6_actor_16 : decode cX6_actor 16 = .ok (.iload_n 2, 1) := by decide +kernel
theorem dX6_actor_17 : decode cX6_actor 17 = .ok (.i2l, 1) := by decide +kernel
theorem dX6_actor_18 : decode cX6_actor 18 = .ok (.lconst 0, 1) := by decide +kernel
theorem dX6_actor_19 : decode cX6_actor 19 = .ok (.ldc2_w 199, 3) := by decide +kernel
theorem dX6_actor_22 : decode cX6_actor 22 = .ok (.invokestatic 48, 3) := by decide +kernel
theorem dX6_actor_25 : decode cX6_actor 25 = .ok (.ifCond .eq 7, 3) := by decide +kernel
theorem dX6_actor_28 : decode cX6_actor 28 = .ok (.iconst 0, 1) := by decide +kernel
theorem dX6_actor_29 : decode cX6_actor 29 = .ok (.goto 4, 3) := by decide +kernel
theorem dX6_actor_32 : decode cX6_actor 32 = .ok (.iconst 2, 1) := by decide +kernel
theorem dX6_actor_33 : decode cX6_actor 33 = .ok (.invokevirtual 119, 3) := by decide +kernel
theorem dX6_actor_36 : decode cX6_actor 36 = .ok (.ifCond .eq 5, 3) := by decide +kernel
theorem dX6_actor_39 : decode cX6_actor 39 = .ok (.iconst 0, 1) := by decide +kernel
theorem dX6_actor_40 : decode cX6_actor 40 = .ok (.ireturn, 1) := by decide +kernel
theorem dX6_actor_41 : decode cX6_actor 41 = .ok (.iconst 0, 1) := by decide +kernel
theorem dX6_actor_42 : decode cX6_actor 42 = .ok (.istore_n 3, 1) := by decide +kernel
theorem dX6_actor_43 : decode cX6_actor 43 = .ok (.iconst (-1), 1) := by decide +kernel
theorem dX6_actor_44 : decode cX6_actor 44 = .ok (.istore 4, 2) := by decide +kernel
theorem dX6_actor_46 : decode cX6_actor 46 = .ok (.iconst (-1), 1) := by decide +kernel
theorem dX6_actor_47 : decode cX6_actor 47 = .ok (.istore 5, 2) := by decide +kernel
theorem dX6_actor_49 : decode cX6_actor 49 = .ok (.iconst 0, 1) := by decide +kernel
theorem dX6_actor_50 : decode cX6_actor 50 = .ok (.istore 6, 2) := by decide +kernel
theorem dX6_actor_52 : decode cX6_actor 52 = .ok (.iconst 0, 1) := by decide +kernel
theorem dX6_actor_53 : decode cX6_actor 53 = .ok (.istore 7, 2) := by decide +kernel
theorem dX6_actor_55 : decode cX6_actor 55 = .ok (.iload 7, 2) := by decide +kernel
theorem dX6_actor_57 : decode cX6_actor 57 = .ok (.bipush 20, 2) := by decide +kernel
theorem dX6_actor_59 : decode cX6_actor 59 = .ok (.if_icmp .ge 91, 3) := by decide +kernel
theorem dX6_actor_62 : decode cX6_actor 62 = .ok (.aload_n 0, 1) := by decide +kernel
theorem dX6_actor_63 : decode cX6_actor 63 = .ok (.aload_n 0, 1) := by decide +kernel
theorem dX6_actor_64 : decode cX6_actor 64 = .ok (.getfield 13, 3) := by decide +kernel
theorem dX6_actor_67 : decode cX6_actor 67 = .ok (.iload 7, 2) := by decide +kernel
theorem dX6_actor_69 : decode cX6_actor 69 = .ok (.iload_n 1, 1) := by decide +kernel
theorem dX6_actor_70 : decode cX6_actor 70 = .ok (.invokevirtual 201, 3) := by decide +kernel
theorem dX6_actor_73 : decode cX6_actor 73 = .ok (.istore 8, 2) := by decide +kernel
theorem dX6_actor_75 : decode cX6_actor 75 = .ok (.iload_n 3, 1) := by decide +kernel
theorem dX6_actor_76 : decode cX6_actor 76 = .ok (.iload 8, 2) := by decide +kernel
theorem dX6_actor_78 : decode cX6_actor 78 = .ok (.iconst (-1), 1) := by decide +kernel
theorem dX6_actor_79 : decode cX6_actor 79 = .ok (.if_icmp .ne 7, 3) := by decide +kernel
theorem dX6_actor_82 : decode cX6_actor 82 = .ok (.iconst 0, 1) := by decide +kernel
theorem dX6_actor_83 : decode cX6_actor 83 = .ok (.goto 4, 3) := by decide +kernel
theorem dX6_actor_86 : decode cX6_actor 86 = .ok (.iconst 1, 1) := by decide +kernel
theorem dX6_actor_87 : decode cX6_actor 87 = .ok (.iadd, 1) := by decide +kernel
theorem dX6_actor_88 : decode cX6_actor 88 = .ok (.istore_n 3, 1) := by decide +kernel
theorem dX6_actor_89 : decode cX6_actor 89 = .ok (.iload 8, 2) := by decide +kernel
theorem dX6_actor_91 : decode cX6_actor 91 = .ok (.iconst (-1), 1) := by decide +kernel
theorem dX6_actor_92 : decode cX6_actor 92 = .ok (.if_icmp .eq 14, 3) := by decide +kernel
theorem dX6_actor_95 : decode cX6_actor 95 = .ok (.iload 4, 2) := by decide +kernel
theorem dX6_actor_97 : decode cX6_actor 97 = .ok (.iconst (-1), 1) := by decide +kernel
theorem dX6_actor_98 : decode cX6_actor 98 = .ok (.if_icmp .ne 8, 3) := by decide +kernel
theorem dX6_actor_101 : decode cX6_actor 101 = .ok (.iload 7, 2) := by decide +kernel
theorem dX6_actor_103 : decode cX6_actor 103 = .ok (.goto 5, 3) := by decide +kernel
theorem dX6_actor_106 : decode cX6_actor 106 = .ok (.iload 4, 2) := by decide +kernel
theorem dX6_actor_108 : decode cX6_actor 108 = .ok (.istore 4, 2) := by decide +kernel
theorem dX6_actor_110 : decode cX6_actor 110 = .ok (.iload 8, 2) := by decide +kernel
theorem dX6_actor_112 : decode cX6_actor 112 = .ok (.iconst (-1), 1) := by decide +kernel
theorem dX6_actor_113 : decode cX6_actor 113 = .ok (.if_icmp .ne 8, 3) := by decide +kernel
theorem dX6_actor_116 : decode cX6_actor 116 = .ok (.iload 5, 2) := by decide +kernel
theorem dX6_actor_118 : decode cX6_actor 118 = .ok (.goto 5, 3) := by decide +kernel
theorem dX6_actor_121 : decode cX6_actor 121 = .ok (.iload 7, 2) := by decide +kernel
theorem dX6_actor_123 : decode cX6_actor 123 = .ok (.istore 5, 2) := by decide +kernel
theorem dX6_actor_125 : decode cX6_actor 125 = .ok (.iload 6, 2) := by decide +kernel
theorem dX6_actor_127 : decode cX6_actor 127 = .ok (.iload 8, 2) := by decide +kernel
theorem dX6_actor_129 : decode cX6_actor 129 = .ok (.iconst (-1), 1) := by decide +kernel
theorem dX6_actor_130 : decode cX6_actor 130 = .ok (.if_icmp .ne 7, 3) := by decide +kernel
theorem dX6_actor_133 : decode cX6_actor 133 = .ok (.iconst 0, 1) := by decide +kernel
theorem dX6_actor_134 : decode cX6_actor 134 = .ok (.goto 7, 3) := by decide +kernel
theorem dX6_actor_137 : decode cX6_actor 137 = .ok (.iconst 1, 1) := by decide +kernel
theorem dX6_actor_138 : decode cX6_actor 138 = .ok (.iload 8, 2) := by decide +kernel
theorem dX6_actor_140 : decode cX6_actor 140 = .ok (.ishl, 1) := by decide +kernel
theorem dX6_actor_141 : decode cX6_actor 141 = .ok (.ior, 1) := by decide +kernel
theorem dX6_actor_142 : decode cX6_actor 142 = .ok (.istore 6, 2) := by decide +kernel
theorem dX6_actor_144 : decode cX6_actor 144 = .ok (.iinc 7 1, 3) := by decide +kernel
theorem dX6_actor_147 : decode cX6_actor 147 = .ok (.goto (-92), 3) := by decide +kernel
theorem dX6_actor_150 : decode cX6_actor 150 = .ok (.iload_n 2, 1) := by decide +kernel
theorem dX6_actor_151 : decode cX6_actor 151 = .ok (.ifCond .ne 14, 3) := by decide +kernel
theorem dX6_actor_154 : decode cX6_actor 154 = .ok (.aload_n 0, 1) := by decide +kernel
theorem dX6_actor_155 : decode cX6_actor 155 = .ok (.getfield 13, 3) := by decide +kernel
theorem dX6_actor_158 : decode cX6_actor 158 = .ok (.iconst 5, 1) := by decide +kernel
theorem dX6_actor_159 : decode cX6_actor 159 = .ok (.iload_n 1, 1) := by decide +kernel
theorem dX6_actor_160 : decode cX6_actor 160 = .ok (.iadd, 1) := by decide +kernel
theorem dX6_actor_161 : decode cX6_actor 161 = .ok (.iaload, 1) := by decide +kernel
theorem dX6_actor_162 : decode cX6_actor 162 = .ok (.goto 54, 3) := by decide +kernel
theorem dX6_actor_165 : decode cX6_actor 165 = .ok (.iload_n 2, 1) := by decide +kernel
theorem dX6_actor_166 : decode cX6_actor 166 = .ok (.iconst 1, 1) := by decide +kernel
theorem dX6_actor_167 : decode cX6_actor 167 = .ok (.if_icmp .ne 7, 3) := by decide +kernel
theorem dX6_actor_170 : decode cX6_actor 170 = .ok (.iload_n 3, 1) := by decide +kernel
theorem dX6_actor_171 : decode cX6_actor 171 = .ok (.goto 45, 3) := by decide +kernel
theorem dX6_actor_174 : decode cX6_actor 174 = .ok (.iload_n 2, 1) := by decide +kernel
theorem dX6_actor_175 : decode cX6_actor 175 = .ok (.iconst 2, 1) := by decide +kernel
theorem dX6_actor_176 : decode cX6_actor 176 = .ok (.if_icmp .ne 8, 3) := by decide +kernel
theorem dX6_actor_179 : decode cX6_actor 179 = .ok (.iload 4, 2) := by decide +kernel
theorem dX6_actor_181 : decode cX6_actor 181 = .ok (.goto 35, 3) := by decide +kernel
theorem dX6_actor_184 : decode cX6_actor 184 = .ok (.iload_n 2, 1) := by decide +kernel
theorem dX6_actor_185 : decode cX6_actor 185 = .ok (.iconst 3, 1) := by decide +kernel
theorem dX6_actor_186 : decode cX6_actor 186 = .ok (.if_icmp .ne 8, 3) := by decide +kernel
theorem dX6_actor_189 : decode cX6_actor 189 = .ok (.iload 5, 2) := by decide +kernel
theorem dX6_actor_191 : decode cX6_actor 191 = .ok (.goto 25, 3) := by decide +kernel
theorem dX6_actor_194 : decode cX6_actor 194 = .ok (.iload_n 2, 1) := by decide +kernel
theorem dX6_actor_195 : decode cX6_actor 195 = .ok (.iconst 4, 1) := by decide +kernel
theorem dX6_actor_196 : decode cX6_actor 196 = .ok (.if_icmp .ne 8, 3) := by decide +kernel
theorem dX6_actor_199 : decode cX6_actor 199 = .ok (.iload 6, 2) := by decide +kernel
theorem dX6_actor_201 : decode cX6_actor 201 = .ok (.goto 15, 3) := by decide +kernel
theorem dX6_actor_204 : decode cX6_actor 204 = .ok (.aload_n 0, 1) := by decide +kernel
theorem dX6_actor_205 : decode cX6_actor 205 = .ok (.getfield 13, 3) := by decide +kernel
theorem dX6_actor_208 : decode cX6_actor 208 = .ok (.bipush 15, 2) := by decide +kernel
theorem dX6_actor_210 : decode cX6_actor 210 = .ok (.iload_n 1, 1) := by decide +kernel
theorem dX6_actor_211 : decode cX6_actor 211 = .ok (.iadd, 1) := by decide +kernel
theorem dX6_actor_212 : decode cX6_actor 212 = .ok (.iaload, 1) := by decide +kernel
theorem dX6_actor_213 : decode cX6_actor 213 = .ok (.invokestatic 102, 3) := by decide +kernel
theorem dX6_actor_216 : decode cX6_actor 216 = .ok (.ireturn, 1) := by decide +kernel
theorem dX6_ranked_0 : decode cX6_ranked 0 = .ok (.aload_n 0, 1) := by decide +kernel
theorem dX6_ranked_1 : decode cX6_ranked 1 = .ok (.aload_n 0, 1) := by decide +kernel
theorem dX6_ranked_2 : decode cX6_ranked 2 = .ok (.getfield 13, 3) := by decide +kernel
theorem dX6_ranked_5 : decode cX6_ranked 5 = .ok (.iload_n 1, 1) := by decide +kernel
theorem dX6_ranked_6 : decode cX6_ranked 6 = .ok (.invokestatic 93, 3) := by decide +kernel
theorem dX6_ranked_9 : decode cX6_ranked 9 = .ok (.ifCond .ne 7, 3) := by decide +kernel
theorem dX6_ranked_12 : decode cX6_ranked 12 = .ok (.iconst 1, 1) := by decide +kernel
theorem dX6_ranked_13 : decode cX6_ranked 13 = .ok (.goto 12, 3) := by decide +kernel
theorem dX6_ranked_16 : decode cX6_ranked 16 = .ok (.iload_n 2, 1) := by decide +kernel
theorem dX6_ranked_17 : decode cX6_ranked 17 = .ok (.ifCond .lt 7, 3) := by decide +kernel
theorem dX6_ranked_20 : decode cX6_ranked 20 = .ok (.iconst 0, 1) := by decide +kernel
theorem dX6_ranked_21 : decode cX6_ranked 21 = .ok (.goto 4, 3) := by decide +kernel
theorem dX6_ranked_24 : decode cX6_ranked 24 = .ok (.iconst 2, 1) := by decide +kernel
theorem dX6_ranked_25 : decode cX6_ranked 25 = .ok (.invokevirtual 119, 3) := by decide +kernel
theorem dX6_ranked_28 : decode cX6_ranked 28 = .ok (.ifCond .eq 5, 3) := by decide +kernel
theorem dX6_ranked_31 : decode cX6_ranked 31 = .ok (.iconst 0, 1) := by decide +kernel
theorem dX6_ranked_32 : decode cX6_ranked 32 = .ok (.ireturn, 1) := by decide +kernel
theorem dX6_ranked_33 : decode cX6_ranked 33 = .ok (.iload_n 2, 1) := by decide +kernel
theorem dX6_ranked_34 : decode cX6_ranked 34 = .ok (.aload_n 0, 1) := by decide +kernel
theorem dX6_ranked_35 : decode cX6_ranked 35 = .ok (.getfield 13, 3) := by decide +kernel
theorem dX6_ranked_38 : decode cX6_ranked 38 = .ok (.sipush 145, 3) := by decide +kernel
theorem dX6_ranked_41 : decode cX6_ranked 41 = .ok (.iconst 5, 1) := by decide +kernel
theorem dX6_ranked_42 : decode cX6_ranked 42 = .ok (.iload_n 1, 1) := by decide +kernel
theorem dX6_ranked_43 : decode cX6_ranked 43 = .ok (.imul, 1) := by decide +kernel
theorem dX6_ranked_44 : decode cX6_ranked 44 = .ok (.iadd, 1) := by decide +kernel
theorem dX6_ranked_45 : decode cX6_ranked 45 = .ok (.iaload, 1) := by decide +kernel
theorem dX6_ranked_46 : decode cX6_ranked 46 = .ok (.if_icmp .ge 22, 3) := by decide +kernel
theorem dX6_ranked_49 : decode cX6_ranked 49 = .ok (.aload_n 0, 1) := by decide +kernel
theorem dX6_ranked_50 : decode cX6_ranked 50 = .ok (.getfield 13, 3) := by decide +kernel
theorem dX6_ranked_53 : decode cX6_ranked 53 = .ok (.sipush 145, 3) := by decide +kernel
theorem dX6_ranked_56 : decode cX6_ranked 56 = .ok (.iconst 5, 1) := by decide +kernel
theorem dX6_ranked_57 : decode cX6_ranked 57 = .ok (.iload_n 1, 1) := by decide +kernel
theorem dX6_ranked_58 : decode cX6_ranked 58 = .ok (.imul, 1) := by decide +kernel
theorem dX6_ranked_59 : decode cX6_ranked 59 = .ok (.iadd, 1) := by decide +kernel
theorem dX6_ranked_60 : decode cX6_ranked 60 = .ok (.iconst 1, 1) := by decide +kernel
theorem dX6_ranked_61 : decode cX6_ranked 61 = .ok (.iadd, 1) := by decide +kernel
theorem dX6_ranked_62 : decode cX6_ranked 62 = .ok (.iload_n 2, 1) := by decide +kernel
theorem dX6_ranked_63 : decode cX6_ranked 63 = .ok (.iadd, 1) := by decide +kernel
theorem dX6_ranked_64 : decode cX6_ranked 64 = .ok (.iaload, 1) := by decide +kernel
theorem dX6_ranked_65 : decode cX6_ranked 65 = .ok (.goto 4, 3) := by decide +kernel
theorem dX6_ranked_68 : decode cX6_ranked 68 = .ok (.iconst (-1), 1) := by decide +kernel
theorem dX6_ranked_69 : decode cX6_ranked 69 = .ok (.ireturn, 1) := by decide +kernel
theorem dX6_found_0 : decode cX6_found 0 = .ok (.aload_n 0, 1) := by decide +kernel
theorem dX6_found_1 : decode cX6_found 1 = .ok (.aload_n 0, 1) := by decide +kernel
theorem dX6_found_2 : decode cX6_found 2 = .ok (.getfield 13, 3) := by decide +kernel
theorem dX6_found_5 : decode cX6_found 5 = .ok (.iload_n 1, 1) := by decide +kernel
theorem dX6_found_6 : decode cX6_found 6 = .ok (.invokestatic 204, 3) := by decide +kernel
theorem dX6_found_9 : decode cX6_found 9 = .ok (.ifCond .ne 7, 3) := by decide +kernel
theorem dX6_found_12 : decode cX6_found 12 = .ok (.iconst 1, 1) := by decide +kernel
theorem dX6_found_13 : decode cX6_found 13 = .ok (.goto 20, 3) := by decide +kernel
theorem dX6_found_16 : decode cX6_found 16 = .ok (.iload_n 2, 1) := by decide +kernel
theorem dX6_found_17 : decode cX6_found 17 = .ok (.i2l, 1) := by decide +kernel
theorem dX6_found_18 : decode cX6_found 18 = .ok (.lconst 0, 1) := by decide +kernel
theorem dX6_found_19 : decode cX6_found 19 = .ok (.ldc2_w 197, 3) := by decide +kernel
theorem dX6_found_22 : decode cX6_found 22 = .ok (.invokestatic 48, 3) := by decide +kernel
theorem dX6_found_25 : decode cX6_found 25 = .ok (.ifCond .eq 7, 3) := by decide +kernel
theorem dX6_found_28 : decode cX6_found 28 = .ok (.iconst 0, 1) := by decide +kernel
theorem dX6_found_29 : decode cX6_found 29 = .ok (.goto 4, 3) := by decide +kernel
theorem dX6_found_32 : decode cX6_found 32 = .ok (.iconst 2, 1) := by decide +kernel
theorem dX6_found_33 : decode cX6_found 33 = .ok (.invokevirtual 119, 3) := by decide +kernel
theorem dX6_found_36 : decode cX6_found 36 = .ok (.ifCond .eq 5, 3) := by decide +kernel
theorem dX6_found_39 : decode cX6_found 39 = .ok (.iconst 0, 1) := by decide +kernel
theorem dX6_found_40 : decode cX6_found 40 = .ok (.ireturn, 1) := by decide +kernel
theorem dX6_found_41 : decode cX6_found 41 = .ok (.iload_n 2, 1) := by decide +kernel
theorem dX6_found_42 : decode cX6_found 42 = .ok (.iconst 4, 1) := by decide +kernel
theorem dX6_found_43 : decode cX6_found 43 = .ok (.if_icmp .ge 15, 3) := by decide +kernel
theorem dX6_found_46 : decode cX6_found 46 = .ok (.aload_n 0, 1) := by decide +kernel
theorem dX6_found_47 : decode cX6_found 47 = .ok (.getfield 13, 3) := by decide +kernel
theorem dX6_found_50 : decode cX6_found 50 = .ok (.iload_n 1, 1) := by decide +kernel
theorem dX6_found_51 : decode cX6_found 51 = .ok (.iload_n 2, 1) := by decide +kernel
theorem dX6_found_52 : decode cX6_found 52 = .ok (.invokestatic 60, 3) := by decide +kernel
theorem dX6_found_55 : decode cX6_found 55 = .ok (.goto 16, 3) := by decide +kernel
theorem dX6_found_58 : decode cX6_found 58 = .ok (.aload_n 0, 1) := by decide +kernel
theorem dX6_found_59 : decode cX6_found 59 = .ok (.iload_n 1, 1) := by decide +kernel
theorem dX6_found_60 : decode cX6_found 60 = .ok (.invokevirtual 182, 3) := by decide +kernel
theorem dX6_found_63 : decode cX6_found 63 = .ok (.ifCond .eq 7, 3) := by decide +kernel
theorem dX6_found_66 : decode cX6_found 66 = .ok (.iconst 1, 1) := by decide +kernel
theorem dX6_found_67 : decode cX6_found 67 = .ok (.goto 4, 3) := by decide +kernel
theorem dX6_found_70 : decode cX6_found 70 = .ok (.iconst 0, 1) := by decide +kernel
theorem dX6_found_71 : decode cX6_found 71 = .ok (.ireturn, 1) := by decide +kernel
theorem dX6_setting_0 : decode cX6_setting 0 = .ok (.aload_n 0, 1) := by decide +kernel
theorem dX6_setting_1 : decode cX6_setting 1 = .ok (.iload_n 1, 1) := by decide +kernel
