theorem dX6_init_0 : decode cX6_init 0 = .ok (.aload_n 0, 1) := by decide +kernel
theorem dX6_init_1 : decode cX6_init 1 = .ok (.invokespecial 1, 3) := by decide +kernel
theorem dX6_init_4 : decode cX6_init 4 = .ok (.aload_n 0, 1) := by decide +kernel
theorem dX6_init_5 : decode cX6_init 5 = .ok (.bipush 120, 2) := by decide +kernel
theorem dX6_init_7 : decode cX6_init 7 = .ok (.newarray .int, 2) := by decide +kernel
theorem dX6_init_9 : decode cX6_init 9 = .ok (.putfield 7, 3) := by decide +kernel
theorem dX6_init_12 : decode cX6_init 12 = .ok (.aload_n 0, 1) := by decide +kernel
theorem dX6_init_13 : decode cX6_init 13 = .ok (.sipush 255, 3) := by decide +kernel
theorem dX6_init_16 : decode cX6_init 16 = .ok (.newarray .int, 2) := by decide +kernel
theorem dX6_init_18 : decode cX6_init 18 = .ok (.putfield 13, 3) := by decide +kernel
theorem dX6_init_21 : decode cX6_init 21 = .ok (.aload_n 0, 1) := by decide +kernel
theorem dX6_init_22 : decode cX6_init 22 = .ok (.sipush 255, 3) := by decide +kernel
theorem dX6_init_25 : decode cX6_init 25 = .ok (.newarray .int, 2) := by decide +kernel
theorem dX6_init_27 : decode cX6_init 27 = .ok (.putfield 16, 3) := by decide +kernel
theorem dX6_init_30 : decode cX6_init 30 = .ok (.aload_n 0, 1) := by decide +kernel
theorem dX6_init_31 : decode cX6_init 31 = .ok (.sipush 3570, 3) := by decide +kernel
theorem dX6_init_34 : decode cX6_init 34 = .ok (.newarray .int, 2) := by decide +kernel
theorem dX6_init_36 : decode cX6_init 36 = .ok (.putfield 19, 3) := by decide +kernel
theorem dX6_init_39 : decode cX6_init 39 = .ok (.aload_n 0, 1) := by decide +kernel
theorem dX6_init_40 : decode cX6_init 40 = .ok (.sipush 510, 3) := by decide +kernel
theorem dX6_init_43 : decode cX6_init 43 = .ok (.newarray .int, 2) := by decide +kernel
theorem dX6_init_45 : decode cX6_init 45 = .ok (.putfield 22, 3) := by decide +kernel
theorem dX6_init_48 : decode cX6_init 48 = .ok (.aload_n 0, 1) := by decide +kernel
theorem dX6_init_49 : decode cX6_init 49 = .ok (.iconst 2, 1) := by decide +kernel
theorem dX6_init_50 : decode cX6_init 50 = .ok (.newarray .boolean, 2) := by decide +kernel
theorem dX6_init_52 : decode cX6_init 52 = .ok (.putfield 25, 3) := by decide +kernel
theorem dX6_init_55 : decode cX6_init 55 = .ok (.aload_n 0, 1) := by decide +kernel
theorem dX6_init_56 : decode cX6_init 56 = .ok (.bipush 6, 2) := by decide +kernel
theorem dX6_init_58 : decode cX6_init 58 = .ok (.newarray .int, 2) := by decide +kernel
theorem dX6_init_60 : decode cX6_init 60 = .ok (.putfield 29, 3) := by decide +kernel
theorem dX6_init_63 : decode cX6_init 63 = .ok (.aload_n 0, 1) := by decide +kernel
theorem dX6_init_64 : decode cX6_init 64 = .ok (.bipush 6, 2) := by decide +kernel
theorem dX6_init_66 : decode cX6_init 66 = .ok (.newarray .int, 2) := by decide +kernel
theorem dX6_init_68 : decode cX6_init 68 = .ok (.putfield 32, 3) := by decide +kernel
theorem dX6_init_71 : decode cX6_init 71 = .ok (.aload_n 0, 1) := by decide +kernel
theorem dX6_init_72 : decode cX6_init 72 = .ok (.bipush 6, 2) := by decide +kernel
theorem dX6_init_74 : decode cX6_init 74 = .ok (.newarray .int, 2) := by decide +kernel
theorem dX6_init_76 : decode cX6_init 76 = .ok (.putfield 35, 3) := by decide +kernel
theorem dX6_init_79 : decode cX6_init 79 = .ok (.aload_n 0, 1) := by decide +kernel
theorem dX6_init_80 : decode cX6_init 80 = .ok (.getfield 13, 3) := by decide +kernel
theorem dX6_init_83 : decode cX6_init 83 = .ok (.invokestatic 38, 3) := by decide +kernel
theorem dX6_init_86 : decode cX6_init 86 = .ok (.return_, 1) := by decide +kernel
theorem dX6_thrown_0 : decode cX6_thrown 0 = .ok (.aload_n 0, 1) := by decide +kernel
theorem dX6_thrown_1 : decode cX6_thrown 1 = .ok (.getfield 42, 3) := by decide +kernel
theorem dX6_thrown_4 : decode cX6_thrown 4 = .ok (.ireturn, 1) := by decide +kernel
theorem dX6_refused_0 : decode cX6_refused 0 = .ok (.aload_n 0, 1) := by decide +kernel
theorem dX6_refused_1 : decode cX6_refused 1 = .ok (.iload_n 1, 1) := by decide +kernel
theorem dX6_refused_2 : decode cX6_refused 2 = .ok (.putfield 42, 3) := by decide +kernel
theorem dX6_refused_5 : decode cX6_refused 5 = .ok (.iload_n 1, 1) := by decide +kernel
theorem dX6_refused_6 : decode cX6_refused 6 = .ok (.ifCond .le 7, 3) := by decide +kernel
theorem dX6_refused_9 : decode cX6_refused 9 = .ok (.iconst 1, 1) := by decide +kernel
theorem dX6_refused_10 : decode cX6_refused 10 = .ok (.goto 4, 3) := by decide +kernel
theorem dX6_refused_13 : decode cX6_refused 13 = .ok (.iconst 0, 1) := by decide +kernel
theorem dX6_refused_14 : decode cX6_refused 14 = .ok (.ireturn, 1) := by decide +kernel
theorem dX6_in_0 : decode cX6_in 0 = .ok (.lload_n 0, 1) := by decide +kernel
theorem dX6_in_1 : decode cX6_in 1 = .ok (.lload_n 2, 1) := by decide +kernel
theorem dX6_in_2 : decode cX6_in 2 = .ok (.lcmp, 1) := by decide +kernel
theorem dX6_in_3 : decode cX6_in 3 = .ok (.ifCond .lt 14, 3) := by decide +kernel
theorem dX6_in_6 : decode cX6_in 6 = .ok (.lload_n 0, 1) := by decide +kernel
theorem dX6_in_7 : decode cX6_in 7 = .ok (.lload 4, 2) := by decide +kernel
theorem dX6_in_9 : decode cX6_in 9 = .ok (.lcmp, 1) := by decide +kernel
theorem dX6_in_10 : decode cX6_in 10 = .ok (.ifCond .gt 7, 3) := by decide +kernel
theorem dX6_in_13 : decode cX6_in 13 = .ok (.iconst 1, 1) := by decide +kernel
theorem dX6_in_14 : decode cX6_in 14 = .ok (.goto 4, 3) := by decide +kernel
theorem dX6_in_17 : decode cX6_in 17 = .ok (.iconst 0, 1) := by decide +kernel
theorem dX6_in_18 : decode cX6_in 18 = .ok (.ireturn, 1) := by decide +kernel
theorem dX6_copyState_0 : decode cX6_copyState 0 = .ok (.iconst 0, 1) := by decide +kernel
theorem dX6_copyState_1 : decode cX6_copyState 1 = .ok (.istore 4, 2) := by decide +kernel
theorem dX6_copyState_3 : decode cX6_copyState 3 = .ok (.iload 4, 2) := by decide +kernel
theorem dX6_copyState_5 : decode cX6_copyState 5 = .ok (.sipush 255, 3) := by decide +kernel
theorem dX6_copyState_8 : decode cX6_copyState 8 = .ok (.if_icmp .ge 21, 3) := by decide +kernel
theorem dX6_copyState_11 : decode cX6_copyState 11 = .ok (.aload_n 2, 1) := by decide +kernel
theorem dX6_copyState_12 : decode cX6_copyState 12 = .ok (.iload_n 3, 1) := by decide +kernel
theorem dX6_copyState_13 : decode cX6_copyState 13 = .ok (.iload 4, 2) := by decide +kernel
theorem dX6_copyState_15 : decode cX6_copyState 15 = .ok (.iadd, 1) := by decide +kernel
theorem dX6_copyState_16 : decode cX6_copyState 16 = .ok (.aload_n 0, 1) := by decide +kernel
theorem dX6_copyState_17 : decode cX6_copyState 17 = .ok (.iload_n 1, 1) := by decide +kernel
theorem dX6_copyState_18 : decode cX6_copyState 18 = .ok (.iload 4, 2) := by decide +kernel
theorem dX6_copyState_20 : decode cX6_copyState 20 = .ok (.iadd, 1) := by decide +kernel
theorem dX6_copyState_21 : decode cX6_copyState 21 = .ok (.iaload, 1) := by decide +kernel
theorem dX6_copyState_22 : decode cX6_copyState 22 = .ok (.iastore, 1) := by decide +kernel
theorem dX6_copyState_23 : decode cX6_copyState 23 = .ok (.iinc 4 1, 3) := by decide +kernel
theorem dX6_copyState_26 : decode cX6_copyState 26 = .ok (.goto (-23), 3) := by decide +kernel
theorem dX6_copyState_29 : decode cX6_copyState 29 = .ok (.return_, 1) := by decide +kernel
theorem dX6_begin_0 : decode cX6_begin 0 = .ok (.iconst 0, 1) := by decide +kernel
theorem dX6_begin_1 : decode cX6_begin 1 = .ok (.istore_n 1, 1) := by decide +kernel
theorem dX6_begin_2 : decode cX6_begin 2 = .ok (.iload_n 1, 1) := by decide +kernel
theorem dX6_begin_3 : decode cX6_begin 3 = .ok (.sipush 255, 3) := by decide +kernel
theorem dX6_begin_6 : decode cX6_begin 6 = .ok (.if_icmp .ge 13, 3) := by decide +kernel
theorem dX6_begin_9 : decode cX6_begin 9 = .ok (.aload_n 0, 1) := by decide +kernel
theorem dX6_begin_10 : decode cX6_begin 10 = .ok (.iload_n 1, 1) := by decide +kernel
theorem dX6_begin_11 : decode cX6_begin 11 = .ok (.iconst 0, 1) := by decide +kernel
theorem dX6_begin_12 : decode cX6_begin 12 = .ok (.iastore, 1) := by decide +kernel
theorem dX6_begin_13 : decode cX6_begin 13 = .ok (.iinc 1 1, 3) := by decide +kernel
theorem dX6_begin_16 : decode cX6_begin 16 = .ok (.goto (-14), 3) := by decide +kernel
theorem dX6_begin_19 : decode cX6_begin 19 = .ok (.aload_n 0, 1) := by decide +kernel
theorem dX6_begin_20 : decode cX6_begin 20 = .ok (.iconst 3, 1) := by decide +kernel
theorem dX6_begin_21 : decode cX6_begin 21 = .ok (.bipush 20, 2) := by decide +kernel
theorem dX6_begin_23 : decode cX6_begin 23 = .ok (.iastore, 1) := by decide +kernel
theorem dX6_begin_24 : decode cX6_begin 24 = .ok (.aload_n 0, 1) := by decide +kernel
theorem dX6_begin_25 : decode cX6_begin 25 = .ok (.iconst 4, 1) := by decide +kernel
theorem dX6_begin_26 : decode cX6_begin 26 = .ok (.iconst 3, 1) := by decide +kernel
theorem dX6_begin_27 : decode cX6_begin 27 = .ok (.iastore, 1) := by decide +kernel
theorem dX6_begin_28 : decode cX6_begin 28 = .ok (.return_, 1) := by decide +kernel
theorem dX6_isNight_0 : decode cX6_isNight 0 = .ok (.iload_n 0, 1) := by decide +kernel
theorem dX6_isNight_1 : decode cX6_isNight 1 = .ok (.i2l, 1) := by decide +kernel
theorem dX6_isNight_2 : decode cX6_isNight 2 = .ok (.lconst 0, 1) := by decide +kernel
theorem dX6_isNight_3 : decode cX6_isNight 3 = .ok (.ldc2_w 46, 3) := by decide +kernel
theorem dX6_isNight_6 : decode cX6_isNight 6 = .ok (.invokestatic 48, 3) := by decide +kernel
theorem dX6_isNight_9 : decode cX6_isNight 9 = .ok (.ireturn, 1) := by decide +kernel
theorem dX6_isPart_0 : decode cX6_isPart 0 = .ok (.iload_n 1, 1) := by decide +kernel
theorem dX6_isPart_1 : decode cX6_isPart 1 = .ok (.i2l, 1) := by decide +kernel
theorem dX6_isPart_2 : decode cX6_isPart 2 = .ok (.lconst 0, 1) := by decide +kernel
theorem dX6_isPart_3 : decode cX6_isPart 3 = .ok (.aload_n 0, 1) := by decide +kernel
theorem dX6_isPart_4 : decode cX6_isPart 4 = .ok (.iconst 0, 1) := by decide +kernel
theorem dX6_isPart_5 : decode cX6_isPart 5 = .ok (.iaload, 1) := by decide +kernel
theorem dX6_isPart_6 : decode cX6_isPart 6 = .ok (.iconst 1, 1) := by decide +kernel
theorem dX6_isPart_7 : decode cX6_isPart 7 = .ok (.isub, 1) := by decide +kernel
theorem dX6_isPart_8 : decode cX6_isPart 8 = .ok (.i2l, 1) := by decide +kernel
theorem dX6_isPart_9 : decode cX6_isPart 9 = .ok (.invokestatic 48, 3) := by decide +kernel
theorem dX6_isPart_12 : decode cX6_isPart 12 = .ok (.ireturn, 1) := by decide +kernel
theorem dX6_isActor_0 : decode cX6_isActor 0 = .ok (.iload_n 1, 1) := by decide +kernel
theorem dX6_isActor_1 : decode cX6_isActor 1 = .ok (.i2l, 1) := by decide +kernel
theorem dX6_isActor_2 : decode cX6_isActor 2 = .ok (.lconst 0, 1) := by decide +kernel
theorem dX6_isActor_3 : decode cX6_isActor 3 = .ok (.aload_n 0, 1) := by decide +kernel
theorem dX6_isActor_4 : decode cX6_isActor 4 = .ok (.iconst 1, 1) := by decide +kernel
theorem dX6_isActor_5 : decode cX6_isActor 5 = .ok (.iaload, 1) := by decide +kernel
theorem dX6_isActor_6 : decode cX6_isActor 6 = .ok (.iconst 1, 1) := by decide +kernel
theorem dX6_isActor_7 : decode cX6_isActor 7 = .ok (.isub, 1) := by decide +kernel
theorem dX6_isActor_8 : decode cX6_isActor 8 = .ok (.i2l, 1) := by decide +kernel
theorem dX6_isActor_9 : decode cX6_isActor 9 = .ok (.invokestatic 48, 3) := by decide +kernel
theorem dX6_isActor_12 : decode cX6_isActor 12 = .ok (.ireturn, 1) := by decide +kernel
theorem dX6_isSlip_0 : decode cX6_isSlip 0 = .ok (.iload_n 1, 1) := by decide +kernel
theorem dX6_isSlip_1 : decode cX6_isSlip 1 = .ok (.i2l, 1) := by decide +kernel
theorem dX6_isSlip_2 : decode cX6_isSlip 2 = .ok (.lconst 0, 1) := by decide +kernel
theorem dX6_isSlip_3 : decode cX6_isSlip 3 = .ok (.aload_n 0, 1) := by decide +kernel
theorem dX6_isSlip_4 : decode cX6_isSlip 4 = .ok (.iconst 2, 1) := by decide +kernel
theorem dX6_isSlip_5 : decode cX6_isSlip 5 = .ok (.iaload, 1) := by decide +kernel
theorem dX6_isSlip_6 : decode cX6_isSlip 6 = .ok (.iconst 1, 1) := by decide +kernel
theorem dX6_isSlip_7 : decode cX6_isSlip 7 = .ok (.isub, 1) := by decide +kernel
theorem dX6_isSlip_8 : decode cX6_isSlip 8 = .ok (.i2l, 1) := by decide +kernel
theorem dX6_isSlip_9 : decode cX6_isSlip 9 = .ok (.invokestatic 48, 3) := by decide +kernel
theorem dX6_isSlip_12 : decode cX6_isSlip 12 = .ok (.ireturn, 1) := by decide +kernel
theorem dX6_principal_0 : decode cX6_principal 0 = .ok (.aload_n 0, 1) := by decide +kernel
theorem dX6_principal_1 : decode cX6_principal 1 = .ok (.bipush 25, 2) := by decide +kernel
theorem dX6_principal_3 : decode cX6_principal 3 = .ok (.bipush 20, 2) := by decide +kernel
theorem dX6_principal_5 : decode cX6_principal 5 = .ok (.iload_n 2, 1) := by decide +kernel
theorem dX6_principal_6 : decode cX6_principal 6 = .ok (.imul, 1) := by decide +kernel
theorem dX6_principal_7 : decode cX6_principal 7 = .ok (.iadd, 1) := by decide +kernel
theorem dX6_principal_8 : decode cX6_principal 8 = .ok (.iload_n 1, 1) := by decide +kernel
theorem dX6_principal_9 : decode cX6_principal 9 = .ok (.iadd, 1) := by decide +kernel
theorem dX6_principal_10 : decode cX6_principal 10 = .ok (.iaload, 1) := by decide +kernel
theorem dX6_principal_11 : decode cX6_principal 11 = .ok (.ireturn, 1) := by decide +kernel
theorem dX6_isIll_0 : decode cX6_isIll 0 = .ok (.aload_n 0, 1) := by decide +kernel
theorem dX6_isIll_1 : decode cX6_isIll 1 = .ok (.bipush 15, 2) := by decide +kernel
theorem dX6_isIll_3 : decode cX6_isIll 3 = .ok (.iload_n 1, 1) := by decide +kernel
theorem dX6_isIll_4 : decode cX6_isIll 4 = .ok (.iadd, 1) := by decide +kernel
theorem dX6_isIll_5 : decode cX6_isIll 5 = .ok (.iaload, 1) := by decide +kernel
theorem dX6_isIll_6 : decode cX6_isIll 6 = .ok (.iload_n 2, 1) := by decide +kernel
theorem dX6_isIll_7 : decode cX6_isIll 7 = .ok (.ishr, 1) := by decide +kernel
theorem dX6_isIll_8 : decode cX6_isIll 8 = .ok (.iconst 1, 1) := by decide +kernel
theorem dX6_isIll_9 : decode cX6_isIll 9 = .ok (.iand, 1) := by decide +kernel
theorem dX6_isIll_10 : decode cX6_isIll 10 = .ok (.iconst 1, 1) := by decide +kernel
theorem dX6_isIll_11 : decode cX6_isIll 11 = .ok (.if_icmp .ne 7, 3) := by decide +kernel
theorem dX6_isIll_14 : decode cX6_isIll 14 = .ok (.iconst 1, 1) := by decide +kernel
theorem dX6_isIll_15 : decode cX6_isIll 15 = .ok (.goto 4, 3) := by decide +kernel
theorem dX6_isIll_18 : decode cX6_isIll 18 = .ok (.iconst 0, 1) := by decide +kernel
theorem dX6_isIll_19 : decode cX6_isIll 19 = .ok (.ireturn, 1) := by decide +kernel
theorem dX6_slipOf_0 : decode cX6_slipOf 0 = .ok (.aload_n 0, 1) := by decide +kernel
theorem dX6_slipOf_1 : decode cX6_slipOf 1 = .ok (.sipush 175, 3) := by decide +kernel
theorem dX6_slipOf_4 : decode cX6_slipOf 4 = .ok (.iconst 4, 1) := by decide +kernel
theorem dX6_slipOf_5 : decode cX6_slipOf 5 = .ok (.iload_n 1, 1) := by decide +kernel
theorem dX6_slipOf_6 : decode cX6_slipOf 6 = .ok (.imul, 1) := by decide +kernel
theorem dX6_slipOf_7 : decode cX6_slipOf 7 = .ok (.iadd, 1) := by decide +kernel
theorem dX6_slipOf_8 : decode cX6_slipOf 8 = .ok (.iload_n 2, 1) := by decide +kernel
theorem dX6_slipOf_9 : decode cX6_slipOf 9 = .ok (.iadd, 1) := by decide +kernel
theorem dX6_slipOf_10 : decode cX6_slipOf 10 = .ok (.iaload, 1) := by decide +kernel
theorem dX6_slipOf_11 : decode cX6_slipOf 11 = .ok (.ireturn, 1) := by decide +kernel
theorem dX6_count_0 : decode cX6_count 0 = .ok (.iconst 0, 1) := by decide +kernel
theorem dX6_count_1 : decode cX6_count 1 = .ok (.istore_n 1, 1) := by decide +kernel
theorem dX6_count_2 : decode cX6_count 2 = .ok (.iconst 0, 1) := by decide +kernel
theorem dX6_count_3 : decode cX6_count 3 = .ok (.istore_n 2, 1) := by decide +kernel
theorem dX6_count_4 : decode cX6_count 4 = .ok (.iload_n 2, 1) := by decide +kernel
theorem dX6_count_5 : decode cX6_count 5 = .ok (.bipush 20, 2) := by decide +kernel
theorem dX6_count_7 : decode cX6_count 7 = .ok (.if_icmp .ge 17, 3) := by decide +kernel
theorem dX6_count_10 : decode cX6_count 10 = .ok (.iload_n 1, 1) := by decide +kernel
theorem dX6_count_11 : decode cX6_count 11 = .ok (.iload_n 0, 1) := by decide +kernel
theorem dX6_count_12 : decode cX6_count 12 = .ok (.iload_n 2, 1) := by decide +kernel
theorem dX6_count_13 : decode cX6_count 13 = .ok (.ishr, 1) := by decide +kernel
theorem dX6_count_14 : decode cX6_count 14 = .ok (.iconst 1, 1) := by decide +kernel
theorem dX6_count_15 : decode cX6_count 15 = .ok (.iand, 1) := by decide +kernel
theorem dX6_count_16 : decode cX6_count 16 = .ok (.iadd, 1) := by decide +kernel
theorem dX6_count_17 : decode cX6_count 17 = .ok (.istore_n 1, 1) := by decide +kernel
theorem dX6_count_18 : decode cX6_count 18 = .ok (.iinc 2 1, 3) := by decide +kernel
theorem dX6_count_21 : decode cX6_count 21 = .ok (.goto (-17), 3) := by decide +kernel
theorem dX6_count_24 : decode cX6_count 24 = .ok (.iload_n 1, 1) := by decide +kernel
theorem dX6_count_25 : decode cX6_count 25 = .ok (.ireturn, 1) := by decide +kernel
theorem dX6_can_0 : decode cX6_can 0 = .ok (.iload_n 2, 1) := by decide +kernel
theorem dX6_can_1 : decode cX6_can 1 = .ok (.iconst (-1), 1) := by decide +kernel
theorem dX6_can_2 : decode cX6_can 2 = .ok (.if_icmp .eq 24, 3) := by decide +kernel
theorem dX6_can_5 : decode cX6_can 5 = .ok (.aload_n 0, 1) := by decide +kernel
theorem dX6_can_6 : decode cX6_can 6 = .ok (.iload_n 2, 1) := by decide +kernel
theorem dX6_can_7 : decode cX6_can 7 = .ok (.iload_n 1, 1) := by decide +kernel
theorem dX6_can_8 : decode cX6_can 8 = .ok (.invokestatic 52, 3) := by decide +kernel
theorem dX6_can_11 : decode cX6_can 11 = .ok (.ifCond .ne 15, 3) := by decide +kernel
theorem dX6_can_14 : decode cX6_can 14 = .ok (.iload_n 3, 1) := by decide +kernel
theorem dX6_can_15 : decode cX6_can 15 = .ok (.iload_n 2, 1) := by decide +kernel
theorem dX6_can_16 : decode cX6_can 16 = .ok (.ishr, 1) := by decide +kernel
theorem dX6_can_17 : decode cX6_can 17 = .ok (.iconst 1, 1) := by decide +kernel
theorem dX6_can_18 : decode cX6_can 18 = .ok (.iand, 1) := by decide +kernel
theorem dX6_can_19 : decode cX6_can 19 = .ok (.ifCond .ne 7, 3) := by decide +kernel
theorem dX6_can_22 : decode cX6_can 22 = .ok (.iconst 1, 1) := by decide +kernel
theorem dX6_can_23 : decode cX6_can 23 = .ok (.goto 4, 3) := by decide +kernel
theorem dX6_can_26 : decode cX6_can 26 = .ok (.iconst 0, 1) := by decide +kernel
theorem dX6_can_27 : decode cX6_can 27 = .ok (.ireturn, 1) := by decide +kernel
theorem dX6_isOtherPrincipal_0 : decode cX6_isOtherPrincipal 0 = .ok (.iconst 0, 1) := by decide +kernel
theorem dX6_isOtherPrincipal_1 : decode cX6_isOtherPrincipal 1 = .ok (.istore 4, 2) := by decide +kernel
theorem dX6_isOtherPrincipal_3 : decode cX6_isOtherPrincipal 3 = .ok (.iload 4, 2) := by decide +kernel
theorem dX6_isOtherPrincipal_5 : decode cX6_isOtherPrincipal 5 = .ok (.aload_n 0, 1) := by decide +kernel
theorem dX6_isOtherPrincipal_6 : decode cX6_isOtherPrincipal 6 = .ok (.iconst 0, 1) := by decide +kernel
theorem dX6_isOtherPrincipal_7 : decode cX6_isOtherPrincipal 7 = .ok (.iaload, 1) := by decide +kernel
theorem dX6_isOtherPrincipal_8 : decode cX6_isOtherPrincipal 8 = .ok (.if_icmp .ge 28, 3) := by decide +kernel
theorem dX6_isOtherPrincipal_11 : decode cX6_isOtherPrincipal 11 = .ok (.iload 4, 2) := by decide +kernel
theorem dX6_isOtherPrincipal_13 : decode cX6_isOtherPrincipal 13 = .ok (.iload_n 2, 1) := by decide +kernel
theorem dX6_isOtherPrincipal_14 : decode cX6_isOtherPrincipal 14 = .ok (.if_icmp .eq 16, 3) := by decide +kernel
theorem dX6_isOtherPrincipal_17 : decode cX6_isOtherPrincipal 17 = .ok (.aload_n 0, 1) := by decide +kernel
theorem dX6_isOtherPrincipal_18 : decode cX6_isOtherPrincipal 18 = .ok (.iload_n 1, 1) := by decide +kernel
theorem dX6_isOtherPrincipal_19 : decode cX6_isOtherPrincipal 19 = .ok (.iload 4, 2) := by decide +kernel
theorem dX6_isOtherPrincipal_21 : decode cX6_isOtherPrincipal 21 = .ok (.invokestatic 56, 3) := by decide +kernel
theorem dX6_isOtherPrincipal_24 : decode cX6_isOtherPrincipal 24 = .ok (.iload_n 3, 1) := by decide +kernel
theorem dX6_isOtherPrincipal_25 : decode cX6_isOtherPrincipal 25 = .ok (.if_icmp .ne 5, 3) := by decide +kernel
theorem dX6_isOtherPrincipal_28 : decode cX6_isOtherPrincipal 28 = .ok (.iconst 1, 1) := by decide +kernel
theorem dX6_isOtherPrincipal_29 : decode cX6_isOtherPrincipal 29 = .ok (.ireturn, 1) := by decide +kernel
theorem dX6_isOtherPrincipal_30 : decode cX6_isOtherPrincipal 30 = .ok (.iinc 4 1, 3) := by decide +kernel
theorem dX6_isOtherPrincipal_33 : decode cX6_isOtherPrincipal 33 = .ok (.goto (-30), 3) := by decide +kernel
theorem dX6_isOtherPrincipal_36 : decode cX6_isOtherPrincipal 36 = .ok (.iconst 0, 1) := by decide +kernel
theorem dX6_isOtherPrincipal_37 : decode cX6_isOtherPrincipal 37 = .ok (.ireturn, 1) := by decide +kernel
theorem dX6_slipFor_0 : decode cX6_slipFor 0 = .ok (.iconst (-1), 1) := by decide +kernel
theorem dX6_slipFor_1 : decode cX6_slipFor 1 = .ok (.istore 4, 2) := by decide +kernel
theorem dX6_slipFor_3 : decode cX6_slipFor 3 = .ok (.iconst 0, 1) := by decide +kernel
theorem dX6_slipFor_4 : decode cX6_slipFor 4 = .ok (.istore 5, 2) := by decide +kernel
theorem dX6_slipFor_6 : decode cX6_slipFor 6 = .ok (.iload 5, 2) := by decide +kernel
theorem dX6_slipFor_8 : decode cX6_slipFor 8 = .ok (.aload_n 0, 1) := by decide +kernel
theorem dX6_slipFor_9 : decode cX6_slipFor 9 = .ok (.iconst 2, 1) := by decide +kernel
theorem dX6_slipFor_10 : decode cX6_slipFor 10 = .ok (.iaload, 1) := by decide +kernel
theorem dX6_slipFor_11 : decode cX6_slipFor 11 = .ok (.if_icmp .ge 91, 3) := by decide +kernel
theorem dX6_slipFor_14 : decode cX6_slipFor 14 = .ok (.aload_n 0, 1) := by decide +kernel
theorem dX6_slipFor_15 : decode cX6_slipFor 15 = .ok (.iload 5, 2) := by decide +kernel
theorem dX6_slipFor_17 : decode cX6_slipFor 17 = .ok (.iconst 0, 1) := by decide +kernel
theorem dX6_slipFor_18 : decode cX6_slipFor 18 = .ok (.invokestatic 60, 3) := by decide +kernel
theorem dX6_slipFor_21 : decode cX6_slipFor 21 = .ok (.iload_n 1, 1) := by decide +kernel
theorem dX6_slipFor_22 : decode cX6_slipFor 22 = .ok (.if_icmp .ne 34, 3) := by decide +kernel
theorem dX6_slipFor_25 : decode cX6_slipFor 25 = .ok (.aload_n 0, 1) := by decide +kernel
theorem dX6_slipFor_26 : decode cX6_slipFor 26 = .ok (.iload 5, 2) := by decide +kernel
theorem dX6_slipFor_28 : decode cX6_slipFor 28 = .ok (.iconst 1, 1) := by decide +kernel
theorem dX6_slipFor_29 : decode cX6_slipFor 29 = .ok (.invokestatic 60, 3) := by decide +kernel
theorem dX6_slipFor_32 : decode cX6_slipFor 32 = .ok (.iload_n 2, 1) := by decide +kernel
theorem dX6_slipFor_33 : decode cX6_slipFor 33 = .ok (.if_icmp .ne 23, 3) := by decide +kernel
theorem dX6_slipFor_36 : decode cX6_slipFor 36 = .ok (.aload_n 0, 1) := by decide +kernel
theorem dX6_slipFor_37 : decode cX6_slipFor 37 = .ok (.iload_n 1, 1) := by decide +kernel
theorem dX6_slipFor_38 : decode cX6_slipFor 38 = .ok (.aload_n 0, 1) := by decide +kernel
theorem dX6_slipFor_39 : decode cX6_slipFor 39 = .ok (.iload 5, 2) := by decide +kernel
theorem dX6_slipFor_41 : decode cX6_slipFor 41 = .ok (.iconst 2, 1) := by decide +kernel
theorem dX6_slipFor_42 : decode cX6_slipFor 42 = .ok (.invokestatic 60, 3) := by decide +kernel
theorem dX6_slipFor_45 : decode cX6_slipFor 45 = .ok (.iload_n 3, 1) := by decide +kernel
theorem dX6_slipFor_46 : decode cX6_slipFor 46 = .ok (.invokestatic 63, 3) := by decide +kernel
theorem dX6_slipFor_49 : decode cX6_slipFor 49 = .ok (.ifCond .eq 7, 3) := by decide +kernel
theorem dX6_slipFor_52 : decode cX6_slipFor 52 = .ok (.iconst 1, 1) := by decide +kernel
theorem dX6_slipFor_53 : decode cX6_slipFor 53 = .ok (.goto 4, 3) := by decide +kernel
theorem dX6_slipFor_56 : decode cX6_slipFor 56 = .ok (.iconst 0, 1) := by decide +kernel
theorem dX6_slipFor_57 : decode cX6_slipFor 57 = .ok (.istore 6, 2) := by decide +kernel
theorem dX6_slipFor_59 : decode cX6_slipFor 59 = .ok (.iload 6, 2) := by decide +kernel
theorem dX6_slipFor_61 : decode cX6_slipFor 61 = .ok (.ifCond .eq 31, 3) := by decide +kernel
theorem dX6_slipFor_64 : decode cX6_slipFor 64 = .ok (.iload 4, 2) := by decide +kernel
theorem dX6_slipFor_66 : decode cX6_slipFor 66 = .ok (.iconst (-1), 1) := by decide +kernel
theorem dX6_slipFor_67 : decode cX6_slipFor 67 = .ok (.if_icmp .eq 20, 3) := by decide +kernel
theorem dX6_slipFor_70 : decode cX6_slipFor 70 = .ok (.aload_n 0, 1) := by decide +kernel
theorem dX6_slipFor_71 : decode cX6_slipFor 71 = .ok (.iload 5, 2) := by decide +kernel
theorem dX6_slipFor_73 : decode cX6_slipFor 73 = .ok (.iconst 3, 1) := by decide +kernel
theorem dX6_slipFor_74 : decode cX6_slipFor 74 = .ok (.invokestatic 60, 3) := by decide +kernel
theorem dX6_slipFor_77 : decode cX6_slipFor 77 = .ok (.aload_n 0, 1) := by decide +kernel
theorem dX6_slipFor_78 : decode cX6_slipFor 78 = .ok (.iload 4, 2) := by decide +kernel
theorem dX6_slipFor_80 : decode cX6_slipFor 80 = .ok (.iconst 3, 1) := by decide +kernel
theorem dX6_slipFor_81 : decode cX6_slipFor 81 = .ok (.invokestatic 60, 3) := by decide +kernel
theorem dX6_slipFor_84 : decode cX6_slipFor 84 = .ok (.if_icmp .lt 8, 3) := by decide +kernel
theorem dX6_slipFor_87 : decode cX6_slipFor 87 = .ok (.iload 5, 2) := by decide +kernel
theorem dX6_slipFor_89 : decode cX6_slipFor 89 = .ok (.goto 5, 3) := by decide +kernel
theorem dX6_slipFor_92 : decode cX6_slipFor 92 = .ok (.iload 4, 2) := by decide +kernel
theorem dX6_slipFor_94 : decode cX6_slipFor 94 = .ok (.istore 4, 2) := by decide +kernel
theorem dX6_slipFor_96 : decode cX6_slipFor 96 = .ok (.iinc 5 1, 3) := by decide +kernel
theorem dX6_slipFor_99 : decode cX6_slipFor 99 = .ok (.goto (-93), 3) := by decide +kernel
theorem dX6_slipFor_102 : decode cX6_slipFor 102 = .ok (.iload 4, 2) := by decide +kernel
theorem dX6_slipFor_104 : decode cX6_slipFor 104 = .ok (.ireturn, 1) := by decide +kernel
theorem dX6_understudyFor_0 : decode cX6_understudyFor 0 = .ok (.iconst 0, 1) := by decide +kernel
theorem dX6_understudyFor_1 : decode cX6_understudyFor 1 = .ok (.istore 4, 2) := by decide +kernel
theorem dX6_understudyFor_3 : decode cX6_understudyFor 3 = .ok (.iload 4, 2) := by decide +kernel
theorem dX6_understudyFor_5 : decode cX6_understudyFor 5 = .ok (.aload_n 0, 1) := by decide +kernel
theorem dX6_understudyFor_6 : decode cX6_understudyFor 6 = .ok (.sipush 145, 3) := by decide +kernel
theorem dX6_understudyFor_9 : decode cX6_understudyFor 9 = .ok (.iconst 5, 1) := by decide +kernel
theorem dX6_understudyFor_10 : decode cX6_understudyFor 10 = .ok (.iload_n 2, 1) := by decide +kernel
theorem dX6_understudyFor_11 : decode cX6_understudyFor 11 = .ok (.imul, 1) := by decide +kernel
theorem dX6_understudyFor_12 : decode cX6_understudyFor 12 = .ok (.iadd, 1) := by decide +kernel
theorem dX6_understudyFor_13 : decode cX6_understudyFor 13 = .ok (.iaload, 1) := by decide +kernel
theorem dX6_understudyFor_14 : decode cX6_understudyFor 14 = .ok (.if_icmp .ge 50, 3) := by decide +kernel
theorem dX6_understudyFor_17 : decode cX6_understudyFor 17 = .ok (.aload_n 0, 1) := by decide +kernel
theorem dX6_understudyFor_18 : decode cX6_understudyFor 18 = .ok (.sipush 145, 3) := by decide +kernel
theorem dX6_understudyFor_21 : decode cX6_understudyFor 21 = .ok (.iconst 5, 1) := by decide +kernel
theorem dX6_understudyFor_22 : decode cX6_understudyFor 22 = .ok (.iload_n 2, 1) := by decide +kernel
theorem dX6_understudyFor_23 : decode cX6_understudyFor 23 = .ok (.imul, 1) := by decide +kernel
theorem dX6_understudyFor_24 : decode cX6_understudyFor 24 = .ok (.iadd, 1) := by decide +kernel
theorem dX6_understudyFor_25 : decode cX6_understudyFor 25 = .ok (.iconst 1, 1) := by decide +kernel
theorem dX6_understudyFor_26 : decode cX6_understudyFor 26 = .ok (.iadd, 1) := by decide +kernel
theorem dX6_understudyFor_27 : decode cX6_understudyFor 27 = .ok (.iload 4, 2) := by decide +kernel
theorem dX6_understudyFor_29 : decode cX6_understudyFor 29 = .ok (.iadd, 1) := by decide +kernel
theorem dX6_understudyFor_30 : decode cX6_understudyFor 30 = .ok (.iaload, 1) := by decide +kernel
theorem dX6_understudyFor_31 : decode cX6_understudyFor 31 = .ok (.istore 5, 2) := by decide +kernel
theorem dX6_understudyFor_33 : decode cX6_understudyFor 33 = .ok (.aload_n 0, 1) := by decide +kernel
theorem dX6_understudyFor_34 : decode cX6_understudyFor 34 = .ok (.iload_n 1, 1) := by decide +kernel
theorem dX6_understudyFor_35 : decode cX6_understudyFor 35 = .ok (.iload 5, 2) := by decide +kernel
theorem dX6_understudyFor_37 : decode cX6_understudyFor 37 = .ok (.iload_n 3, 1) := by decide +kernel
theorem dX6_understudyFor_38 : decode cX6_understudyFor 38 = .ok (.invokestatic 63, 3) := by decide +kernel
theorem dX6_understudyFor_41 : decode cX6_understudyFor 41 = .ok (.ifCond .eq 17, 3) := by decide +kernel
theorem dX6_understudyFor_44 : decode cX6_understudyFor 44 = .ok (.aload_n 0, 1) := by decide +kernel
theorem dX6_understudyFor_45 : decode cX6_understudyFor 45 = .ok (.iload_n 1, 1) := by decide +kernel
theorem dX6_understudyFor_46 : decode cX6_understudyFor 46 = .ok (.iload_n 2, 1) := by decide +kernel
theorem dX6_understudyFor_47 : decode cX6_understudyFor 47 = .ok (.iload 5, 2) := by decide +kernel
theorem dX6_understudyFor_49 : decode cX6_understudyFor 49 = .ok (.invokestatic 67, 3) := by decide +kernel
theorem dX6_understudyFor_52 : decode cX6_understudyFor 52 = .ok (.ifCond .ne 6, 3) := by decide +kernel
theorem dX6_understudyFor_55 : decode cX6_understudyFor 55 = .ok (.iload 5, 2) := by decide +kernel
theorem dX6_understudyFor_57 : decode cX6_understudyFor 57 = .ok (.ireturn, 1) := by decide +kernel
theorem dX6_understudyFor_58 : decode cX6_understudyFor 58 = .ok (.iinc 4 1, 3) := by decide +kernel
theorem dX6_understudyFor_61 : decode cX6_understudyFor 61 = .ok (.goto (-58), 3) := by decide +kernel
theorem dX6_understudyFor_64 : decode cX6_understudyFor 64 = .ok (.iconst (-1), 1) := by decide +kernel
theorem dX6_understudyFor_65 : decode cX6_understudyFor 65 = .ok (.ireturn, 1) := by decide +kernel
theorem dX6_goThrough_0 : decode cX6_goThrough 0 = .ok (.aload_n 1, 1) := by decide +kernel
theorem dX6_goThrough_1 : decode cX6_goThrough 1 = .ok (.iconst 0, 1) := by decide +kernel
theorem dX6_goThrough_2 : decode cX6_goThrough 2 = .ok (.iaload, 1) := by decide +kernel
theorem dX6_goThrough_3 : decode cX6_goThrough 3 = .ok (.ifCond .ne 7, 3) := by decide +kernel
theorem dX6_goThrough_6 : decode cX6_goThrough 6 = .ok (.iconst 1, 1) := by decide +kernel
theorem dX6_goThrough_7 : decode cX6_goThrough 7 = .ok (.goto 4, 3) := by decide +kernel
theorem dX6_goThrough_10 : decode cX6_goThrough 10 = .ok (.iconst 0, 1) := by decide +kernel
theorem dX6_goThrough_11 : decode cX6_goThrough 11 = .ok (.istore_n 3, 1) := by decide +kernel
theorem dX6_goThrough_12 : decode cX6_goThrough 12 = .ok (.iconst 0, 1) := by decide +kernel
theorem dX6_goThrough_13 : decode cX6_goThrough 13 = .ok (.istore 4, 2) := by decide +kernel
theorem dX6_goThrough_15 : decode cX6_goThrough 15 = .ok (.iconst 0, 1) := by decide +kernel
theorem dX6_goThrough_16 : decode cX6_goThrough 16 = .ok (.istore 5, 2) := by decide +kernel
theorem dX6_goThrough_18 : decode cX6_goThrough 18 = .ok (.iload 5, 2) := by decide +kernel
theorem dX6_goThrough_20 : decode cX6_goThrough 20 = .ok (.aload_n 1, 1) := by decide +kernel
theorem dX6_goThrough_21 : decode cX6_goThrough 21 = .ok (.iconst 0, 1) := by decide +kernel
theorem dX6_goThrough_22 : decode cX6_goThrough 22 = .ok (.iaload, 1) := by decide +kernel
theorem dX6_goThrough_23 : decode cX6_goThrough 23 = .ok (.if_icmp .ge 193, 3) := by decide +kernel
theorem dX6_goThrough_26 : decode cX6_goThrough 26 = .ok (.aload_n 0, 1) := by decide +kernel
theorem dX6_goThrough_27 : decode cX6_goThrough 27 = .ok (.getfield 35, 3) := by decide +kernel
theorem dX6_goThrough_30 : decode cX6_goThrough 30 = .ok (.iload 5, 2) := by decide +kernel
theorem dX6_goThrough_32 : decode cX6_goThrough 32 = .ok (.aload_n 1, 1) := by decide +kernel
theorem dX6_goThrough_33 : decode cX6_goThrough 33 = .ok (.iload_n 2, 1) := by decide +kernel
theorem dX6_goThrough_34 : decode cX6_goThrough 34 = .ok (.iload 5, 2) := by decide +kernel
theorem dX6_goThrough_36 : decode cX6_goThrough 36 = .ok (.iload 4, 2) := by decide +kernel
theorem dX6_goThrough_38 : decode cX6_goThrough 38 = .ok (.invokestatic 70, 3) := by decide +kernel
theorem dX6_goThrough_41 : decode cX6_goThrough 41 = .ok (.iastore, 1) := by decide +kernel
theorem dX6_goThrough_42 : decode cX6_goThrough 42 = .ok (.aload_n 1, 1) := by decide +kernel
theorem dX6_goThrough_43 : decode cX6_goThrough 43 = .ok (.iload_n 2, 1) := by decide +kernel
theorem dX6_goThrough_44 : decode cX6_goThrough 44 = .ok (.iload 5, 2) := by decide +kernel
theorem dX6_goThrough_46 : decode cX6_goThrough 46 = .ok (.invokestatic 56, 3) := by decide +kernel
theorem dX6_goThrough_49 : decode cX6_goThrough 49 = .ok (.istore 6, 2) := by decide +kernel
theorem dX6_goThrough_51 : decode cX6_goThrough 51 = .ok (.aload_n 1, 1) := by decide +kernel
theorem dX6_goThrough_52 : decode cX6_goThrough 52 = .ok (.iload_n 2, 1) := by decide +kernel
theorem dX6_goThrough_53 : decode cX6_goThrough 53 = .ok (.iload 6, 2) := by decide +kernel
theorem dX6_goThrough_55 : decode cX6_goThrough 55 = .ok (.iload 4, 2) := by decide +kernel
theorem dX6_goThrough_57 : decode cX6_goThrough 57 = .ok (.invokestatic 63, 3) := by decide +kernel
theorem dX6_goThrough_60 : decode cX6_goThrough 60 = .ok (.istore 7, 2) := by decide +kernel
theorem dX6_goThrough_62 : decode cX6_goThrough 62 = .ok (.aload_n 1, 1) := by decide +kernel
theorem dX6_goThrough_63 : decode cX6_goThrough 63 = .ok (.iload_n 2, 1) := by decide +kernel
theorem dX6_goThrough_64 : decode cX6_goThrough 64 = .ok (.iload 5, 2) := by decide +kernel
theorem dX6_goThrough_66 : decode cX6_goThrough 66 = .ok (.iload 4, 2) := by decide +kernel
theorem dX6_goThrough_68 : decode cX6_goThrough 68 = .ok (.invokestatic 74, 3) := by decide +kernel
theorem dX6_goThrough_71 : decode cX6_goThrough 71 = .ok (.istore 8, 2) := by decide +kernel
theorem dX6_goThrough_73 : decode cX6_goThrough 73 = .ok (.aload_n 0, 1) := by decide +kernel
theorem dX6_goThrough_74 : decode cX6_goThrough 74 = .ok (.getfield 29, 3) := by decide +kernel
theorem dX6_goThrough_77 : decode cX6_goThrough 77 = .ok (.iload 5, 2) := by decide +kernel
theorem dX6_goThrough_79 : decode cX6_goThrough 79 = .ok (.aload_n 0, 1) := by decide +kernel
theorem dX6_goThrough_80 : decode cX6_goThrough 80 = .ok (.getfield 35, 3) := by decide +kernel
theorem dX6_goThrough_83 : decode cX6_goThrough 83 = .ok (.iload 5, 2) := by decide +kernel
theorem dX6_goThrough_85 : decode cX6_goThrough 85 = .ok (.iaload, 1) := by decide +kernel
theorem dX6_goThrough_86 : decode cX6_goThrough 86 = .ok (.iconst (-1), 1) := by decide +kernel
theorem dX6_goThrough_87 : decode cX6_goThrough 87 = .ok (.if_icmp .eq 18, 3) := by decide +kernel
theorem dX6_goThrough_90 : decode cX6_goThrough 90 = .ok (.aload_n 1, 1) := by decide +kernel
theorem dX6_goThrough_91 : decode cX6_goThrough 91 = .ok (.aload_n 0, 1) := by decide +kernel
theorem dX6_goThrough_92 : decode cX6_goThrough 92 = .ok (.getfield 35, 3) := by decide +kernel
theorem dX6_goThrough_95 : decode cX6_goThrough 95 = .ok (.iload 5, 2) := by decide +kernel
theorem dX6_goThrough_97 : decode cX6_goThrough 97 = .ok (.iaload, 1) := by decide +kernel
theorem dX6_goThrough_98 : decode cX6_goThrough 98 = .ok (.iconst 2, 1) := by decide +kernel
theorem dX6_goThrough_99 : decode cX6_goThrough 99 = .ok (.invokestatic 60, 3) := by decide +kernel
theorem dX6_goThrough_102 : decode cX6_goThrough 102 = .ok (.goto 15, 3) := by decide +kernel
theorem dX6_goThrough_105 : decode cX6_goThrough 105 = .ok (.iload 7, 2) := by decide +kernel
theorem dX6_goThrough_107 : decode cX6_goThrough 107 = .ok (.ifCond .eq 8, 3) := by decide +kernel
theorem dX6_goThrough_110 : decode cX6_goThrough 110 = .ok (.iload 6, 2) := by decide +kernel
theorem dX6_goThrough_112 : decode cX6_goThrough 112 = .ok (.goto 5, 3) := by decide +kernel
theorem dX6_goThrough_115 : decode cX6_goThrough 115 = .ok (.iload 8, 2) := by decide +kernel
theorem dX6_goThrough_117 : decode cX6_goThrough 117 = .ok (.iastore, 1) := by decide +kernel
theorem dX6_goThrough_118 : decode cX6_goThrough 118 = .ok (.aload_n 0, 1) := by decide +kernel
theorem dX6_goThrough_119 : decode cX6_goThrough 119 = .ok (.getfield 32, 3) := by decide +kernel
theorem dX6_goThrough_122 : decode cX6_goThrough 122 = .ok (.iload 5, 2) := by decide +kernel
theorem dX6_goThrough_124 : decode cX6_goThrough 124 = .ok (.aload_n 0, 1) := by decide +kernel
theorem dX6_goThrough_125 : decode cX6_goThrough 125 = .ok (.getfield 35, 3) := by decide +kernel
theorem dX6_goThrough_128 : decode cX6_goThrough 128 = .ok (.iload 5, 2) := by decide +kernel
theorem dX6_goThrough_130 : decode cX6_goThrough 130 = .ok (.iaload, 1) := by decide +kernel
theorem dX6_goThrough_131 : decode cX6_goThrough 131 = .ok (.iconst (-1), 1) := by decide +kernel
theorem dX6_goThrough_132 : decode cX6_goThrough 132 = .ok (.if_icmp .eq 7, 3) := by decide +kernel
theorem dX6_goThrough_135 : decode cX6_goThrough 135 = .ok (.iconst 1, 1) := by decide +kernel
theorem dX6_goThrough_136 : decode cX6_goThrough 136 = .ok (.goto 23, 3) := by decide +kernel
theorem dX6_goThrough_139 : decode cX6_goThrough 139 = .ok (.iload 7, 2) := by decide +kernel
theorem dX6_goThrough_141 : decode cX6_goThrough 141 = .ok (.ifCond .eq 7, 3) := by decide +kernel
theorem dX6_goThrough_144 : decode cX6_goThrough 144 = .ok (.iconst 2, 1) := by decide +kernel
theorem dX6_goThrough_145 : decode cX6_goThrough 145 = .ok (.goto 14, 3) := by decide +kernel
theorem dX6_goThrough_148 : decode cX6_goThrough 148 = .ok (.iload 8, 2) := by decide +kernel
theorem dX6_goThrough_150 : decode cX6_goThrough 150 = .ok (.iconst (-1), 1) := by decide +kernel
theorem dX6_goThrough_151 : decode cX6_goThrough 151 = .ok (.if_icmp .eq 7, 3) := by decide +kernel
theorem dX6_goThrough_154 : decode cX6_goThrough 154 = .ok (.iconst 3, 1) := by decide +kernel
theorem dX6_goThrough_155 : decode cX6_goThrough 155 = .ok (.goto 4, 3) := by decide +kernel
theorem dX6_goThrough_158 : decode cX6_goThrough 158 = .ok (.iconst 0, 1) := by decide +kernel
theorem dX6_goThrough_159 : decode cX6_goThrough 159 = .ok (.iastore, 1) := by decide +kernel
theorem dX6_goThrough_160 : decode cX6_goThrough 160 = .ok (.iload_n 3, 1) := by decide +kernel
theorem dX6_goThrough_161 : decode cX6_goThrough 161 = .ok (.ifCond .ne 14, 3) := by decide +kernel
theorem dX6_goThrough_164 : decode cX6_goThrough 164 = .ok (.aload_n 0, 1) := by decide +kernel
theorem dX6_goThrough_165 : decode cX6_goThrough 165 = .ok (.getfield 29, 3) := by decide +kernel
theorem dX6_goThrough_168 : decode cX6_goThrough 168 = .ok (.iload 5, 2) := by decide +kernel
theorem dX6_goThrough_170 : decode cX6_goThrough 170 = .ok (.iaload, 1) := by decide +kernel
theorem dX6_goThrough_171 : decode cX6_goThrough 171 = .ok (.iconst (-1), 1) := by decide +kernel
theorem dX6_goThrough_172 : decode cX6_goThrough 172 = .ok (.if_icmp .ne 7, 3) := by decide +kernel
theorem dX6_goThrough_175 : decode cX6_goThrough 175 = .ok (.iconst 1, 1) := by decide +kernel
theorem dX6_goThrough_176 : decode cX6_goThrough 176 = .ok (.goto 4, 3) := by decide +kernel
theorem dX6_goThrough_179 : decode cX6_goThrough 179 = .ok (.iconst 0, 1) := by decide +kernel
theorem dX6_goThrough_180 : decode cX6_goThrough 180 = .ok (.istore_n 3, 1) := by decide +kernel
theorem dX6_goThrough_181 : decode cX6_goThrough 181 = .ok (.iload 4, 2) := by decide +kernel
theorem dX6_goThrough_183 : decode cX6_goThrough 183 = .ok (.aload_n 0, 1) := by decide +kernel
theorem dX6_goThrough_184 : decode cX6_goThrough 184 = .ok (.getfield 29, 3) := by decide +kernel
theorem dX6_goThrough_187 : decode cX6_goThrough 187 = .ok (.iload 5, 2) := by decide +kernel
theorem dX6_goThrough_189 : decode cX6_goThrough 189 = .ok (.iaload, 1) := by decide +kernel
theorem dX6_goThrough_190 : decode cX6_goThrough 190 = .ok (.iconst (-1), 1) := by decide +kernel
theorem dX6_goThrough_191 : decode cX6_goThrough 191 = .ok (.if_icmp .ne 7, 3) := by decide +kernel
theorem dX6_goThrough_194 : decode cX6_goThrough 194 = .ok (.iconst 0, 1) := by decide +kernel
theorem dX6_goThrough_195 : decode cX6_goThrough 195 = .ok (.goto 12, 3) := by decide +kernel
theorem dX6_goThrough_198 : decode cX6_goThrough 198 = .ok (.iconst 1, 1) := by decide +kernel
theorem dX6_goThrough_199 : decode cX6_goThrough 199 = .ok (.aload_n 0, 1) := by decide +kernel
theorem dX6_goThrough_200 : decode cX6_goThrough 200 = .ok (.getfield 29, 3) := by decide +kernel
theorem dX6_goThrough_203 : decode cX6_goThrough 203 = .ok (.iload 5, 2) := by decide +kernel
theorem dX6_goThrough_205 : decode cX6_goThrough 205 = .ok (.iaload, 1) := by decide +kernel
theorem dX6_goThrough_206 : decode cX6_goThrough 206 = .ok (.ishl, 1) := by decide +kernel
theorem dX6_goThrough_207 : decode cX6_goThrough 207 = .ok (.ior, 1) := by decide +kernel
theorem dX6_goThrough_208 : decode cX6_goThrough 208 = .ok (.istore 4, 2) := by decide +kernel
theorem dX6_goThrough_210 : decode cX6_goThrough 210 = .ok (.iinc 5 1, 3) := by decide +kernel
theorem dX6_goThrough_213 : decode cX6_goThrough 213 = .ok (.goto (-195), 3) := by decide +kernel
theorem dX6_goThrough_216 : decode cX6_goThrough 216 = .ok (.iload_n 3, 1) := by decide +kernel
theorem dX6_goThrough_217 : decode cX6_goThrough 217 = .ok (.ireturn, 1) := by decide +kernel
theorem dX6_takings_0 : decode cX6_takings 0 = .ok (.aload_n 0, 1) := by decide +kernel
theorem dX6_takings_1 : decode cX6_takings 1 = .ok (.aload_n 1, 1) := by decide +kernel
theorem dX6_takings_2 : decode cX6_takings 2 = .ok (.iload_n 2, 1) := by decide +kernel
theorem dX6_takings_3 : decode cX6_takings 3 = .ok (.invokevirtual 77, 3) := by decide +kernel
theorem dX6_takings_6 : decode cX6_takings 6 = .ok (.ifCond .eq 5, 3) := by decide +kernel
theorem dX6_takings_9 : decode cX6_takings 9 = .ok (.iconst 0, 1) := by decide +kernel
theorem dX6_takings_10 : decode cX6_takings 10 = .ok (.ireturn, 1) := by decide +kernel
theorem dX6_takings_11 : decode cX6_takings 11 = .ok (.aload_n 1, 1) := by decide +kernel
theorem dX6_takings_12 : decode cX6_takings 12 = .ok (.iconst 3, 1) := by decide +kernel
theorem dX6_takings_13 : decode cX6_takings 13 = .ok (.iaload, 1) := by decide +kernel
theorem dX6_takings_14 : decode cX6_takings 14 = .ok (.istore_n 3, 1) := by decide +kernel
theorem dX6_takings_15 : decode cX6_takings 15 = .ok (.iconst 0, 1) := by decide +kernel
theorem dX6_takings_16 : decode cX6_takings 16 = .ok (.istore 4, 2) := by decide +kernel
theorem dX6_takings_18 : decode cX6_takings 18 = .ok (.iload 4, 2) := by decide +kernel
theorem dX6_takings_20 : decode cX6_takings 20 = .ok (.aload_n 1, 1) := by decide +kernel
theorem dX6_takings_21 : decode cX6_takings 21 = .ok (.iconst 0, 1) := by decide +kernel
theorem dX6_takings_22 : decode cX6_takings 22 = .ok (.iaload, 1) := by decide +kernel
theorem dX6_takings_23 : decode cX6_takings 23 = .ok (.if_icmp .ge 27, 3) := by decide +kernel
theorem dX6_takings_26 : decode cX6_takings 26 = .ok (.iload_n 3, 1) := by decide +kernel
theorem dX6_takings_27 : decode cX6_takings 27 = .ok (.aload_n 1, 1) := by decide +kernel
theorem dX6_takings_28 : decode cX6_takings 28 = .ok (.iconst 4, 1) := by decide +kernel
theorem dX6_takings_29 : decode cX6_takings 29 = .ok (.iaload, 1) := by decide +kernel
theorem dX6_takings_30 : decode cX6_takings 30 = .ok (.aload_n 1, 1) := by decide +kernel
theorem dX6_takings_31 : decode cX6_takings 31 = .ok (.iconst 5, 1) := by decide +kernel
theorem dX6_takings_32 : decode cX6_takings 32 = .ok (.aload_n 0, 1) := by decide +kernel
theorem dX6_takings_33 : decode cX6_takings 33 = .ok (.getfield 29, 3) := by decide +kernel
theorem dX6_takings_36 : decode cX6_takings 36 = .ok (.iload 4, 2) := by decide +kernel
theorem dX6_takings_38 : decode cX6_takings 38 = .ok (.iaload, 1) := by decide +kernel
theorem dX6_takings_39 : decode cX6_takings 39 = .ok (.iadd, 1) := by decide +kernel
theorem dX6_takings_40 : decode cX6_takings 40 = .ok (.iaload, 1) := by decide +kernel
theorem dX6_takings_41 : decode cX6_takings 41 = .ok (.imul, 1) := by decide +kernel
theorem dX6_takings_42 : decode cX6_takings 42 = .ok (.iadd, 1) := by decide +kernel
theorem dX6_takings_43 : decode cX6_takings 43 = .ok (.istore_n 3, 1) := by decide +kernel
theorem dX6_takings_44 : decode cX6_takings 44 = .ok (.iinc 4 1, 3) := by decide +kernel
theorem dX6_takings_47 : decode cX6_takings 47 = .ok (.goto (-29), 3) := by decide +kernel
theorem dX6_takings_50 : decode cX6_takings 50 = .ok (.iload_n 3, 1) := by decide +kernel
theorem dX6_takings_51 : decode cX6_takings 51 = .ok (.ireturn, 1) := by decide +kernel
theorem dX6_dark_0 : decode cX6_dark 0 = .ok (.iconst 0, 1) := by decide +kernel
theorem dX6_dark_1 : decode cX6_dark 1 = .ok (.istore_n 2, 1) := by decide +kernel
theorem dX6_dark_2 : decode cX6_dark 2 = .ok (.iconst 0, 1) := by decide +kernel
theorem dX6_dark_3 : decode cX6_dark 3 = .ok (.istore_n 3, 1) := by decide +kernel
theorem dX6_dark_4 : decode cX6_dark 4 = .ok (.iload_n 3, 1) := by decide +kernel
theorem dX6_dark_5 : decode cX6_dark 5 = .ok (.bipush 20, 2) := by decide +kernel
theorem dX6_dark_7 : decode cX6_dark 7 = .ok (.if_icmp .ge 26, 3) := by decide +kernel
theorem dX6_dark_10 : decode cX6_dark 10 = .ok (.iload_n 2, 1) := by decide +kernel
theorem dX6_dark_11 : decode cX6_dark 11 = .ok (.aload_n 0, 1) := by decide +kernel
theorem dX6_dark_12 : decode cX6_dark 12 = .ok (.aload_n 1, 1) := by decide +kernel
theorem dX6_dark_13 : decode cX6_dark 13 = .ok (.iload_n 3, 1) := by decide +kernel
theorem dX6_dark_14 : decode cX6_dark 14 = .ok (.invokevirtual 77, 3) := by decide +kernel
theorem dX6_dark_17 : decode cX6_dark 17 = .ok (.ifCond .eq 7, 3) := by decide +kernel
theorem dX6_dark_20 : decode cX6_dark 20 = .ok (.iconst 1, 1) := by decide +kernel
theorem dX6_dark_21 : decode cX6_dark 21 = .ok (.goto 4, 3) := by decide +kernel
theorem dX6_dark_24 : decode cX6_dark 24 = .ok (.iconst 0, 1) := by decide +kernel
theorem dX6_dark_25 : decode cX6_dark 25 = .ok (.iadd, 1) := by decide +kernel
theorem dX6_dark_26 : decode cX6_dark 26 = .ok (.istore_n 2, 1) := by decide +kernel
theorem dX6_dark_27 : decode cX6_dark 27 = .ok (.iinc 3 1, 3) := by decide +kernel
theorem dX6_dark_30 : decode cX6_dark 30 = .ok (.goto (-26), 3) := by decide +kernel
theorem dX6_dark_33 : decode cX6_dark 33 = .ok (.iload_n 2, 1) := by decide +kernel
theorem dX6_dark_34 : decode cX6_dark 34 = .ok (.ireturn, 1) := by decide +kernel
theorem dX6_allTakings_0 : decode cX6_allTakings 0 = .ok (.iconst 0, 1) := by decide +kernel
theorem dX6_allTakings_1 : decode cX6_allTakings 1 = .ok (.istore_n 2, 1) := by decide +kernel
theorem dX6_allTakings_2 : decode cX6_allTakings 2 = .ok (.iconst 0, 1) := by decide +kernel
theorem dX6_allTakings_3 : decode cX6_allTakings 3 = .ok (.istore_n 3, 1) := by decide +kernel
theorem dX6_allTakings_4 : decode cX6_allTakings 4 = .ok (.iload_n 3, 1) := by decide +kernel
theorem dX6_allTakings_5 : decode cX6_allTakings 5 = .ok (.bipush 20, 2) := by decide +kernel
theorem dX6_allTakings_7 : decode cX6_allTakings 7 = .ok (.if_icmp .ge 18, 3) := by decide +kernel
theorem dX6_allTakings_10 : decode cX6_allTakings 10 = .ok (.iload_n 2, 1) := by decide +kernel
theorem dX6_allTakings_11 : decode cX6_allTakings 11 = .ok (.aload_n 0, 1) := by decide +kernel
theorem dX6_allTakings_12 : decode cX6_allTakings 12 = .ok (.aload_n 1, 1) := by decide +kernel
theorem dX6_allTakings_13 : decode cX6_allTakings 13 = .ok (.iload_n 3, 1) := by decide +kernel
theorem dX6_allTakings_14 : decode cX6_allTakings 14 = .ok (.invokevirtual 81, 3) := by decide +kernel
theorem dX6_allTakings_17 : decode cX6_allTakings 17 = .ok (.iadd, 1) := by decide +kernel
theorem dX6_allTakings_18 : decode cX6_allTakings 18 = .ok (.istore_n 2, 1) := by decide +kernel
theorem dX6_allTakings_19 : decode cX6_allTakings 19 = .ok (.iinc 3 1, 3) := by decide +kernel
theorem dX6_allTakings_22 : decode cX6_allTakings 22 = .ok (.goto (-18), 3) := by decide +kernel
theorem dX6_allTakings_25 : decode cX6_allTakings 25 = .ok (.iload_n 2, 1) := by decide +kernel
theorem dX6_allTakings_26 : decode cX6_allTakings 26 = .ok (.ireturn, 1) := by decide +kernel
theorem dX6_plays_0 : decode cX6_plays 0 = .ok (.aload_n 0, 1) := by decide +kernel
theorem dX6_plays_1 : decode cX6_plays 1 = .ok (.aload_n 1, 1) := by decide +kernel
theorem dX6_plays_2 : decode cX6_plays 2 = .ok (.iload_n 2, 1) := by decide +kernel
theorem dX6_plays_3 : decode cX6_plays 3 = .ok (.invokevirtual 77, 3) := by decide +kernel
theorem dX6_plays_6 : decode cX6_plays 6 = .ok (.ifCond .eq 5, 3) := by decide +kernel
theorem dX6_plays_9 : decode cX6_plays 9 = .ok (.iconst (-1), 1) := by decide +kernel
theorem dX6_plays_10 : decode cX6_plays 10 = .ok (.ireturn, 1) := by decide +kernel
theorem dX6_plays_11 : decode cX6_plays 11 = .ok (.iconst 0, 1) := by decide +kernel
theorem dX6_plays_12 : decode cX6_plays 12 = .ok (.istore 4, 2) := by decide +kernel
theorem dX6_plays_14 : decode cX6_plays 14 = .ok (.iload 4, 2) := by decide +kernel
theorem dX6_plays_16 : decode cX6_plays 16 = .ok (.aload_n 1, 1) := by decide +kernel
theorem dX6_plays_17 : decode cX6_plays 17 = .ok (.iconst 0, 1) := by decide +kernel
theorem dX6_plays_18 : decode cX6_plays 18 = .ok (.iaload, 1) := by decide +kernel
theorem dX6_plays_19 : decode cX6_plays 19 = .ok (.if_icmp .ge 23, 3) := by decide +kernel
theorem dX6_plays_22 : decode cX6_plays 22 = .ok (.aload_n 0, 1) := by decide +kernel
theorem dX6_plays_23 : decode cX6_plays 23 = .ok (.getfield 29, 3) := by decide +kernel
theorem dX6_plays_26 : decode cX6_plays 26 = .ok (.iload 4, 2) := by decide +kernel
theorem dX6_plays_28 : decode cX6_plays 28 = .ok (.iaload, 1) := by decide +kernel
theorem dX6_plays_29 : decode cX6_plays 29 = .ok (.iload_n 3, 1) := by decide +kernel
theorem dX6_plays_30 : decode cX6_plays 30 = .ok (.if_icmp .ne 6, 3) := by decide +kernel
theorem dX6_plays_33 : decode cX6_plays 33 = .ok (.iload 4, 2) := by decide +kernel
theorem dX6_plays_35 : decode cX6_plays 35 = .ok (.ireturn, 1) := by decide +kernel
theorem dX6_plays_36 : decode cX6_plays 36 = .ok (.iinc 4 1, 3) := by decide +kernel
theorem dX6_plays_39 : decode cX6_plays 39 = .ok (.goto (-25), 3) := by decide +kernel
theorem dX6_plays_42 : decode cX6_plays 42 = .ok (.iconst (-1), 1) := by decide +kernel
theorem dX6_plays_43 : decode cX6_plays 43 = .ok (.ireturn, 1) := by decide +kernel
theorem dX6_billOf_0 : decode cX6_billOf 0 = .ok (.aload_n 0, 1) := by decide +kernel
theorem dX6_billOf_1 : decode cX6_billOf 1 = .ok (.aload_n 1, 1) := by decide +kernel
theorem dX6_billOf_2 : decode cX6_billOf 2 = .ok (.iload_n 2, 1) := by decide +kernel
theorem dX6_billOf_3 : decode cX6_billOf 3 = .ok (.invokevirtual 77, 3) := by decide +kernel
theorem dX6_billOf_6 : decode cX6_billOf 6 = .ok (.ifCond .eq 7, 3) := by decide +kernel
theorem dX6_billOf_9 : decode cX6_billOf 9 = .ok (.ldc2_w 85, 3) := by decide +kernel
theorem dX6_billOf_12 : decode cX6_billOf 12 = .ok (.lreturn, 1) := by decide +kernel
theorem dX6_billOf_13 : decode cX6_billOf 13 = .ok (.lconst 0, 1) := by decide +kernel
theorem dX6_billOf_14 : decode cX6_billOf 14 = .ok (.lstore_n 3, 1) := by decide +kernel
theorem dX6_billOf_15 : decode cX6_billOf 15 = .ok (.iconst 0, 1) := by decide +kernel
theorem dX6_billOf_16 : decode cX6_billOf 16 = .ok (.istore 5, 2) := by decide +kernel
theorem dX6_billOf_18 : decode cX6_billOf 18 = .ok (.iload 5, 2) := by decide +kernel
theorem dX6_billOf_20 : decode cX6_billOf 20 = .ok (.aload_n 1, 1) := by decide +kernel
theorem dX6_billOf_21 : decode cX6_billOf 21 = .ok (.iconst 0, 1) := by decide +kernel
theorem dX6_billOf_22 : decode cX6_billOf 22 = .ok (.iaload, 1) := by decide +kernel
theorem dX6_billOf_23 : decode cX6_billOf 23 = .ok (.if_icmp .ge 24, 3) := by decide +kernel
theorem dX6_billOf_26 : decode cX6_billOf 26 = .ok (.ldc2_w 87, 3) := by decide +kernel
theorem dX6_billOf_29 : decode cX6_billOf 29 = .ok (.lload_n 3, 1) := by decide +kernel
theorem dX6_billOf_30 : decode cX6_billOf 30 = .ok (.lmul, 1) := by decide +kernel
theorem dX6_billOf_31 : decode cX6_billOf 31 = .ok (.aload_n 0, 1) := by decide +kernel
theorem dX6_billOf_32 : decode cX6_billOf 32 = .ok (.getfield 29, 3) := by decide +kernel
theorem dX6_billOf_35 : decode cX6_billOf 35 = .ok (.iload 5, 2) := by decide +kernel
theorem dX6_billOf_37 : decode cX6_billOf 37 = .ok (.iaload, 1) := by decide +kernel
theorem dX6_billOf_38 : decode cX6_billOf 38 = .ok (.i2l, 1) := by decide +kernel
theorem dX6_billOf_39 : decode cX6_billOf 39 = .ok (.ladd, 1) := by decide +kernel
theorem dX6_billOf_40 : decode cX6_billOf 40 = .ok (.lstore_n 3, 1) := by decide +kernel
theorem dX6_billOf_41 : decode cX6_billOf 41 = .ok (.iinc 5 1, 3) := by decide +kernel
theorem dX6_billOf_44 : decode cX6_billOf 44 = .ok (.goto (-26), 3) := by decide +kernel
theorem dX6_billOf_47 : decode cX6_billOf 47 = .ok (.lload_n 3, 1) := by decide +kernel
theorem dX6_billOf_48 : decode cX6_billOf 48 = .ok (.lreturn, 1) := by decide +kernel
theorem dX6_unlike_0 : decode cX6_unlike 0 = .ok (.iconst 0, 1) := by decide +kernel
theorem dX6_unlike_1 : decode cX6_unlike 1 = .ok (.istore_n 1, 1) := by decide +kernel
theorem dX6_unlike_2 : decode cX6_unlike 2 = .ok (.iconst 0, 1) := by decide +kernel
theorem dX6_unlike_3 : decode cX6_unlike 3 = .ok (.istore_n 2, 1) := by decide +kernel
theorem dX6_unlike_4 : decode cX6_unlike 4 = .ok (.iload_n 2, 1) := by decide +kernel
theorem dX6_unlike_5 : decode cX6_unlike 5 = .ok (.bipush 20, 2) := by decide +kernel
theorem dX6_unlike_7 : decode cX6_unlike 7 = .ok (.if_icmp .ge 87, 3) := by decide +kernel
theorem dX6_unlike_10 : decode cX6_unlike 10 = .ok (.aload_n 0, 1) := by decide +kernel
theorem dX6_unlike_11 : decode cX6_unlike 11 = .ok (.aload_n 0, 1) := by decide +kernel
theorem dX6_unlike_12 : decode cX6_unlike 12 = .ok (.getfield 13, 3) := by decide +kernel
theorem dX6_unlike_15 : decode cX6_unlike 15 = .ok (.iload_n 2, 1) := by decide +kernel
theorem dX6_unlike_16 : decode cX6_unlike 16 = .ok (.invokevirtual 89, 3) := by decide +kernel
theorem dX6_unlike_19 : decode cX6_unlike 19 = .ok (.lstore_n 3, 1) := by decide +kernel
theorem dX6_unlike_20 : decode cX6_unlike 20 = .ok (.lload_n 3, 1) := by decide +kernel
theorem dX6_unlike_21 : decode cX6_unlike 21 = .ok (.lconst 0, 1) := by decide +kernel
theorem dX6_unlike_22 : decode cX6_unlike 22 = .ok (.lcmp, 1) := by decide +kernel
theorem dX6_unlike_23 : decode cX6_unlike 23 = .ok (.ifCond .lt 7, 3) := by decide +kernel
theorem dX6_unlike_26 : decode cX6_unlike 26 = .ok (.iconst 1, 1) := by decide +kernel
theorem dX6_unlike_27 : decode cX6_unlike 27 = .ok (.goto 4, 3) := by decide +kernel
theorem dX6_unlike_30 : decode cX6_unlike 30 = .ok (.iconst 0, 1) := by decide +kernel
theorem dX6_unlike_31 : decode cX6_unlike 31 = .ok (.istore 5, 2) := by decide +kernel
theorem dX6_unlike_33 : decode cX6_unlike 33 = .ok (.iconst 0, 1) := by decide +kernel
theorem dX6_unlike_34 : decode cX6_unlike 34 = .ok (.istore 6, 2) := by decide +kernel
theorem dX6_unlike_36 : decode cX6_unlike 36 = .ok (.iload 6, 2) := by decide +kernel
theorem dX6_unlike_38 : decode cX6_unlike 38 = .ok (.iload_n 2, 1) := by decide +kernel
theorem dX6_unlike_39 : decode cX6_unlike 39 = .ok (.if_icmp .ge 36, 3) := by decide +kernel
theorem dX6_unlike_42 : decode cX6_unlike 42 = .ok (.iload 5, 2) := by decide +kernel
theorem dX6_unlike_44 : decode cX6_unlike 44 = .ok (.ifCond .eq 22, 3) := by decide +kernel
theorem dX6_unlike_47 : decode cX6_unlike 47 = .ok (.aload_n 0, 1) := by decide +kernel
theorem dX6_unlike_48 : decode cX6_unlike 48 = .ok (.aload_n 0, 1) := by decide +kernel
theorem dX6_unlike_49 : decode cX6_unlike 49 = .ok (.getfield 13, 3) := by decide +kernel
theorem dX6_unlike_52 : decode cX6_unlike 52 = .ok (.iload 6, 2) := by decide +kernel
theorem dX6_unlike_54 : decode cX6_unlike 54 = .ok (.invokevirtual 89, 3) := by decide +kernel
theorem dX6_unlike_57 : decode cX6_unlike 57 = .ok (.lload_n 3, 1) := by decide +kernel
theorem dX6_unlike_58 : decode cX6_unlike 58 = .ok (.lcmp, 1) := by decide +kernel
theorem dX6_unlike_59 : decode cX6_unlike 59 = .ok (.ifCond .eq 7, 3) := by decide +kernel
theorem dX6_unlike_62 : decode cX6_unlike 62 = .ok (.iconst 1, 1) := by decide +kernel
theorem dX6_unlike_63 : decode cX6_unlike 63 = .ok (.goto 4, 3) := by decide +kernel
theorem dX6_unlike_66 : decode cX6_unlike 66 = .ok (.iconst 0, 1) := by decide +kernel
theorem dX6_unlike_67 : decode cX6_unlike 67 = .ok (.istore 5, 2) := by decide +kernel
theorem dX6_unlike_69 : decode cX6_unlike 69 = .ok (.iinc 6 1, 3) := by decide +kernel
theorem dX6_unlike_72 : decode cX6_unlike 72 = .ok (.goto (-36), 3) := by decide +kernel
theorem dX6_unlike_75 : decode cX6_unlike 75 = .ok (.iload_n 1, 1) := by decide +kernel
theorem dX6_unlike_76 : decode cX6_unlike 76 = .ok (.iload 5, 2) := by decide +kernel
theorem dX6_unlike_78 : decode cX6_unlike 78 = .ok (.ifCond .eq 7, 3) := by decide +kernel
theorem dX6_unlike_81 : decode cX6_unlike 81 = .ok (.iconst 1, 1) := by decide +kernel
theorem dX6_unlike_82 : decode cX6_unlike 82 = .ok (.goto 4, 3) := by decide +kernel
theorem dX6_unlike_85 : decode cX6_unlike 85 = .ok (.iconst 0, 1) := by decide +kernel
theorem dX6_unlike_86 : decode cX6_unlike 86 = .ok (.iadd, 1) := by decide +kernel
theorem dX6_unlike_87 : decode cX6_unlike 87 = .ok (.istore_n 1, 1) := by decide +kernel
theorem dX6_unlike_88 : decode cX6_unlike 88 = .ok (.iinc 2 1, 3) := by decide +kernel
theorem dX6_unlike_91 : decode cX6_unlike 91 = .ok (.goto (-87), 3) := by decide +kernel
theorem dX6_unlike_94 : decode cX6_unlike 94 = .ok (.iload_n 1, 1) := by decide +kernel
theorem dX6_unlike_95 : decode cX6_unlike 95 = .ok (.ireturn, 1) := by decide +kernel
theorem dX6_isUsed_0 : decode cX6_isUsed 0 = .ok (.aload_n 0, 1) := by decide +kernel
theorem dX6_isUsed_1 : decode cX6_isUsed 1 = .ok (.aload_n 0, 1) := by decide +kernel
theorem dX6_isUsed_2 : decode cX6_isUsed 2 = .ok (.getfield 13, 3) := by decide +kernel
theorem dX6_isUsed_5 : decode cX6_isUsed 5 = .ok (.aload_n 0, 1) := by decide +kernel
theorem dX6_isUsed_6 : decode cX6_isUsed 6 = .ok (.getfield 13, 3) := by decide +kernel
theorem dX6_isUsed_9 : decode cX6_isUsed 9 = .ok (.iload_n 1, 1) := by decide +kernel
theorem dX6_isUsed_10 : decode cX6_isUsed 10 = .ok (.iconst 0, 1) := by decide +kernel
theorem dX6_isUsed_11 : decode cX6_isUsed 11 = .ok (.invokestatic 60, 3) := by decide +kernel
theorem dX6_isUsed_14 : decode cX6_isUsed 14 = .ok (.invokevirtual 77, 3) := by decide +kernel
theorem dX6_isUsed_17 : decode cX6_isUsed 17 = .ok (.ifCond .ne 25, 3) := by decide +kernel
theorem dX6_isUsed_20 : decode cX6_isUsed 20 = .ok (.aload_n 0, 1) := by decide +kernel
theorem dX6_isUsed_21 : decode cX6_isUsed 21 = .ok (.getfield 35, 3) := by decide +kernel
theorem dX6_isUsed_24 : decode cX6_isUsed 24 = .ok (.aload_n 0, 1) := by decide +kernel
theorem dX6_isUsed_25 : decode cX6_isUsed 25 = .ok (.getfield 13, 3) := by decide +kernel
theorem dX6_isUsed_28 : decode cX6_isUsed 28 = .ok (.iload_n 1, 1) := by decide +kernel
theorem dX6_isUsed_29 : decode cX6_isUsed 29 = .ok (.iconst 1, 1) := by decide +kernel
theorem dX6_isUsed_30 : decode cX6_isUsed 30 = .ok (.invokestatic 60, 3) := by decide +kernel
theorem dX6_isUsed_33 : decode cX6_isUsed 33 = .ok (.iaload, 1) := by decide +kernel
theorem dX6_isUsed_34 : decode cX6_isUsed 34 = .ok (.iload_n 1, 1) := by decide +kernel
theorem dX6_isUsed_35 : decode cX6_isUsed 35 = .ok (.if_icmp .ne 7, 3) := by decide +kernel
theorem dX6_isUsed_38 : decode cX6_isUsed 38 = .ok (.iconst 1, 1) := by decide +kernel
theorem dX6_isUsed_39 : decode cX6_isUsed 39 = .ok (.goto 4, 3) := by decide +kernel
theorem dX6_isUsed_42 : decode cX6_isUsed 42 = .ok (.iconst 0, 1) := by decide +kernel
theorem dX6_isUsed_43 : decode cX6_isUsed 43 = .ok (.ireturn, 1) := by decide +kernel
theorem dX6_castOn_0 : decode cX6_castOn 0 = .ok (.aload_n 0, 1) := by decide +kernel
theorem dX6_castOn_1 : decode cX6_castOn 1 = .ok (.iload_n 3, 1) := by decide +kernel
theorem dX6_castOn_2 : decode cX6_castOn 2 = .ok (.iload_n 1, 1) := by decide +kernel
theorem dX6_castOn_3 : decode cX6_castOn 3 = .ok (.invokestatic 56, 3) := by decide +kernel
theorem dX6_castOn_6 : decode cX6_castOn 6 = .ok (.istore 4, 2) := by decide +kernel
theorem dX6_castOn_8 : decode cX6_castOn 8 = .ok (.iload_n 3, 1) := by decide +kernel
theorem dX6_castOn_9 : decode cX6_castOn 9 = .ok (.istore 5, 2) := by decide +kernel
theorem dX6_castOn_11 : decode cX6_castOn 11 = .ok (.iload 5, 2) := by decide +kernel
theorem dX6_castOn_13 : decode cX6_castOn 13 = .ok (.bipush 20, 2) := by decide +kernel
theorem dX6_castOn_15 : decode cX6_castOn 15 = .ok (.if_icmp .ge 22, 3) := by decide +kernel
theorem dX6_castOn_18 : decode cX6_castOn 18 = .ok (.aload_n 0, 1) := by decide +kernel
theorem dX6_castOn_19 : decode cX6_castOn 19 = .ok (.bipush 25, 2) := by decide +kernel
theorem dX6_castOn_21 : decode cX6_castOn 21 = .ok (.bipush 20, 2) := by decide +kernel
theorem dX6_castOn_23 : decode cX6_castOn 23 = .ok (.iload_n 1, 1) := by decide +kernel
theorem dX6_castOn_24 : decode cX6_castOn 24 = .ok (.imul, 1) := by decide +kernel
theorem dX6_castOn_25 : decode cX6_castOn 25 = .ok (.iadd, 1) := by decide +kernel
theorem dX6_castOn_26 : decode cX6_castOn 26 = .ok (.iload 5, 2) := by decide +kernel
theorem dX6_castOn_28 : decode cX6_castOn 28 = .ok (.iadd, 1) := by decide +kernel
theorem dX6_castOn_29 : decode cX6_castOn 29 = .ok (.iload_n 2, 1) := by decide +kernel
theorem dX6_castOn_30 : decode cX6_castOn 30 = .ok (.iastore, 1) := by decide +kernel
theorem dX6_castOn_31 : decode cX6_castOn 31 = .ok (.iinc 5 1, 3) := by decide +kernel
theorem dX6_castOn_34 : decode cX6_castOn 34 = .ok (.goto (-23), 3) := by decide +kernel
theorem dX6_castOn_37 : decode cX6_castOn 37 = .ok (.iload 4, 2) := by decide +kernel
theorem dX6_castOn_39 : decode cX6_castOn 39 = .ok (.ireturn, 1) := by decide +kernel
theorem dX6_rankOf_0 : decode cX6_rankOf 0 = .ok (.iconst 0, 1) := by decide +kernel
theorem dX6_rankOf_1 : decode cX6_rankOf 1 = .ok (.istore_n 3, 1) := by decide +kernel
theorem dX6_rankOf_2 : decode cX6_rankOf 2 = .ok (.iload_n 3, 1) := by decide +kernel
theorem dX6_rankOf_3 : decode cX6_rankOf 3 = .ok (.aload_n 0, 1) := by decide +kernel
theorem dX6_rankOf_4 : decode cX6_rankOf 4 = .ok (.sipush 145, 3) := by decide +kernel
theorem dX6_rankOf_7 : decode cX6_rankOf 7 = .ok (.iconst 5, 1) := by decide +kernel
theorem dX6_rankOf_8 : decode cX6_rankOf 8 = .ok (.iload_n 1, 1) := by decide +kernel
theorem dX6_rankOf_9 : decode cX6_rankOf 9 = .ok (.imul, 1) := by decide +kernel
theorem dX6_rankOf_10 : decode cX6_rankOf 10 = .ok (.iadd, 1) := by decide +kernel
theorem dX6_rankOf_11 : decode cX6_rankOf 11 = .ok (.iaload, 1) := by decide +kernel
theorem dX6_rankOf_12 : decode cX6_rankOf 12 = .ok (.if_icmp .ge 28, 3) := by decide +kernel
theorem dX6_rankOf_15 : decode cX6_rankOf 15 = .ok (.aload_n 0, 1) := by decide +kernel
theorem dX6_rankOf_16 : decode cX6_rankOf 16 = .ok (.sipush 145, 3) := by decide +kernel
theorem dX6_rankOf_19 : decode cX6_rankOf 19 = .ok (.iconst 5, 1) := by decide +kernel
theorem dX6_rankOf_20 : decode cX6_rankOf 20 = .ok (.iload_n 1, 1) := by decide +kernel
theorem dX6_rankOf_21 : decode cX6_rankOf 21 = .ok (.imul, 1) := by decide +kernel
theorem dX6_rankOf_22 : decode cX6_rankOf 22 = .ok (.iadd, 1) := by decide +kernel
theorem dX6_rankOf_23 : decode cX6_rankOf 23 = .ok (.iconst 1, 1) := by decide +kernel
theorem dX6_rankOf_24 : decode cX6_rankOf 24 = .ok (.iadd, 1) := by decide +kernel
theorem dX6_rankOf_25 : decode cX6_rankOf 25 = .ok (.iload_n 3, 1) := by decide +kernel
theorem dX6_rankOf_26 : decode cX6_rankOf 26 = .ok (.iadd, 1) := by decide +kernel
theorem dX6_rankOf_27 : decode cX6_rankOf 27 = .ok (.iaload, 1) := by decide +kernel
theorem dX6_rankOf_28 : decode cX6_rankOf 28 = .ok (.iload_n 2, 1) := by decide +kernel
theorem dX6_rankOf_29 : decode cX6_rankOf 29 = .ok (.if_icmp .ne 5, 3) := by decide +kernel
theorem dX6_rankOf_32 : decode cX6_rankOf 32 = .ok (.iload_n 3, 1) := by decide +kernel
theorem dX6_rankOf_33 : decode cX6_rankOf 33 = .ok (.ireturn, 1) := by decide +kernel
theorem dX6_rankOf_34 : decode cX6_rankOf 34 = .ok (.iinc 3 1, 3) := by decide +kernel
theorem dX6_rankOf_37 : decode cX6_rankOf 37 = .ok (.goto (-35), 3) := by decide +kernel
theorem dX6_rankOf_40 : decode cX6_rankOf 40 = .ok (.iconst (-1), 1) := by decide +kernel
theorem dX6_rankOf_41 : decode cX6_rankOf 41 = .ok (.ireturn, 1) := by decide +kernel
theorem dX6_canStudy_0 : decode cX6_canStudy 0 = .ok (.aload_n 0, 1) := by decide +kernel
theorem dX6_canStudy_1 : decode cX6_canStudy 1 = .ok (.iload_n 1, 1) := by decide +kernel
theorem dX6_canStudy_2 : decode cX6_canStudy 2 = .ok (.invokestatic 93, 3) := by decide +kernel
theorem dX6_canStudy_5 : decode cX6_canStudy 5 = .ok (.ifCond .eq 38, 3) := by decide +kernel
theorem dX6_canStudy_8 : decode cX6_canStudy 8 = .ok (.aload_n 0, 1) := by decide +kernel
theorem dX6_canStudy_9 : decode cX6_canStudy 9 = .ok (.iload_n 2, 1) := by decide +kernel
theorem dX6_canStudy_10 : decode cX6_canStudy 10 = .ok (.invokestatic 96, 3) := by decide +kernel
theorem dX6_canStudy_13 : decode cX6_canStudy 13 = .ok (.ifCond .eq 30, 3) := by decide +kernel
theorem dX6_canStudy_16 : decode cX6_canStudy 16 = .ok (.aload_n 0, 1) := by decide +kernel
theorem dX6_canStudy_17 : decode cX6_canStudy 17 = .ok (.sipush 145, 3) := by decide +kernel
theorem dX6_canStudy_20 : decode cX6_canStudy 20 = .ok (.iconst 5, 1) := by decide +kernel
theorem dX6_canStudy_21 : decode cX6_canStudy 21 = .ok (.iload_n 1, 1) := by decide +kernel
theorem dX6_canStudy_22 : decode cX6_canStudy 22 = .ok (.imul, 1) := by decide +kernel
theorem dX6_canStudy_23 : decode cX6_canStudy 23 = .ok (.iadd, 1) := by decide +kernel
theorem dX6_canStudy_24 : decode cX6_canStudy 24 = .ok (.iaload, 1) := by decide +kernel
theorem dX6_canStudy_25 : decode cX6_canStudy 25 = .ok (.iconst 4, 1) := by decide +kernel
theorem dX6_canStudy_26 : decode cX6_canStudy 26 = .ok (.if_icmp .ge 17, 3) := by decide +kernel
theorem dX6_canStudy_29 : decode cX6_canStudy 29 = .ok (.aload_n 0, 1) := by decide +kernel
theorem dX6_canStudy_30 : decode cX6_canStudy 30 = .ok (.iload_n 1, 1) := by decide +kernel
theorem dX6_canStudy_31 : decode cX6_canStudy 31 = .ok (.iload_n 2, 1) := by decide +kernel
theorem dX6_canStudy_32 : decode cX6_canStudy 32 = .ok (.invokestatic 99, 3) := by decide +kernel
theorem dX6_canStudy_35 : decode cX6_canStudy 35 = .ok (.iconst (-1), 1) := by decide +kernel
theorem dX6_canStudy_36 : decode cX6_canStudy 36 = .ok (.if_icmp .ne 7, 3) := by decide +kernel
theorem dX6_canStudy_39 : decode cX6_canStudy 39 = .ok (.iconst 1, 1) := by decide +kernel
theorem dX6_canStudy_40 : decode cX6_canStudy 40 = .ok (.goto 4, 3) := by decide +kernel
theorem dX6_canStudy_43 : decode cX6_canStudy 43 = .ok (.iconst 0, 1) := by decide +kernel
theorem dX6_canStudy_44 : decode cX6_canStudy 44 = .ok (.ireturn, 1) := by decide +kernel
theorem dX6_studyOn_0 : decode cX6_studyOn 0 = .ok (.aload_n 0, 1) := by decide +kernel
theorem dX6_studyOn_1 : decode cX6_studyOn 1 = .ok (.sipush 145, 3) := by decide +kernel
theorem dX6_studyOn_4 : decode cX6_studyOn 4 = .ok (.iconst 5, 1) := by decide +kernel
theorem dX6_studyOn_5 : decode cX6_studyOn 5 = .ok (.iload_n 1, 1) := by decide +kernel
theorem dX6_studyOn_6 : decode cX6_studyOn 6 = .ok (.imul, 1) := by decide +kernel
theorem dX6_studyOn_7 : decode cX6_studyOn 7 = .ok (.iadd, 1) := by decide +kernel
theorem dX6_studyOn_8 : decode cX6_studyOn 8 = .ok (.dup2, 1) := by decide +kernel
theorem dX6_studyOn_9 : decode cX6_studyOn 9 = .ok (.iaload, 1) := by decide +kernel
theorem dX6_studyOn_10 : decode cX6_studyOn 10 = .ok (.iconst 1, 1) := by decide +kernel
theorem dX6_studyOn_11 : decode cX6_studyOn 11 = .ok (.iadd, 1) := by decide +kernel
theorem dX6_studyOn_12 : decode cX6_studyOn 12 = .ok (.iastore, 1) := by decide +kernel
theorem dX6_studyOn_13 : decode cX6_studyOn 13 = .ok (.aload_n 0, 1) := by decide +kernel
theorem dX6_studyOn_14 : decode cX6_studyOn 14 = .ok (.sipush 145, 3) := by decide +kernel
theorem dX6_studyOn_17 : decode cX6_studyOn 17 = .ok (.iconst 5, 1) := by decide +kernel
theorem dX6_studyOn_18 : decode cX6_studyOn 18 = .ok (.iload_n 1, 1) := by decide +kernel
theorem dX6_studyOn_19 : decode cX6_studyOn 19 = .ok (.imul, 1) := by decide +kernel
theorem dX6_studyOn_20 : decode cX6_studyOn 20 = .ok (.iadd, 1) := by decide +kernel
theorem dX6_studyOn_21 : decode cX6_studyOn 21 = .ok (.aload_n 0, 1) := by decide +kernel
theorem dX6_studyOn_22 : decode cX6_studyOn 22 = .ok (.sipush 145, 3) := by decide +kernel
theorem dX6_studyOn_25 : decode cX6_studyOn 25 = .ok (.iconst 5, 1) := by decide +kernel
theorem dX6_studyOn_26 : decode cX6_studyOn 26 = .ok (.iload_n 1, 1) := by decide +kernel
theorem dX6_studyOn_27 : decode cX6_studyOn 27 = .ok (.imul, 1) := by decide +kernel
theorem dX6_studyOn_28 : decode cX6_studyOn 28 = .ok (.iadd, 1) := by decide +kernel
theorem dX6_studyOn_29 : decode cX6_studyOn 29 = .ok (.iaload, 1) := by decide +kernel
theorem dX6_studyOn_30 : decode cX6_studyOn 30 = .ok (.iadd, 1) := by decide +kernel
theorem dX6_studyOn_31 : decode cX6_studyOn 31 = .ok (.iload_n 2, 1) := by decide +kernel
theorem dX6_studyOn_32 : decode cX6_studyOn 32 = .ok (.iastore, 1) := by decide +kernel
theorem dX6_studyOn_33 : decode cX6_studyOn 33 = .ok (.aload_n 0, 1) := by decide +kernel
theorem dX6_studyOn_34 : decode cX6_studyOn 34 = .ok (.sipush 145, 3) := by decide +kernel
theorem dX6_studyOn_37 : decode cX6_studyOn 37 = .ok (.iconst 5, 1) := by decide +kernel
theorem dX6_studyOn_38 : decode cX6_studyOn 38 = .ok (.iload_n 1, 1) := by decide +kernel
theorem dX6_studyOn_39 : decode cX6_studyOn 39 = .ok (.imul, 1) := by decide +kernel
theorem dX6_studyOn_40 : decode cX6_studyOn 40 = .ok (.iadd, 1) := by decide +kernel
theorem dX6_studyOn_41 : decode cX6_studyOn 41 = .ok (.iaload, 1) := by decide +kernel
theorem dX6_studyOn_42 : decode cX6_studyOn 42 = .ok (.ireturn, 1) := by decide +kernel
theorem dX6_releaseOn_0 : decode cX6_releaseOn 0 = .ok (.aload_n 0, 1) := by decide +kernel
theorem dX6_releaseOn_1 : decode cX6_releaseOn 1 = .ok (.iload_n 1, 1) := by decide +kernel
theorem dX6_releaseOn_2 : decode cX6_releaseOn 2 = .ok (.iload_n 2, 1) := by decide +kernel
theorem dX6_releaseOn_3 : decode cX6_releaseOn 3 = .ok (.invokestatic 99, 3) := by decide +kernel
theorem dX6_releaseOn_6 : decode cX6_releaseOn 6 = .ok (.istore_n 3, 1) := by decide +kernel
theorem dX6_releaseOn_7 : decode cX6_releaseOn 7 = .ok (.aload_n 0, 1) := by decide +kernel
theorem dX6_releaseOn_8 : decode cX6_releaseOn 8 = .ok (.sipush 145, 3) := by decide +kernel
theorem dX6_releaseOn_11 : decode cX6_releaseOn 11 = .ok (.iconst 5, 1) := by decide +kernel
theorem dX6_releaseOn_12 : decode cX6_releaseOn 12 = .ok (.iload_n 1, 1) := by decide +kernel
theorem dX6_releaseOn_13 : decode cX6_releaseOn 13 = .ok (.imul, 1) := by decide +kernel
theorem dX6_releaseOn_14 : decode cX6_releaseOn 14 = .ok (.iadd, 1) := by decide +kernel
theorem dX6_releaseOn_15 : decode cX6_releaseOn 15 = .ok (.dup2, 1) := by decide +kernel
theorem dX6_releaseOn_16 : decode cX6_releaseOn 16 = .ok (.iaload, 1) := by decide +kernel
theorem dX6_releaseOn_17 : decode cX6_releaseOn 17 = .ok (.iconst 1, 1) := by decide +kernel
theorem dX6_releaseOn_18 : decode cX6_releaseOn 18 = .ok (.isub, 1) := by decide +kernel
theorem dX6_releaseOn_19 : decode cX6_releaseOn 19 = .ok (.iastore, 1) := by decide +kernel
theorem dX6_releaseOn_20 : decode cX6_releaseOn 20 = .ok (.iload_n 3, 1) := by decide +kernel
theorem dX6_releaseOn_21 : decode cX6_releaseOn 21 = .ok (.istore 4, 2) := by decide +kernel
theorem dX6_releaseOn_23 : decode cX6_releaseOn 23 = .ok (.iload 4, 2) := by decide +kernel
theorem dX6_releaseOn_25 : decode cX6_releaseOn 25 = .ok (.aload_n 0, 1) := by decide +kernel
theorem dX6_releaseOn_26 : decode cX6_releaseOn 26 = .ok (.sipush 145, 3) := by decide +kernel
theorem dX6_releaseOn_29 : decode cX6_releaseOn 29 = .ok (.iconst 5, 1) := by decide +kernel
theorem dX6_releaseOn_30 : decode cX6_releaseOn 30 = .ok (.iload_n 1, 1) := by decide +kernel
theorem dX6_releaseOn_31 : decode cX6_releaseOn 31 = .ok (.imul, 1) := by decide +kernel
theorem dX6_releaseOn_32 : decode cX6_releaseOn 32 = .ok (.iadd, 1) := by decide +kernel
theorem dX6_releaseOn_33 : decode cX6_releaseOn 33 = .ok (.iaload, 1) := by decide +kernel
theorem dX6_releaseOn_34 : decode cX6_releaseOn 34 = .ok (.if_icmp .ge 37, 3) := by decide +kernel
theorem dX6_releaseOn_37 : decode cX6_releaseOn 37 = .ok (.aload_n 0, 1) := by decide +kernel
theorem dX6_releaseOn_38 : decode cX6_releaseOn 38 = .ok (.sipush 145, 3) := by decide +kernel
theorem dX6_releaseOn_41 : decode cX6_releaseOn 41 = .ok (.iconst 5, 1) := by decide +kernel
theorem dX6_releaseOn_42 : decode cX6_releaseOn 42 = .ok (.iload_n 1, 1) := by decide +kernel
theorem dX6_releaseOn_43 : decode cX6_releaseOn 43 = .ok (.imul, 1) := by decide +kernel
theorem dX6_releaseOn_44 : decode cX6_releaseOn 44 = .ok (.iadd, 1) := by decide +kernel
theorem dX6_releaseOn_45 : decode cX6_releaseOn 45 = .ok (.iconst 1, 1) := by decide +kernel
theorem dX6_releaseOn_46 : decode cX6_releaseOn 46 = .ok (.iadd, 1) := by decide +kernel
theorem dX6_releaseOn_47 : decode cX6_releaseOn 47 = .ok (.iload 4, 2) := by decide +kernel
theorem dX6_releaseOn_49 : decode cX6_releaseOn 49 = .ok (.iadd, 1) := by decide +kernel
theorem dX6_releaseOn_50 : decode cX6_releaseOn 50 = .ok (.aload_n 0, 1) := by decide +kernel
theorem dX6_releaseOn_51 : decode cX6_releaseOn 51 = .ok (.sipush 145, 3) := by decide +kernel
theorem dX6_releaseOn_54 : decode cX6_releaseOn 54 = .ok (.iconst 5, 1) := by decide +kernel
theorem dX6_releaseOn_55 : decode cX6_releaseOn 55 = .ok (.iload_n 1, 1) := by decide +kernel
theorem dX6_releaseOn_56 : decode cX6_releaseOn 56 = .ok (.imul, 1) := by decide +kernel
theorem dX6_releaseOn_57 : decode cX6_releaseOn 57 = .ok (.iadd, 1) := by decide +kernel
theorem dX6_releaseOn_58 : decode cX6_releaseOn 58 = .ok (.iconst 2, 1) := by decide +kernel
theorem dX6_releaseOn_59 : decode cX6_releaseOn 59 = .ok (.iadd, 1) := by decide +kernel
theorem dX6_releaseOn_60 : decode cX6_releaseOn 60 = .ok (.iload 4, 2) := by decide +kernel
theorem dX6_releaseOn_62 : decode cX6_releaseOn 62 = .ok (.iadd, 1) := by decide +kernel
theorem dX6_releaseOn_63 : decode cX6_releaseOn 63 = .ok (.iaload, 1) := by decide +kernel
theorem dX6_releaseOn_64 : decode cX6_releaseOn 64 = .ok (.iastore, 1) := by decide +kernel
theorem dX6_releaseOn_65 : decode cX6_releaseOn 65 = .ok (.iinc 4 1, 3) := by decide +kernel
theorem dX6_releaseOn_68 : decode cX6_releaseOn 68 = .ok (.goto (-45), 3) := by decide +kernel
theorem dX6_releaseOn_71 : decode cX6_releaseOn 71 = .ok (.iload_n 3, 1) := by decide +kernel
theorem dX6_releaseOn_72 : decode cX6_releaseOn 72 = .ok (.ireturn, 1) := by decide +kernel
theorem dX6_illOn_0 : decode cX6_illOn 0 = .ok (.aload_n 0, 1) := by decide +kernel
theorem dX6_illOn_1 : decode cX6_illOn 1 = .ok (.bipush 15, 2) := by decide +kernel
theorem dX6_illOn_3 : decode cX6_illOn 3 = .ok (.iload_n 1, 1) := by decide +kernel
theorem dX6_illOn_4 : decode cX6_illOn 4 = .ok (.iadd, 1) := by decide +kernel
theorem dX6_illOn_5 : decode cX6_illOn 5 = .ok (.iload_n 3, 1) := by decide +kernel
theorem dX6_illOn_6 : decode cX6_illOn 6 = .ok (.ifCond .eq 16, 3) := by decide +kernel
theorem dX6_illOn_9 : decode cX6_illOn 9 = .ok (.aload_n 0, 1) := by decide +kernel
theorem dX6_illOn_10 : decode cX6_illOn 10 = .ok (.bipush 15, 2) := by decide +kernel
theorem dX6_illOn_12 : decode cX6_illOn 12 = .ok (.iload_n 1, 1) := by decide +kernel
theorem dX6_illOn_13 : decode cX6_illOn 13 = .ok (.iadd, 1) := by decide +kernel
theorem dX6_illOn_14 : decode cX6_illOn 14 = .ok (.iaload, 1) := by decide +kernel
theorem dX6_illOn_15 : decode cX6_illOn 15 = .ok (.iconst 1, 1) := by decide +kernel
theorem dX6_illOn_16 : decode cX6_illOn 16 = .ok (.iload_n 2, 1) := by decide +kernel
theorem dX6_illOn_17 : decode cX6_illOn 17 = .ok (.ishl, 1) := by decide +kernel
theorem dX6_illOn_18 : decode cX6_illOn 18 = .ok (.ior, 1) := by decide +kernel
theorem dX6_illOn_19 : decode cX6_illOn 19 = .ok (.goto 15, 3) := by decide +kernel
theorem dX6_illOn_22 : decode cX6_illOn 22 = .ok (.aload_n 0, 1) := by decide +kernel
theorem dX6_illOn_23 : decode cX6_illOn 23 = .ok (.bipush 15, 2) := by decide +kernel
theorem dX6_illOn_25 : decode cX6_illOn 25 = .ok (.iload_n 1, 1) := by decide +kernel
theorem dX6_illOn_26 : decode cX6_illOn 26 = .ok (.iadd, 1) := by decide +kernel
theorem dX6_illOn_27 : decode cX6_illOn 27 = .ok (.iaload, 1) := by decide +kernel
theorem dX6_illOn_28 : decode cX6_illOn 28 = .ok (.iconst 1, 1) := by decide +kernel
theorem dX6_illOn_29 : decode cX6_illOn 29 = .ok (.iload_n 2, 1) := by decide +kernel
theorem dX6_illOn_30 : decode cX6_illOn 30 = .ok (.ishl, 1) := by decide +kernel
theorem dX6_illOn_31 : decode cX6_illOn 31 = .ok (.iconst (-1), 1) := by decide +kernel
theorem dX6_illOn_32 : decode cX6_illOn 32 = .ok (.ixor, 1) := by decide +kernel
theorem dX6_illOn_33 : decode cX6_illOn 33 = .ok (.iand, 1) := by decide +kernel
theorem dX6_illOn_34 : decode cX6_illOn 34 = .ok (.iastore, 1) := by decide +kernel
theorem dX6_illOn_35 : decode cX6_illOn 35 = .ok (.aload_n 0, 1) := by decide +kernel
theorem dX6_illOn_36 : decode cX6_illOn 36 = .ok (.bipush 15, 2) := by decide +kernel
theorem dX6_illOn_38 : decode cX6_illOn 38 = .ok (.iload_n 1, 1) := by decide +kernel
theorem dX6_illOn_39 : decode cX6_illOn 39 = .ok (.iadd, 1) := by decide +kernel
theorem dX6_illOn_40 : decode cX6_illOn 40 = .ok (.iaload, 1) := by decide +kernel
theorem dX6_illOn_41 : decode cX6_illOn 41 = .ok (.invokestatic 102, 3) := by decide +kernel
theorem dX6_illOn_44 : decode cX6_illOn 44 = .ok (.ireturn, 1) := by decide +kernel
theorem dX6_canSlip_0 : decode cX6_canSlip 0 = .ok (.iload_n 1, 1) := by decide +kernel
theorem dX6_canSlip_1 : decode cX6_canSlip 1 = .ok (.invokestatic 106, 3) := by decide +kernel
theorem dX6_canSlip_4 : decode cX6_canSlip 4 = .ok (.ifCond .eq 31, 3) := by decide +kernel
theorem dX6_canSlip_7 : decode cX6_canSlip 7 = .ok (.aload_n 0, 1) := by decide +kernel
theorem dX6_canSlip_8 : decode cX6_canSlip 8 = .ok (.iload_n 2, 1) := by decide +kernel
theorem dX6_canSlip_9 : decode cX6_canSlip 9 = .ok (.invokestatic 93, 3) := by decide +kernel
theorem dX6_canSlip_12 : decode cX6_canSlip 12 = .ok (.ifCond .eq 23, 3) := by decide +kernel
theorem dX6_canSlip_15 : decode cX6_canSlip 15 = .ok (.aload_n 0, 1) := by decide +kernel
theorem dX6_canSlip_16 : decode cX6_canSlip 16 = .ok (.iload_n 3, 1) := by decide +kernel
theorem dX6_canSlip_17 : decode cX6_canSlip 17 = .ok (.invokestatic 96, 3) := by decide +kernel
theorem dX6_canSlip_20 : decode cX6_canSlip 20 = .ok (.ifCond .eq 15, 3) := by decide +kernel
theorem dX6_canSlip_23 : decode cX6_canSlip 23 = .ok (.aload_n 0, 1) := by decide +kernel
theorem dX6_canSlip_24 : decode cX6_canSlip 24 = .ok (.iconst 2, 1) := by decide +kernel
theorem dX6_canSlip_25 : decode cX6_canSlip 25 = .ok (.iaload, 1) := by decide +kernel
theorem dX6_canSlip_26 : decode cX6_canSlip 26 = .ok (.bipush 20, 2) := by decide +kernel
theorem dX6_canSlip_28 : decode cX6_canSlip 28 = .ok (.if_icmp .ge 7, 3) := by decide +kernel
theorem dX6_canSlip_31 : decode cX6_canSlip 31 = .ok (.iconst 1, 1) := by decide +kernel
theorem dX6_canSlip_32 : decode cX6_canSlip 32 = .ok (.goto 4, 3) := by decide +kernel
theorem dX6_canSlip_35 : decode cX6_canSlip 35 = .ok (.iconst 0, 1) := by decide +kernel
theorem dX6_canSlip_36 : decode cX6_canSlip 36 = .ok (.ireturn, 1) := by decide +kernel
theorem dX6_slipOn_0 : decode cX6_slipOn 0 = .ok (.sipush 175, 3) := by decide +kernel
theorem dX6_slipOn_3 : decode cX6_slipOn 3 = .ok (.iconst 4, 1) := by decide +kernel
theorem dX6_slipOn_4 : decode cX6_slipOn 4 = .ok (.aload_n 0, 1) := by decide +kernel
theorem dX6_slipOn_5 : decode cX6_slipOn 5 = .ok (.iconst 2, 1) := by decide +kernel
theorem dX6_slipOn_6 : decode cX6_slipOn 6 = .ok (.iaload, 1) := by decide +kernel
theorem dX6_slipOn_7 : decode cX6_slipOn 7 = .ok (.imul, 1) := by decide +kernel
theorem dX6_slipOn_8 : decode cX6_slipOn 8 = .ok (.iadd, 1) := by decide +kernel
theorem dX6_slipOn_9 : decode cX6_slipOn 9 = .ok (.istore 5, 2) := by decide +kernel
theorem dX6_slipOn_11 : decode cX6_slipOn 11 = .ok (.aload_n 0, 1) := by decide +kernel
theorem dX6_slipOn_12 : decode cX6_slipOn 12 = .ok (.iload 5, 2) := by decide +kernel
theorem dX6_slipOn_14 : decode cX6_slipOn 14 = .ok (.iload_n 1, 1) := by decide +kernel
theorem dX6_slipOn_15 : decode cX6_slipOn 15 = .ok (.iastore, 1) := by decide +kernel
theorem dX6_slipOn_16 : decode cX6_slipOn 16 = .ok (.aload_n 0, 1) := by decide +kernel
theorem dX6_slipOn_17 : decode cX6_slipOn 17 = .ok (.iload 5, 2) := by decide +kernel
theorem dX6_slipOn_19 : decode cX6_slipOn 19 = .ok (.iconst 1, 1) := by decide +kernel
theorem dX6_slipOn_20 : decode cX6_slipOn 20 = .ok (.iadd, 1) := by decide +kernel
theorem dX6_slipOn_21 : decode cX6_slipOn 21 = .ok (.iload_n 2, 1) := by decide +kernel
theorem dX6_slipOn_22 : decode cX6_slipOn 22 = .ok (.iastore, 1) := by decide +kernel
theorem dX6_slipOn_23 : decode cX6_slipOn 23 = .ok (.aload_n 0, 1) := by decide +kernel
theorem dX6_slipOn_24 : decode cX6_slipOn 24 = .ok (.iload 5, 2) := by decide +kernel
theorem dX6_slipOn_26 : decode cX6_slipOn 26 = .ok (.iconst 2, 1) := by decide +kernel
theorem dX6_slipOn_27 : decode cX6_slipOn 27 = .ok (.iadd, 1) := by decide +kernel
theorem dX6_slipOn_28 : decode cX6_slipOn 28 = .ok (.iload_n 3, 1) := by decide +kernel
theorem dX6_slipOn_29 : decode cX6_slipOn 29 = .ok (.iastore, 1) := by decide +kernel
theorem dX6_slipOn_30 : decode cX6_slipOn 30 = .ok (.aload_n 0, 1) := by decide +kernel
theorem dX6_slipOn_31 : decode cX6_slipOn 31 = .ok (.iload 5, 2) := by decide +kernel
theorem dX6_slipOn_33 : decode cX6_slipOn 33 = .ok (.iconst 3, 1) := by decide +kernel
theorem dX6_slipOn_34 : decode cX6_slipOn 34 = .ok (.iadd, 1) := by decide +kernel
theorem dX6_slipOn_35 : decode cX6_slipOn 35 = .ok (.iload 4, 2) := by decide +kernel
theorem dX6_slipOn_37 : decode cX6_slipOn 37 = .ok (.iastore, 1) := by decide +kernel
theorem dX6_slipOn_38 : decode cX6_slipOn 38 = .ok (.aload_n 0, 1) := by decide +kernel
theorem dX6_slipOn_39 : decode cX6_slipOn 39 = .ok (.iconst 2, 1) := by decide +kernel
theorem dX6_slipOn_40 : decode cX6_slipOn 40 = .ok (.dup2, 1) := by decide +kernel
theorem dX6_slipOn_41 : decode cX6_slipOn 41 = .ok (.iaload, 1) := by decide +kernel
theorem dX6_slipOn_42 : decode cX6_slipOn 42 = .ok (.iconst 1, 1) := by decide +kernel
theorem dX6_slipOn_43 : decode cX6_slipOn 43 = .ok (.iadd, 1) := by decide +kernel
theorem dX6_slipOn_44 : decode cX6_slipOn 44 = .ok (.iastore, 1) := by decide +kernel
theorem dX6_slipOn_45 : decode cX6_slipOn 45 = .ok (.aload_n 0, 1) := by decide +kernel
theorem dX6_slipOn_46 : decode cX6_slipOn 46 = .ok (.iconst 2, 1) := by decide +kernel
theorem dX6_slipOn_47 : decode cX6_slipOn 47 = .ok (.iaload, 1) := by decide +kernel
theorem dX6_slipOn_48 : decode cX6_slipOn 48 = .ok (.iconst 1, 1) := by decide +kernel
theorem dX6_slipOn_49 : decode cX6_slipOn 49 = .ok (.isub, 1) := by decide +kernel
theorem dX6_slipOn_50 : decode cX6_slipOn 50 = .ok (.ireturn, 1) := by decide +kernel
theorem dX6_loseOn_0 : decode cX6_loseOn 0 = .ok (.aload_n 0, 1) := by decide +kernel
theorem dX6_loseOn_1 : decode cX6_loseOn 1 = .ok (.iconst 2, 1) := by decide +kernel
theorem dX6_loseOn_2 : decode cX6_loseOn 2 = .ok (.dup2, 1) := by decide +kernel
theorem dX6_loseOn_3 : decode cX6_loseOn 3 = .ok (.iaload, 1) := by decide +kernel
theorem dX6_loseOn_4 : decode cX6_loseOn 4 = .ok (.iconst 1, 1) := by decide +kernel
theorem dX6_loseOn_5 : decode cX6_loseOn 5 = .ok (.isub, 1) := by decide +kernel
theorem dX6_loseOn_6 : decode cX6_loseOn 6 = .ok (.iastore, 1) := by decide +kernel
theorem dX6_loseOn_7 : decode cX6_loseOn 7 = .ok (.iconst 4, 1) := by decide +kernel
theorem dX6_loseOn_8 : decode cX6_loseOn 8 = .ok (.iload_n 1, 1) := by decide +kernel
theorem dX6_loseOn_9 : decode cX6_loseOn 9 = .ok (.imul, 1) := by decide +kernel
theorem dX6_loseOn_10 : decode cX6_loseOn 10 = .ok (.istore_n 2, 1) := by decide +kernel
theorem dX6_loseOn_11 : decode cX6_loseOn 11 = .ok (.iload_n 2, 1) := by decide +kernel
theorem dX6_loseOn_12 : decode cX6_loseOn 12 = .ok (.iconst 4, 1) := by decide +kernel
theorem dX6_loseOn_13 : decode cX6_loseOn 13 = .ok (.aload_n 0, 1) := by decide +kernel
theorem dX6_loseOn_14 : decode cX6_loseOn 14 = .ok (.iconst 2, 1) := by decide +kernel
theorem dX6_loseOn_15 : decode cX6_loseOn 15 = .ok (.iaload, 1) := by decide +kernel
theorem dX6_loseOn_16 : decode cX6_loseOn 16 = .ok (.imul, 1) := by decide +kernel
theorem dX6_loseOn_17 : decode cX6_loseOn 17 = .ok (.if_icmp .ge 25, 3) := by decide +kernel
theorem dX6_loseOn_20 : decode cX6_loseOn 20 = .ok (.aload_n 0, 1) := by decide +kernel
theorem dX6_loseOn_21 : decode cX6_loseOn 21 = .ok (.sipush 175, 3) := by decide +kernel
theorem dX6_loseOn_24 : decode cX6_loseOn 24 = .ok (.iload_n 2, 1) := by decide +kernel
theorem dX6_loseOn_25 : decode cX6_loseOn 25 = .ok (.iadd, 1) := by decide +kernel
theorem dX6_loseOn_26 : decode cX6_loseOn 26 = .ok (.aload_n 0, 1) := by decide +kernel
theorem dX6_loseOn_27 : decode cX6_loseOn 27 = .ok (.sipush 175, 3) := by decide +kernel
theorem dX6_loseOn_30 : decode cX6_loseOn 30 = .ok (.iload_n 2, 1) := by decide +kernel
theorem dX6_loseOn_31 : decode cX6_loseOn 31 = .ok (.iadd, 1) := by decide +kernel
theorem dX6_loseOn_32 : decode cX6_loseOn 32 = .ok (.iconst 4, 1) := by decide +kernel
theorem dX6_loseOn_33 : decode cX6_loseOn 33 = .ok (.iadd, 1) := by decide +kernel
theorem dX6_loseOn_34 : decode cX6_loseOn 34 = .ok (.iaload, 1) := by decide +kernel
theorem dX6_loseOn_35 : decode cX6_loseOn 35 = .ok (.iastore, 1) := by decide +kernel
theorem dX6_loseOn_36 : decode cX6_loseOn 36 = .ok (.iinc 2 1, 3) := by decide +kernel
theorem dX6_loseOn_39 : decode cX6_loseOn 39 = .ok (.goto (-28), 3) := by decide +kernel
theorem dX6_loseOn_42 : decode cX6_loseOn 42 = .ok (.aload_n 0, 1) := by decide +kernel
theorem dX6_loseOn_43 : decode cX6_loseOn 43 = .ok (.iconst 2, 1) := by decide +kernel
theorem dX6_loseOn_44 : decode cX6_loseOn 44 = .ok (.iaload, 1) := by decide +kernel
theorem dX6_loseOn_45 : decode cX6_loseOn 45 = .ok (.ireturn, 1) := by decide +kernel
theorem dX6_actorOn_0 : decode cX6_actorOn 0 = .ok (.aload_n 0, 1) := by decide +kernel
theorem dX6_actorOn_1 : decode cX6_actorOn 1 = .ok (.iconst 1, 1) := by decide +kernel
theorem dX6_actorOn_2 : decode cX6_actorOn 2 = .ok (.iaload, 1) := by decide +kernel
theorem dX6_actorOn_3 : decode cX6_actorOn 3 = .ok (.istore_n 2, 1) := by decide +kernel
theorem dX6_actorOn_4 : decode cX6_actorOn 4 = .ok (.aload_n 0, 1) := by decide +kernel
theorem dX6_actorOn_5 : decode cX6_actorOn 5 = .ok (.iconst 5, 1) := by decide +kernel
theorem dX6_actorOn_6 : decode cX6_actorOn 6 = .ok (.iload_n 2, 1) := by decide +kernel
theorem dX6_actorOn_7 : decode cX6_actorOn 7 = .ok (.iadd, 1) := by decide +kernel
theorem dX6_actorOn_8 : decode cX6_actorOn 8 = .ok (.iload_n 1, 1) := by decide +kernel
theorem dX6_actorOn_9 : decode cX6_actorOn 9 = .ok (.iastore, 1) := by decide +kernel
theorem dX6_actorOn_10 : decode cX6_actorOn 10 = .ok (.aload_n 0, 1) := by decide +kernel
theorem dX6_actorOn_11 : decode cX6_actorOn 11 = .ok (.bipush 15, 2) := by decide +kernel
theorem dX6_actorOn_13 : decode cX6_actorOn 13 = .ok (.iload_n 2, 1) := by decide +kernel
theorem dX6_actorOn_14 : decode cX6_actorOn 14 = .ok (.iadd, 1) := by decide +kernel
theorem dX6_actorOn_15 : decode cX6_actorOn 15 = .ok (.iconst 0, 1) := by decide +kernel
theorem dX6_actorOn_16 : decode cX6_actorOn 16 = .ok (.iastore, 1) := by decide +kernel
theorem dX6_actorOn_17 : decode cX6_actorOn 17 = .ok (.aload_n 0, 1) := by decide +kernel
theorem dX6_actorOn_18 : decode cX6_actorOn 18 = .ok (.iconst 1, 1) := by decide +kernel
theorem dX6_actorOn_19 : decode cX6_actorOn 19 = .ok (.dup2, 1) := by decide +kernel
theorem dX6_actorOn_20 : decode cX6_actorOn 20 = .ok (.iaload, 1) := by decide +kernel
theorem dX6_actorOn_21 : decode cX6_actorOn 21 = .ok (.iconst 1, 1) := by decide +kernel
theorem dX6_actorOn_22 : decode cX6_actorOn 22 = .ok (.iadd, 1) := by decide +kernel
theorem dX6_actorOn_23 : decode cX6_actorOn 23 = .ok (.iastore, 1) := by decide +kernel
theorem dX6_actorOn_24 : decode cX6_actorOn 24 = .ok (.iload_n 2, 1) := by decide +kernel
theorem dX6_actorOn_25 : decode cX6_actorOn 25 = .ok (.ireturn, 1) := by decide +kernel
theorem dX6_partOn_0 : decode cX6_partOn 0 = .ok (.aload_n 0, 1) := by decide +kernel
theorem dX6_partOn_1 : decode cX6_partOn 1 = .ok (.iconst 0, 1) := by decide +kernel
theorem dX6_partOn_2 : decode cX6_partOn 2 = .ok (.iaload, 1) := by decide +kernel
theorem dX6_partOn_3 : decode cX6_partOn 3 = .ok (.istore_n 1, 1) := by decide +kernel
theorem dX6_partOn_4 : decode cX6_partOn 4 = .ok (.iconst 0, 1) := by decide +kernel
theorem dX6_partOn_5 : decode cX6_partOn 5 = .ok (.istore_n 2, 1) := by decide +kernel
