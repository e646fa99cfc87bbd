theorem dX4_init_0 : decode cX4_init 0 = .ok (.aload_n 0, 1) := by decide +kernel
theorem dX4_init_1 : decode cX4_init 1 = .ok (.invokespecial 5, 3) := by decide +kernel
theorem dX4_init_4 : decode cX4_init 4 = .ok (.aload_n 0, 1) := by decide +kernel
theorem dX4_init_5 : decode cX4_init 5 = .ok (.sipush 265, 3) := by decide +kernel
theorem dX4_init_8 : decode cX4_init 8 = .ok (.newarray .int, 2) := by decide +kernel
theorem dX4_init_10 : decode cX4_init 10 = .ok (.putfield 11, 3) := by decide +kernel
theorem dX4_init_13 : decode cX4_init 13 = .ok (.aload_n 0, 1) := by decide +kernel
theorem dX4_init_14 : decode cX4_init 14 = .ok (.invokevirtual 15, 3) := by decide +kernel
theorem dX4_init_17 : decode cX4_init 17 = .ok (.return_, 1) := by decide +kernel
theorem dX4_clear_0 : decode cX4_clear 0 = .ok (.iconst 0, 1) := by decide +kernel
theorem dX4_clear_1 : decode cX4_clear 1 = .ok (.istore_n 1, 1) := by decide +kernel
theorem dX4_clear_2 : decode cX4_clear 2 = .ok (.iload_n 1, 1) := by decide +kernel
theorem dX4_clear_3 : decode cX4_clear 3 = .ok (.sipush 265, 3) := by decide +kernel
theorem dX4_clear_6 : decode cX4_clear 6 = .ok (.if_icmp .ge 16, 3) := by decide +kernel
theorem dX4_clear_9 : decode cX4_clear 9 = .ok (.aload_n 0, 1) := by decide +kernel
theorem dX4_clear_10 : decode cX4_clear 10 = .ok (.getfield 11, 3) := by decide +kernel
theorem dX4_clear_13 : decode cX4_clear 13 = .ok (.iload_n 1, 1) := by decide +kernel
theorem dX4_clear_14 : decode cX4_clear 14 = .ok (.iconst 0, 1) := by decide +kernel
theorem dX4_clear_15 : decode cX4_clear 15 = .ok (.iastore, 1) := by decide +kernel
theorem dX4_clear_16 : decode cX4_clear 16 = .ok (.iinc 1 1, 3) := by decide +kernel
theorem dX4_clear_19 : decode cX4_clear 19 = .ok (.goto (-17), 3) := by decide +kernel
theorem dX4_clear_22 : decode cX4_clear 22 = .ok (.aload_n 0, 1) := by decide +kernel
theorem dX4_clear_23 : decode cX4_clear 23 = .ok (.getfield 11, 3) := by decide +kernel
theorem dX4_clear_26 : decode cX4_clear 26 = .ok (.iconst 3, 1) := by decide +kernel
theorem dX4_clear_27 : decode cX4_clear 27 = .ok (.bipush 20, 2) := by decide +kernel
theorem dX4_clear_29 : decode cX4_clear 29 = .ok (.iastore, 1) := by decide +kernel
theorem dX4_clear_30 : decode cX4_clear 30 = .ok (.aload_n 0, 1) := by decide +kernel
theorem dX4_clear_31 : decode cX4_clear 31 = .ok (.getfield 11, 3) := by decide +kernel
theorem dX4_clear_34 : decode cX4_clear 34 = .ok (.iconst 4, 1) := by decide +kernel
theorem dX4_clear_35 : decode cX4_clear 35 = .ok (.iconst 3, 1) := by decide +kernel
theorem dX4_clear_36 : decode cX4_clear 36 = .ok (.iastore, 1) := by decide +kernel
theorem dX4_clear_37 : decode cX4_clear 37 = .ok (.return_, 1) := by decide +kernel
theorem dX4_copyOf_0 : decode cX4_copyOf 0 = .ok (.aload_n 1, 1) := by decide +kernel
theorem dX4_copyOf_1 : decode cX4_copyOf 1 = .ok (.ifnull 19, 3) := by decide +kernel
theorem dX4_copyOf_4 : decode cX4_copyOf 4 = .ok (.aload_n 1, 1) := by decide +kernel
theorem dX4_copyOf_5 : decode cX4_copyOf 5 = .ok (.getfield 11, 3) := by decide +kernel
theorem dX4_copyOf_8 : decode cX4_copyOf 8 = .ok (.iconst 0, 1) := by decide +kernel
theorem dX4_copyOf_9 : decode cX4_copyOf 9 = .ok (.aload_n 0, 1) := by decide +kernel
theorem dX4_copyOf_10 : decode cX4_copyOf 10 = .ok (.getfield 11, 3) := by decide +kernel
theorem dX4_copyOf_13 : decode cX4_copyOf 13 = .ok (.iconst 0, 1) := by decide +kernel
theorem dX4_copyOf_14 : decode cX4_copyOf 14 = .ok (.sipush 265, 3) := by decide +kernel
theorem dX4_copyOf_17 : decode cX4_copyOf 17 = .ok (.invokestatic 18, 3) := by decide +kernel
theorem dX4_copyOf_20 : decode cX4_copyOf 20 = .ok (.return_, 1) := by decide +kernel
theorem dX4_storeIn_0 : decode cX4_storeIn 0 = .ok (.aload_n 1, 1) := by decide +kernel
theorem dX4_storeIn_1 : decode cX4_storeIn 1 = .ok (.iload_n 2, 1) := by decide +kernel
theorem dX4_storeIn_2 : decode cX4_storeIn 2 = .ok (.invokestatic 24, 3) := by decide +kernel
theorem dX4_storeIn_5 : decode cX4_storeIn 5 = .ok (.ifCond .eq 20, 3) := by decide +kernel
theorem dX4_storeIn_8 : decode cX4_storeIn 8 = .ok (.aload_n 0, 1) := by decide +kernel
theorem dX4_storeIn_9 : decode cX4_storeIn 9 = .ok (.getfield 11, 3) := by decide +kernel
theorem dX4_storeIn_12 : decode cX4_storeIn 12 = .ok (.iconst 0, 1) := by decide +kernel
theorem dX4_storeIn_13 : decode cX4_storeIn 13 = .ok (.aload_n 1, 1) := by decide +kernel
theorem dX4_storeIn_14 : decode cX4_storeIn 14 = .ok (.iload_n 2, 1) := by decide +kernel
theorem dX4_storeIn_15 : decode cX4_storeIn 15 = .ok (.sipush 265, 3) := by decide +kernel
theorem dX4_storeIn_18 : decode cX4_storeIn 18 = .ok (.imul, 1) := by decide +kernel
theorem dX4_storeIn_19 : decode cX4_storeIn 19 = .ok (.sipush 265, 3) := by decide +kernel
theorem dX4_storeIn_22 : decode cX4_storeIn 22 = .ok (.invokestatic 18, 3) := by decide +kernel
theorem dX4_storeIn_25 : decode cX4_storeIn 25 = .ok (.return_, 1) := by decide +kernel
theorem dX4_fetchFrom_0 : decode cX4_fetchFrom 0 = .ok (.aload_n 1, 1) := by decide +kernel
theorem dX4_fetchFrom_1 : decode cX4_fetchFrom 1 = .ok (.iload_n 2, 1) := by decide +kernel
theorem dX4_fetchFrom_2 : decode cX4_fetchFrom 2 = .ok (.invokestatic 24, 3) := by decide +kernel
theorem dX4_fetchFrom_5 : decode cX4_fetchFrom 5 = .ok (.ifCond .eq 20, 3) := by decide +kernel
theorem dX4_fetchFrom_8 : decode cX4_fetchFrom 8 = .ok (.aload_n 1, 1) := by decide +kernel
theorem dX4_fetchFrom_9 : decode cX4_fetchFrom 9 = .ok (.iload_n 2, 1) := by decide +kernel
theorem dX4_fetchFrom_10 : decode cX4_fetchFrom 10 = .ok (.sipush 265, 3) := by decide +kernel
theorem dX4_fetchFrom_13 : decode cX4_fetchFrom 13 = .ok (.imul, 1) := by decide +kernel
theorem dX4_fetchFrom_14 : decode cX4_fetchFrom 14 = .ok (.aload_n 0, 1) := by decide +kernel
theorem dX4_fetchFrom_15 : decode cX4_fetchFrom 15 = .ok (.getfield 11, 3) := by decide +kernel
theorem dX4_fetchFrom_18 : decode cX4_fetchFrom 18 = .ok (.iconst 0, 1) := by decide +kernel
theorem dX4_fetchFrom_19 : decode cX4_fetchFrom 19 = .ok (.sipush 265, 3) := by decide +kernel
theorem dX4_fetchFrom_22 : decode cX4_fetchFrom 22 = .ok (.invokestatic 18, 3) := by decide +kernel
theorem dX4_fetchFrom_25 : decode cX4_fetchFrom 25 = .ok (.return_, 1) := by decide +kernel
theorem dX4_isPlace_0 : decode cX4_isPlace 0 = .ok (.aload_n 0, 1) := by decide +kernel
theorem dX4_isPlace_1 : decode cX4_isPlace 1 = .ok (.ifnull 21, 3) := by decide +kernel
theorem dX4_isPlace_4 : decode cX4_isPlace 4 = .ok (.iload_n 1, 1) := by decide +kernel
theorem dX4_isPlace_5 : decode cX4_isPlace 5 = .ok (.ifCond .lt 17, 3) := by decide +kernel
theorem dX4_isPlace_8 : decode cX4_isPlace 8 = .ok (.iload_n 1, 1) := by decide +kernel
theorem dX4_isPlace_9 : decode cX4_isPlace 9 = .ok (.aload_n 0, 1) := by decide +kernel
theorem dX4_isPlace_10 : decode cX4_isPlace 10 = .ok (.arraylength, 1) := by decide +kernel
theorem dX4_isPlace_11 : decode cX4_isPlace 11 = .ok (.sipush 265, 3) := by decide +kernel
theorem dX4_isPlace_14 : decode cX4_isPlace 14 = .ok (.idiv, 1) := by decide +kernel
theorem dX4_isPlace_15 : decode cX4_isPlace 15 = .ok (.if_icmp .ge 7, 3) := by decide +kernel
theorem dX4_isPlace_18 : decode cX4_isPlace 18 = .ok (.iconst 1, 1) := by decide +kernel
theorem dX4_isPlace_19 : decode cX4_isPlace 19 = .ok (.goto 4, 3) := by decide +kernel
theorem dX4_isPlace_22 : decode cX4_isPlace 22 = .ok (.iconst 0, 1) := by decide +kernel
theorem dX4_isPlace_23 : decode cX4_isPlace 23 = .ok (.ireturn, 1) := by decide +kernel
theorem dX4_parts_0 : decode cX4_parts 0 = .ok (.aload_n 0, 1) := by decide +kernel
theorem dX4_parts_1 : decode cX4_parts 1 = .ok (.getfield 11, 3) := by decide +kernel
theorem dX4_parts_4 : decode cX4_parts 4 = .ok (.iconst 0, 1) := by decide +kernel
theorem dX4_parts_5 : decode cX4_parts 5 = .ok (.iaload, 1) := by decide +kernel
theorem dX4_parts_6 : decode cX4_parts 6 = .ok (.ireturn, 1) := by decide +kernel
theorem dX4_actors_0 : decode cX4_actors 0 = .ok (.aload_n 0, 1) := by decide +kernel
theorem dX4_actors_1 : decode cX4_actors 1 = .ok (.getfield 11, 3) := by decide +kernel
theorem dX4_actors_4 : decode cX4_actors 4 = .ok (.iconst 1, 1) := by decide +kernel
theorem dX4_actors_5 : decode cX4_actors 5 = .ok (.iaload, 1) := by decide +kernel
theorem dX4_actors_6 : decode cX4_actors 6 = .ok (.ireturn, 1) := by decide +kernel
theorem dX4_slips_0 : decode cX4_slips 0 = .ok (.aload_n 0, 1) := by decide +kernel
theorem dX4_slips_1 : decode cX4_slips 1 = .ok (.getfield 11, 3) := by decide +kernel
theorem dX4_slips_4 : decode cX4_slips 4 = .ok (.iconst 2, 1) := by decide +kernel
theorem dX4_slips_5 : decode cX4_slips 5 = .ok (.iaload, 1) := by decide +kernel
theorem dX4_slips_6 : decode cX4_slips 6 = .ok (.ireturn, 1) := by decide +kernel
theorem dX4_hasPart_0 : decode cX4_hasPart 0 = .ok (.iload_n 1, 1) := by decide +kernel
theorem dX4_hasPart_1 : decode cX4_hasPart 1 = .ok (.ifCond .lt 23, 3) := by decide +kernel
theorem dX4_hasPart_4 : decode cX4_hasPart 4 = .ok (.iload_n 1, 1) := by decide +kernel
theorem dX4_hasPart_5 : decode cX4_hasPart 5 = .ok (.bipush 6, 2) := by decide +kernel
theorem dX4_hasPart_7 : decode cX4_hasPart 7 = .ok (.if_icmp .ge 17, 3) := by decide +kernel
theorem dX4_hasPart_10 : decode cX4_hasPart 10 = .ok (.iload_n 1, 1) := by decide +kernel
theorem dX4_hasPart_11 : decode cX4_hasPart 11 = .ok (.aload_n 0, 1) := by decide +kernel
theorem dX4_hasPart_12 : decode cX4_hasPart 12 = .ok (.getfield 11, 3) := by decide +kernel
theorem dX4_hasPart_15 : decode cX4_hasPart 15 = .ok (.iconst 0, 1) := by decide +kernel
theorem dX4_hasPart_16 : decode cX4_hasPart 16 = .ok (.iaload, 1) := by decide +kernel
theorem dX4_hasPart_17 : decode cX4_hasPart 17 = .ok (.if_icmp .ge 7, 3) := by decide +kernel
theorem dX4_hasPart_20 : decode cX4_hasPart 20 = .ok (.iconst 1, 1) := by decide +kernel
theorem dX4_hasPart_21 : decode cX4_hasPart 21 = .ok (.goto 4, 3) := by decide +kernel
theorem dX4_hasPart_24 : decode cX4_hasPart 24 = .ok (.iconst 0, 1) := by decide +kernel
theorem dX4_hasPart_25 : decode cX4_hasPart 25 = .ok (.ireturn, 1) := by decide +kernel
theorem dX4_hasActor_0 : decode cX4_hasActor 0 = .ok (.iload_n 1, 1) := by decide +kernel
theorem dX4_hasActor_1 : decode cX4_hasActor 1 = .ok (.ifCond .lt 23, 3) := by decide +kernel
theorem dX4_hasActor_4 : decode cX4_hasActor 4 = .ok (.iload_n 1, 1) := by decide +kernel
theorem dX4_hasActor_5 : decode cX4_hasActor 5 = .ok (.bipush 10, 2) := by decide +kernel
theorem dX4_hasActor_7 : decode cX4_hasActor 7 = .ok (.if_icmp .ge 17, 3) := by decide +kernel
theorem dX4_hasActor_10 : decode cX4_hasActor 10 = .ok (.iload_n 1, 1) := by decide +kernel
theorem dX4_hasActor_11 : decode cX4_hasActor 11 = .ok (.aload_n 0, 1) := by decide +kernel
theorem dX4_hasActor_12 : decode cX4_hasActor 12 = .ok (.getfield 11, 3) := by decide +kernel
theorem dX4_hasActor_15 : decode cX4_hasActor 15 = .ok (.iconst 1, 1) := by decide +kernel
theorem dX4_hasActor_16 : decode cX4_hasActor 16 = .ok (.iaload, 1) := by decide +kernel
theorem dX4_hasActor_17 : decode cX4_hasActor 17 = .ok (.if_icmp .ge 7, 3) := by decide +kernel
theorem dX4_hasActor_20 : decode cX4_hasActor 20 = .ok (.iconst 1, 1) := by decide +kernel
theorem dX4_hasActor_21 : decode cX4_hasActor 21 = .ok (.goto 4, 3) := by decide +kernel
theorem dX4_hasActor_24 : decode cX4_hasActor 24 = .ok (.iconst 0, 1) := by decide +kernel
theorem dX4_hasActor_25 : decode cX4_hasActor 25 = .ok (.ireturn, 1) := by decide +kernel
theorem dX4_hasSlip_0 : decode cX4_hasSlip 0 = .ok (.iload_n 1, 1) := by decide +kernel
theorem dX4_hasSlip_1 : decode cX4_hasSlip 1 = .ok (.ifCond .lt 23, 3) := by decide +kernel
theorem dX4_hasSlip_4 : decode cX4_hasSlip 4 = .ok (.iload_n 1, 1) := by decide +kernel
theorem dX4_hasSlip_5 : decode cX4_hasSlip 5 = .ok (.bipush 20, 2) := by decide +kernel
theorem dX4_hasSlip_7 : decode cX4_hasSlip 7 = .ok (.if_icmp .ge 17, 3) := by decide +kernel
theorem dX4_hasSlip_10 : decode cX4_hasSlip 10 = .ok (.iload_n 1, 1) := by decide +kernel
theorem dX4_hasSlip_11 : decode cX4_hasSlip 11 = .ok (.aload_n 0, 1) := by decide +kernel
theorem dX4_hasSlip_12 : decode cX4_hasSlip 12 = .ok (.getfield 11, 3) := by decide +kernel
theorem dX4_hasSlip_15 : decode cX4_hasSlip 15 = .ok (.iconst 2, 1) := by decide +kernel
theorem dX4_hasSlip_16 : decode cX4_hasSlip 16 = .ok (.iaload, 1) := by decide +kernel
theorem dX4_hasSlip_17 : decode cX4_hasSlip 17 = .ok (.if_icmp .ge 7, 3) := by decide +kernel
theorem dX4_hasSlip_20 : decode cX4_hasSlip 20 = .ok (.iconst 1, 1) := by decide +kernel
theorem dX4_hasSlip_21 : decode cX4_hasSlip 21 = .ok (.goto 4, 3) := by decide +kernel
theorem dX4_hasSlip_24 : decode cX4_hasSlip 24 = .ok (.iconst 0, 1) := by decide +kernel
theorem dX4_hasSlip_25 : decode cX4_hasSlip 25 = .ok (.ireturn, 1) := by decide +kernel
theorem dX4_option_0 : decode cX4_option 0 = .ok (.iload_n 1, 1) := by decide +kernel
theorem dX4_option_1 : decode cX4_option 1 = .ok (.ifCond .lt 19, 3) := by decide +kernel
theorem dX4_option_4 : decode cX4_option 4 = .ok (.iload_n 1, 1) := by decide +kernel
theorem dX4_option_5 : decode cX4_option 5 = .ok (.iconst 2, 1) := by decide +kernel
theorem dX4_option_6 : decode cX4_option 6 = .ok (.if_icmp .ge 14, 3) := by decide +kernel
theorem dX4_option_9 : decode cX4_option 9 = .ok (.aload_n 0, 1) := by decide +kernel
theorem dX4_option_10 : decode cX4_option 10 = .ok (.getfield 11, 3) := by decide +kernel
theorem dX4_option_13 : decode cX4_option 13 = .ok (.iconst 3, 1) := by decide +kernel
theorem dX4_option_14 : decode cX4_option 14 = .ok (.iload_n 1, 1) := by decide +kernel
theorem dX4_option_15 : decode cX4_option 15 = .ok (.iadd, 1) := by decide +kernel
theorem dX4_option_16 : decode cX4_option 16 = .ok (.iaload, 1) := by decide +kernel
theorem dX4_option_17 : decode cX4_option 17 = .ok (.goto 4, 3) := by decide +kernel
theorem dX4_option_20 : decode cX4_option 20 = .ok (.iconst 0, 1) := by decide +kernel
theorem dX4_option_21 : decode cX4_option 21 = .ok (.ireturn, 1) := by decide +kernel
theorem dX4_setOption_0 : decode cX4_setOption 0 = .ok (.iload_n 1, 1) := by decide +kernel
theorem dX4_setOption_1 : decode cX4_setOption 1 = .ok (.ifCond .lt 17, 3) := by decide +kernel
theorem dX4_setOption_4 : decode cX4_setOption 4 = .ok (.iload_n 1, 1) := by decide +kernel
theorem dX4_setOption_5 : decode cX4_setOption 5 = .ok (.iconst 2, 1) := by decide +kernel
theorem dX4_setOption_6 : decode cX4_setOption 6 = .ok (.if_icmp .ge 12, 3) := by decide +kernel
theorem dX4_setOption_9 : decode cX4_setOption 9 = .ok (.aload_n 0, 1) := by decide +kernel
theorem dX4_setOption_10 : decode cX4_setOption 10 = .ok (.getfield 11, 3) := by decide +kernel
theorem dX4_setOption_13 : decode cX4_setOption 13 = .ok (.iconst 3, 1) := by decide +kernel
theorem dX4_setOption_14 : decode cX4_setOption 14 = .ok (.iload_n 1, 1) := by decide +kernel
theorem dX4_setOption_15 : decode cX4_setOption 15 = .ok (.iadd, 1) := by decide +kernel
theorem dX4_setOption_16 : decode cX4_setOption 16 = .ok (.iload_n 2, 1) := by decide +kernel
theorem dX4_setOption_17 : decode cX4_setOption 17 = .ok (.iastore, 1) := by decide +kernel
theorem dX4_setOption_18 : decode cX4_setOption 18 = .ok (.return_, 1) := by decide +kernel
theorem dX4_canHire_0 : decode cX4_canHire 0 = .ok (.iload_n 1, 1) := by decide +kernel
theorem dX4_canHire_1 : decode cX4_canHire 1 = .ok (.ifCond .lt 27, 3) := by decide +kernel
theorem dX4_canHire_4 : decode cX4_canHire 4 = .ok (.iload_n 1, 1) := by decide +kernel
theorem dX4_canHire_5 : decode cX4_canHire 5 = .ok (.bipush 9, 2) := by decide +kernel
theorem dX4_canHire_7 : decode cX4_canHire 7 = .ok (.if_icmp .gt 21, 3) := by decide +kernel
theorem dX4_canHire_10 : decode cX4_canHire 10 = .ok (.aload_n 0, 1) := by decide +kernel
theorem dX4_canHire_11 : decode cX4_canHire 11 = .ok (.getfield 11, 3) := by decide +kernel
theorem dX4_canHire_14 : decode cX4_canHire 14 = .ok (.iconst 1, 1) := by decide +kernel
theorem dX4_canHire_15 : decode cX4_canHire 15 = .ok (.iaload, 1) := by decide +kernel
theorem dX4_canHire_16 : decode cX4_canHire 16 = .ok (.bipush 10, 2) := by decide +kernel
theorem dX4_canHire_18 : decode cX4_canHire 18 = .ok (.invokestatic 28, 3) := by decide +kernel
theorem dX4_canHire_21 : decode cX4_canHire 21 = .ok (.ifCond .eq 7, 3) := by decide +kernel
theorem dX4_canHire_24 : decode cX4_canHire 24 = .ok (.iconst 1, 1) := by decide +kernel
theorem dX4_canHire_25 : decode cX4_canHire 25 = .ok (.goto 4, 3) := by decide +kernel
theorem dX4_canHire_28 : decode cX4_canHire 28 = .ok (.iconst 0, 1) := by decide +kernel
theorem dX4_canHire_29 : decode cX4_canHire 29 = .ok (.ireturn, 1) := by decide +kernel
theorem dX4_hire_0 : decode cX4_hire 0 = .ok (.aload_n 0, 1) := by decide +kernel
theorem dX4_hire_1 : decode cX4_hire 1 = .ok (.iload_n 1, 1) := by decide +kernel
theorem dX4_hire_2 : decode cX4_hire 2 = .ok (.invokevirtual 32, 3) := by decide +kernel
theorem dX4_hire_5 : decode cX4_hire 5 = .ok (.ifCond .ne 5, 3) := by decide +kernel
theorem dX4_hire_8 : decode cX4_hire 8 = .ok (.iconst 0, 1) := by decide +kernel
theorem dX4_hire_9 : decode cX4_hire 9 = .ok (.ireturn, 1) := by decide +kernel
theorem dX4_hire_10 : decode cX4_hire 10 = .ok (.aload_n 0, 1) := by decide +kernel
theorem dX4_hire_11 : decode cX4_hire 11 = .ok (.getfield 11, 3) := by decide +kernel
theorem dX4_hire_14 : decode cX4_hire 14 = .ok (.iconst 1, 1) := by decide +kernel
theorem dX4_hire_15 : decode cX4_hire 15 = .ok (.iaload, 1) := by decide +kernel
theorem dX4_hire_16 : decode cX4_hire 16 = .ok (.istore_n 2, 1) := by decide +kernel
theorem dX4_hire_17 : decode cX4_hire 17 = .ok (.aload_n 0, 1) := by decide +kernel
theorem dX4_hire_18 : decode cX4_hire 18 = .ok (.getfield 11, 3) := by decide +kernel
theorem dX4_hire_21 : decode cX4_hire 21 = .ok (.iconst 5, 1) := by decide +kernel
theorem dX4_hire_22 : decode cX4_hire 22 = .ok (.iload_n 2, 1) := by decide +kernel
theorem dX4_hire_23 : decode cX4_hire 23 = .ok (.iadd, 1) := by decide +kernel
theorem dX4_hire_24 : decode cX4_hire 24 = .ok (.iload_n 1, 1) := by decide +kernel
theorem dX4_hire_25 : decode cX4_hire 25 = .ok (.iastore, 1) := by decide +kernel
theorem dX4_hire_26 : decode cX4_hire 26 = .ok (.aload_n 0, 1) := by decide +kernel
theorem dX4_hire_27 : decode cX4_hire 27 = .ok (.getfield 11, 3) := by decide +kernel
theorem dX4_hire_30 : decode cX4_hire 30 = .ok (.iconst 1, 1) := by decide +kernel
theorem dX4_hire_31 : decode cX4_hire 31 = .ok (.iload_n 2, 1) := by decide +kernel
theorem dX4_hire_32 : decode cX4_hire 32 = .ok (.iconst 1, 1) := by decide +kernel
theorem dX4_hire_33 : decode cX4_hire 33 = .ok (.iadd, 1) := by decide +kernel
theorem dX4_hire_34 : decode cX4_hire 34 = .ok (.iastore, 1) := by decide +kernel
theorem dX4_hire_35 : decode cX4_hire 35 = .ok (.iconst 1, 1) := by decide +kernel
theorem dX4_hire_36 : decode cX4_hire 36 = .ok (.ireturn, 1) := by decide +kernel
theorem dX4_fame_0 : decode cX4_fame 0 = .ok (.iload_n 1, 1) := by decide +kernel
theorem dX4_fame_1 : decode cX4_fame 1 = .ok (.ifCond .lt 20, 3) := by decide +kernel
theorem dX4_fame_4 : decode cX4_fame 4 = .ok (.iload_n 1, 1) := by decide +kernel
theorem dX4_fame_5 : decode cX4_fame 5 = .ok (.bipush 10, 2) := by decide +kernel
theorem dX4_fame_7 : decode cX4_fame 7 = .ok (.if_icmp .ge 14, 3) := by decide +kernel
theorem dX4_fame_10 : decode cX4_fame 10 = .ok (.aload_n 0, 1) := by decide +kernel
theorem dX4_fame_11 : decode cX4_fame 11 = .ok (.getfield 11, 3) := by decide +kernel
theorem dX4_fame_14 : decode cX4_fame 14 = .ok (.iconst 5, 1) := by decide +kernel
theorem dX4_fame_15 : decode cX4_fame 15 = .ok (.iload_n 1, 1) := by decide +kernel
theorem dX4_fame_16 : decode cX4_fame 16 = .ok (.iadd, 1) := by decide +kernel
theorem dX4_fame_17 : decode cX4_fame 17 = .ok (.iaload, 1) := by decide +kernel
theorem dX4_fame_18 : decode cX4_fame 18 = .ok (.goto 4, 3) := by decide +kernel
theorem dX4_fame_21 : decode cX4_fame 21 = .ok (.iconst 0, 1) := by decide +kernel
theorem dX4_fame_22 : decode cX4_fame 22 = .ok (.ireturn, 1) := by decide +kernel
theorem dX4_changeIllness_0 : decode cX4_changeIllness 0 = .ok (.aload_n 0, 1) := by decide +kernel
theorem dX4_changeIllness_1 : decode cX4_changeIllness 1 = .ok (.iload_n 1, 1) := by decide +kernel
theorem dX4_changeIllness_2 : decode cX4_changeIllness 2 = .ok (.invokevirtual 36, 3) := by decide +kernel
theorem dX4_changeIllness_5 : decode cX4_changeIllness 5 = .ok (.ifCond .eq 10, 3) := by decide +kernel
theorem dX4_changeIllness_8 : decode cX4_changeIllness 8 = .ok (.iload_n 2, 1) := by decide +kernel
theorem dX4_changeIllness_9 : decode cX4_changeIllness 9 = .ok (.invokestatic 39, 3) := by decide +kernel
theorem dX4_changeIllness_12 : decode cX4_changeIllness 12 = .ok (.ifCond .ne 5, 3) := by decide +kernel
theorem dX4_changeIllness_15 : decode cX4_changeIllness 15 = .ok (.iconst 0, 1) := by decide +kernel
theorem dX4_changeIllness_16 : decode cX4_changeIllness 16 = .ok (.ireturn, 1) := by decide +kernel
theorem dX4_changeIllness_17 : decode cX4_changeIllness 17 = .ok (.iload_n 3, 1) := by decide +kernel
theorem dX4_changeIllness_18 : decode cX4_changeIllness 18 = .ok (.ifCond .eq 21, 3) := by decide +kernel
theorem dX4_changeIllness_21 : decode cX4_changeIllness 21 = .ok (.aload_n 0, 1) := by decide +kernel
theorem dX4_changeIllness_22 : decode cX4_changeIllness 22 = .ok (.getfield 11, 3) := by decide +kernel
theorem dX4_changeIllness_25 : decode cX4_changeIllness 25 = .ok (.bipush 15, 2) := by decide +kernel
theorem dX4_changeIllness_27 : decode cX4_changeIllness 27 = .ok (.iload_n 2, 1) := by decide +kernel
theorem dX4_changeIllness_28 : decode cX4_changeIllness 28 = .ok (.iadd, 1) := by decide +kernel
theorem dX4_changeIllness_29 : decode cX4_changeIllness 29 = .ok (.dup2, 1) := by decide +kernel
theorem dX4_changeIllness_30 : decode cX4_changeIllness 30 = .ok (.iaload, 1) := by decide +kernel
theorem dX4_changeIllness_31 : decode cX4_changeIllness 31 = .ok (.iconst 1, 1) := by decide +kernel
theorem dX4_changeIllness_32 : decode cX4_changeIllness 32 = .ok (.iload_n 1, 1) := by decide +kernel
theorem dX4_changeIllness_33 : decode cX4_changeIllness 33 = .ok (.ishl, 1) := by decide +kernel
theorem dX4_changeIllness_34 : decode cX4_changeIllness 34 = .ok (.ior, 1) := by decide +kernel
theorem dX4_changeIllness_35 : decode cX4_changeIllness 35 = .ok (.iastore, 1) := by decide +kernel
theorem dX4_changeIllness_36 : decode cX4_changeIllness 36 = .ok (.goto 20, 3) := by decide +kernel
theorem dX4_changeIllness_39 : decode cX4_changeIllness 39 = .ok (.aload_n 0, 1) := by decide +kernel
theorem dX4_changeIllness_40 : decode cX4_changeIllness 40 = .ok (.getfield 11, 3) := by decide +kernel
theorem dX4_changeIllness_43 : decode cX4_changeIllness 43 = .ok (.bipush 15, 2) := by decide +kernel
theorem dX4_changeIllness_45 : decode cX4_changeIllness 45 = .ok (.iload_n 2, 1) := by decide +kernel
theorem dX4_changeIllness_46 : decode cX4_changeIllness 46 = .ok (.iadd, 1) := by decide +kernel
theorem dX4_changeIllness_47 : decode cX4_changeIllness 47 = .ok (.dup2, 1) := by decide +kernel
theorem dX4_changeIllness_48 : decode cX4_changeIllness 48 = .ok (.iaload, 1) := by decide +kernel
theorem dX4_changeIllness_49 : decode cX4_changeIllness 49 = .ok (.iconst 1, 1) := by decide +kernel
theorem dX4_changeIllness_50 : decode cX4_changeIllness 50 = .ok (.iload_n 1, 1) := by decide +kernel
theorem dX4_changeIllness_51 : decode cX4_changeIllness 51 = .ok (.ishl, 1) := by decide +kernel
theorem dX4_changeIllness_52 : decode cX4_changeIllness 52 = .ok (.iconst (-1), 1) := by decide +kernel
theorem dX4_changeIllness_53 : decode cX4_changeIllness 53 = .ok (.ixor, 1) := by decide +kernel
theorem dX4_changeIllness_54 : decode cX4_changeIllness 54 = .ok (.iand, 1) := by decide +kernel
theorem dX4_changeIllness_55 : decode cX4_changeIllness 55 = .ok (.iastore, 1) := by decide +kernel
theorem dX4_changeIllness_56 : decode cX4_changeIllness 56 = .ok (.iconst 1, 1) := by decide +kernel
theorem dX4_changeIllness_57 : decode cX4_changeIllness 57 = .ok (.ireturn, 1) := by decide +kernel
theorem dX4_illOn_0 : decode cX4_illOn 0 = .ok (.iload_n 1, 1) := by decide +kernel
theorem dX4_illOn_1 : decode cX4_illOn 1 = .ok (.ifCond .lt 21, 3) := by decide +kernel
theorem dX4_illOn_4 : decode cX4_illOn 4 = .ok (.iload_n 1, 1) := by decide +kernel
theorem dX4_illOn_5 : decode cX4_illOn 5 = .ok (.bipush 20, 2) := by decide +kernel
theorem dX4_illOn_7 : decode cX4_illOn 7 = .ok (.if_icmp .ge 15, 3) := by decide +kernel
theorem dX4_illOn_10 : decode cX4_illOn 10 = .ok (.aload_n 0, 1) := by decide +kernel
theorem dX4_illOn_11 : decode cX4_illOn 11 = .ok (.getfield 11, 3) := by decide +kernel
theorem dX4_illOn_14 : decode cX4_illOn 14 = .ok (.bipush 15, 2) := by decide +kernel
theorem dX4_illOn_16 : decode cX4_illOn 16 = .ok (.iload_n 1, 1) := by decide +kernel
theorem dX4_illOn_17 : decode cX4_illOn 17 = .ok (.iadd, 1) := by decide +kernel
theorem dX4_illOn_18 : decode cX4_illOn 18 = .ok (.iaload, 1) := by decide +kernel
theorem dX4_illOn_19 : decode cX4_illOn 19 = .ok (.goto 4, 3) := by decide +kernel
theorem dX4_illOn_22 : decode cX4_illOn 22 = .ok (.iconst 0, 1) := by decide +kernel
theorem dX4_illOn_23 : decode cX4_illOn 23 = .ok (.ireturn, 1) := by decide +kernel
theorem dX4_illNights_0 : decode cX4_illNights 0 = .ok (.iconst 0, 1) := by decide +kernel
theorem dX4_illNights_1 : decode cX4_illNights 1 = .ok (.istore_n 2, 1) := by decide +kernel
theorem dX4_illNights_2 : decode cX4_illNights 2 = .ok (.iconst 0, 1) := by decide +kernel
theorem dX4_illNights_3 : decode cX4_illNights 3 = .ok (.istore_n 3, 1) := by decide +kernel
theorem dX4_illNights_4 : decode cX4_illNights 4 = .ok (.iload_n 3, 1) := by decide +kernel
theorem dX4_illNights_5 : decode cX4_illNights 5 = .ok (.bipush 20, 2) := by decide +kernel
theorem dX4_illNights_7 : decode cX4_illNights 7 = .ok (.if_icmp .ge 28, 3) := by decide +kernel
theorem dX4_illNights_10 : decode cX4_illNights 10 = .ok (.aload_n 0, 1) := by decide +kernel
theorem dX4_illNights_11 : decode cX4_illNights 11 = .ok (.getfield 11, 3) := by decide +kernel
theorem dX4_illNights_14 : decode cX4_illNights 14 = .ok (.bipush 15, 2) := by decide +kernel
theorem dX4_illNights_16 : decode cX4_illNights 16 = .ok (.iload_n 3, 1) := by decide +kernel
theorem dX4_illNights_17 : decode cX4_illNights 17 = .ok (.iadd, 1) := by decide +kernel
theorem dX4_illNights_18 : decode cX4_illNights 18 = .ok (.iaload, 1) := by decide +kernel
theorem dX4_illNights_19 : decode cX4_illNights 19 = .ok (.iload_n 1, 1) := by decide +kernel
theorem dX4_illNights_20 : decode cX4_illNights 20 = .ok (.invokestatic 42, 3) := by decide +kernel
theorem dX4_illNights_23 : decode cX4_illNights 23 = .ok (.ifCond .eq 6, 3) := by decide +kernel
theorem dX4_illNights_26 : decode cX4_illNights 26 = .ok (.iinc 2 1, 3) := by decide +kernel
theorem dX4_illNights_29 : decode cX4_illNights 29 = .ok (.iinc 3 1, 3) := by decide +kernel
theorem dX4_illNights_32 : decode cX4_illNights 32 = .ok (.goto (-28), 3) := by decide +kernel
theorem dX4_illNights_35 : decode cX4_illNights 35 = .ok (.iload_n 2, 1) := by decide +kernel
theorem dX4_illNights_36 : decode cX4_illNights 36 = .ok (.ireturn, 1) := by decide +kernel
theorem dX4_canOpenPart_0 : decode cX4_canOpenPart 0 = .ok (.aload_n 0, 1) := by decide +kernel
theorem dX4_canOpenPart_1 : decode cX4_canOpenPart 1 = .ok (.getfield 11, 3) := by decide +kernel
theorem dX4_canOpenPart_4 : decode cX4_canOpenPart 4 = .ok (.iconst 0, 1) := by decide +kernel
theorem dX4_canOpenPart_5 : decode cX4_canOpenPart 5 = .ok (.iaload, 1) := by decide +kernel
theorem dX4_canOpenPart_6 : decode cX4_canOpenPart 6 = .ok (.bipush 6, 2) := by decide +kernel
theorem dX4_canOpenPart_8 : decode cX4_canOpenPart 8 = .ok (.invokestatic 28, 3) := by decide +kernel
theorem dX4_canOpenPart_11 : decode cX4_canOpenPart 11 = .ok (.ireturn, 1) := by decide +kernel
theorem dX4_openPart_0 : decode cX4_openPart 0 = .ok (.aload_n 0, 1) := by decide +kernel
theorem dX4_openPart_1 : decode cX4_openPart 1 = .ok (.invokevirtual 45, 3) := by decide +kernel
theorem dX4_openPart_4 : decode cX4_openPart 4 = .ok (.ifCond .ne 5, 3) := by decide +kernel
theorem dX4_openPart_7 : decode cX4_openPart 7 = .ok (.iconst 0, 1) := by decide +kernel
theorem dX4_openPart_8 : decode cX4_openPart 8 = .ok (.ireturn, 1) := by decide +kernel
theorem dX4_openPart_9 : decode cX4_openPart 9 = .ok (.aload_n 0, 1) := by decide +kernel
theorem dX4_openPart_10 : decode cX4_openPart 10 = .ok (.getfield 11, 3) := by decide +kernel
theorem dX4_openPart_13 : decode cX4_openPart 13 = .ok (.iconst 0, 1) := by decide +kernel
theorem dX4_openPart_14 : decode cX4_openPart 14 = .ok (.iaload, 1) := by decide +kernel
theorem dX4_openPart_15 : decode cX4_openPart 15 = .ok (.istore_n 1, 1) := by decide +kernel
theorem dX4_openPart_16 : decode cX4_openPart 16 = .ok (.aload_n 0, 1) := by decide +kernel
theorem dX4_openPart_17 : decode cX4_openPart 17 = .ok (.getfield 11, 3) := by decide +kernel
theorem dX4_openPart_20 : decode cX4_openPart 20 = .ok (.iconst 0, 1) := by decide +kernel
theorem dX4_openPart_21 : decode cX4_openPart 21 = .ok (.iload_n 1, 1) := by decide +kernel
theorem dX4_openPart_22 : decode cX4_openPart 22 = .ok (.iconst 1, 1) := by decide +kernel
theorem dX4_openPart_23 : decode cX4_openPart 23 = .ok (.iadd, 1) := by decide +kernel
theorem dX4_openPart_24 : decode cX4_openPart 24 = .ok (.iastore, 1) := by decide +kernel
theorem dX4_openPart_25 : decode cX4_openPart 25 = .ok (.aload_n 0, 1) := by decide +kernel
theorem dX4_openPart_26 : decode cX4_openPart 26 = .ok (.getfield 11, 3) := by decide +kernel
theorem dX4_openPart_29 : decode cX4_openPart 29 = .ok (.bipush 35, 2) := by decide +kernel
theorem dX4_openPart_31 : decode cX4_openPart 31 = .ok (.iload_n 1, 1) := by decide +kernel
theorem dX4_openPart_32 : decode cX4_openPart 32 = .ok (.iadd, 1) := by decide +kernel
theorem dX4_openPart_33 : decode cX4_openPart 33 = .ok (.iconst 0, 1) := by decide +kernel
theorem dX4_openPart_34 : decode cX4_openPart 34 = .ok (.iastore, 1) := by decide +kernel
theorem dX4_openPart_35 : decode cX4_openPart 35 = .ok (.aload_n 0, 1) := by decide +kernel
theorem dX4_openPart_36 : decode cX4_openPart 36 = .ok (.iload_n 1, 1) := by decide +kernel
theorem dX4_openPart_37 : decode cX4_openPart 37 = .ok (.iconst (-1), 1) := by decide +kernel
theorem dX4_openPart_38 : decode cX4_openPart 38 = .ok (.iconst 0, 1) := by decide +kernel
theorem dX4_openPart_39 : decode cX4_openPart 39 = .ok (.invokevirtual 49, 3) := by decide +kernel
theorem dX4_openPart_42 : decode cX4_openPart 42 = .ok (.ireturn, 1) := by decide +kernel
theorem dX4_canRecast_0 : decode cX4_canRecast 0 = .ok (.aload_n 0, 1) := by decide +kernel
theorem dX4_canRecast_1 : decode cX4_canRecast 1 = .ok (.iload_n 1, 1) := by decide +kernel
theorem dX4_canRecast_2 : decode cX4_canRecast 2 = .ok (.invokevirtual 53, 3) := by decide +kernel
theorem dX4_canRecast_5 : decode cX4_canRecast 5 = .ok (.ifCond .eq 27, 3) := by decide +kernel
theorem dX4_canRecast_8 : decode cX4_canRecast 8 = .ok (.iload_n 3, 1) := by decide +kernel
theorem dX4_canRecast_9 : decode cX4_canRecast 9 = .ok (.invokestatic 39, 3) := by decide +kernel
theorem dX4_canRecast_12 : decode cX4_canRecast 12 = .ok (.ifCond .eq 20, 3) := by decide +kernel
theorem dX4_canRecast_15 : decode cX4_canRecast 15 = .ok (.iload_n 2, 1) := by decide +kernel
theorem dX4_canRecast_16 : decode cX4_canRecast 16 = .ok (.iconst (-1), 1) := by decide +kernel
theorem dX4_canRecast_17 : decode cX4_canRecast 17 = .ok (.if_icmp .eq 11, 3) := by decide +kernel
theorem dX4_canRecast_20 : decode cX4_canRecast 20 = .ok (.aload_n 0, 1) := by decide +kernel
theorem dX4_canRecast_21 : decode cX4_canRecast 21 = .ok (.iload_n 2, 1) := by decide +kernel
theorem dX4_canRecast_22 : decode cX4_canRecast 22 = .ok (.invokevirtual 36, 3) := by decide +kernel
theorem dX4_canRecast_25 : decode cX4_canRecast 25 = .ok (.ifCond .eq 7, 3) := by decide +kernel
theorem dX4_canRecast_28 : decode cX4_canRecast 28 = .ok (.iconst 1, 1) := by decide +kernel
theorem dX4_canRecast_29 : decode cX4_canRecast 29 = .ok (.goto 4, 3) := by decide +kernel
theorem dX4_canRecast_32 : decode cX4_canRecast 32 = .ok (.iconst 0, 1) := by decide +kernel
theorem dX4_canRecast_33 : decode cX4_canRecast 33 = .ok (.ireturn, 1) := by decide +kernel
theorem dX4_recast_0 : decode cX4_recast 0 = .ok (.aload_n 0, 1) := by decide +kernel
theorem dX4_recast_1 : decode cX4_recast 1 = .ok (.iload_n 1, 1) := by decide +kernel
theorem dX4_recast_2 : decode cX4_recast 2 = .ok (.iload_n 2, 1) := by decide +kernel
theorem dX4_recast_3 : decode cX4_recast 3 = .ok (.iload_n 3, 1) := by decide +kernel
theorem dX4_recast_4 : decode cX4_recast 4 = .ok (.invokevirtual 56, 3) := by decide +kernel
theorem dX4_recast_7 : decode cX4_recast 7 = .ok (.ifCond .ne 5, 3) := by decide +kernel
theorem dX4_recast_10 : decode cX4_recast 10 = .ok (.iconst 0, 1) := by decide +kernel
theorem dX4_recast_11 : decode cX4_recast 11 = .ok (.ireturn, 1) := by decide +kernel
theorem dX4_recast_12 : decode cX4_recast 12 = .ok (.iload_n 3, 1) := by decide +kernel
theorem dX4_recast_13 : decode cX4_recast 13 = .ok (.istore 4, 2) := by decide +kernel
theorem dX4_recast_15 : decode cX4_recast 15 = .ok (.iload 4, 2) := by decide +kernel
theorem dX4_recast_17 : decode cX4_recast 17 = .ok (.bipush 20, 2) := by decide +kernel
theorem dX4_recast_19 : decode cX4_recast 19 = .ok (.if_icmp .ge 25, 3) := by decide +kernel
theorem dX4_recast_22 : decode cX4_recast 22 = .ok (.aload_n 0, 1) := by decide +kernel
theorem dX4_recast_23 : decode cX4_recast 23 = .ok (.getfield 11, 3) := by decide +kernel
theorem dX4_recast_26 : decode cX4_recast 26 = .ok (.bipush 65, 2) := by decide +kernel
theorem dX4_recast_28 : decode cX4_recast 28 = .ok (.iload_n 1, 1) := by decide +kernel
theorem dX4_recast_29 : decode cX4_recast 29 = .ok (.bipush 20, 2) := by decide +kernel
theorem dX4_recast_31 : decode cX4_recast 31 = .ok (.imul, 1) := by decide +kernel
theorem dX4_recast_32 : decode cX4_recast 32 = .ok (.iadd, 1) := by decide +kernel
theorem dX4_recast_33 : decode cX4_recast 33 = .ok (.iload 4, 2) := by decide +kernel
theorem dX4_recast_35 : decode cX4_recast 35 = .ok (.iadd, 1) := by decide +kernel
theorem dX4_recast_36 : decode cX4_recast 36 = .ok (.iload_n 2, 1) := by decide +kernel
theorem dX4_recast_37 : decode cX4_recast 37 = .ok (.iastore, 1) := by decide +kernel
theorem dX4_recast_38 : decode cX4_recast 38 = .ok (.iinc 4 1, 3) := by decide +kernel
theorem dX4_recast_41 : decode cX4_recast 41 = .ok (.goto (-26), 3) := by decide +kernel
theorem dX4_recast_44 : decode cX4_recast 44 = .ok (.iconst 1, 1) := by decide +kernel
theorem dX4_recast_45 : decode cX4_recast 45 = .ok (.ireturn, 1) := by decide +kernel
theorem dX4_principal_0 : decode cX4_principal 0 = .ok (.iload_n 1, 1) := by decide +kernel
theorem dX4_principal_1 : decode cX4_principal 1 = .ok (.ifCond .lt 36, 3) := by decide +kernel
theorem dX4_principal_4 : decode cX4_principal 4 = .ok (.iload_n 1, 1) := by decide +kernel
theorem dX4_principal_5 : decode cX4_principal 5 = .ok (.bipush 6, 2) := by decide +kernel
theorem dX4_principal_7 : decode cX4_principal 7 = .ok (.if_icmp .ge 30, 3) := by decide +kernel
theorem dX4_principal_10 : decode cX4_principal 10 = .ok (.iload_n 2, 1) := by decide +kernel
theorem dX4_principal_11 : decode cX4_principal 11 = .ok (.ifCond .lt 26, 3) := by decide +kernel
theorem dX4_principal_14 : decode cX4_principal 14 = .ok (.iload_n 2, 1) := by decide +kernel
theorem dX4_principal_15 : decode cX4_principal 15 = .ok (.bipush 20, 2) := by decide +kernel
theorem dX4_principal_17 : decode cX4_principal 17 = .ok (.if_icmp .ge 20, 3) := by decide +kernel
theorem dX4_principal_20 : decode cX4_principal 20 = .ok (.aload_n 0, 1) := by decide +kernel
theorem dX4_principal_21 : decode cX4_principal 21 = .ok (.getfield 11, 3) := by decide +kernel
theorem dX4_principal_24 : decode cX4_principal 24 = .ok (.bipush 65, 2) := by decide +kernel
theorem dX4_principal_26 : decode cX4_principal 26 = .ok (.iload_n 1, 1) := by decide +kernel
theorem dX4_principal_27 : decode cX4_principal 27 = .ok (.bipush 20, 2) := by decide +kernel
theorem dX4_principal_29 : decode cX4_principal 29 = .ok (.imul, 1) := by decide +kernel
theorem dX4_principal_30 : decode cX4_principal 30 = .ok (.iadd, 1) := by decide +kernel
theorem dX4_principal_31 : decode cX4_principal 31 = .ok (.iload_n 2, 1) := by decide +kernel
theorem dX4_principal_32 : decode cX4_principal 32 = .ok (.iadd, 1) := by decide +kernel
theorem dX4_principal_33 : decode cX4_principal 33 = .ok (.iaload, 1) := by decide +kernel
theorem dX4_principal_34 : decode cX4_principal 34 = .ok (.goto 4, 3) := by decide +kernel
theorem dX4_principal_37 : decode cX4_principal 37 = .ok (.iconst (-1), 1) := by decide +kernel
theorem dX4_principal_38 : decode cX4_principal 38 = .ok (.ireturn, 1) := by decide +kernel
theorem dX4_principalsOn_0 : decode cX4_principalsOn 0 = .ok (.iconst 0, 1) := by decide +kernel
theorem dX4_principalsOn_1 : decode cX4_principalsOn 1 = .ok (.istore_n 2, 1) := by decide +kernel
theorem dX4_principalsOn_2 : decode cX4_principalsOn 2 = .ok (.iconst 0, 1) := by decide +kernel
theorem dX4_principalsOn_3 : decode cX4_principalsOn 3 = .ok (.istore_n 3, 1) := by decide +kernel
theorem dX4_principalsOn_4 : decode cX4_principalsOn 4 = .ok (.iload_n 3, 1) := by decide +kernel
theorem dX4_principalsOn_5 : decode cX4_principalsOn 5 = .ok (.aload_n 0, 1) := by decide +kernel
theorem dX4_principalsOn_6 : decode cX4_principalsOn 6 = .ok (.getfield 11, 3) := by decide +kernel
theorem dX4_principalsOn_9 : decode cX4_principalsOn 9 = .ok (.iconst 0, 1) := by decide +kernel
theorem dX4_principalsOn_10 : decode cX4_principalsOn 10 = .ok (.iaload, 1) := by decide +kernel
theorem dX4_principalsOn_11 : decode cX4_principalsOn 11 = .ok (.if_icmp .ge 30, 3) := by decide +kernel
theorem dX4_principalsOn_14 : decode cX4_principalsOn 14 = .ok (.aload_n 0, 1) := by decide +kernel
theorem dX4_principalsOn_15 : decode cX4_principalsOn 15 = .ok (.iload_n 3, 1) := by decide +kernel
theorem dX4_principalsOn_16 : decode cX4_principalsOn 16 = .ok (.iload_n 1, 1) := by decide +kernel
theorem dX4_principalsOn_17 : decode cX4_principalsOn 17 = .ok (.invokevirtual 59, 3) := by decide +kernel
theorem dX4_principalsOn_20 : decode cX4_principalsOn 20 = .ok (.istore 4, 2) := by decide +kernel
theorem dX4_principalsOn_22 : decode cX4_principalsOn 22 = .ok (.iload 4, 2) := by decide +kernel
theorem dX4_principalsOn_24 : decode cX4_principalsOn 24 = .ok (.iconst (-1), 1) := by decide +kernel
theorem dX4_principalsOn_25 : decode cX4_principalsOn 25 = .ok (.if_icmp .eq 10, 3) := by decide +kernel
theorem dX4_principalsOn_28 : decode cX4_principalsOn 28 = .ok (.iload_n 2, 1) := by decide +kernel
theorem dX4_principalsOn_29 : decode cX4_principalsOn 29 = .ok (.iconst 1, 1) := by decide +kernel
theorem dX4_principalsOn_30 : decode cX4_principalsOn 30 = .ok (.iload 4, 2) := by decide +kernel
theorem dX4_principalsOn_32 : decode cX4_principalsOn 32 = .ok (.ishl, 1) := by decide +kernel
theorem dX4_principalsOn_33 : decode cX4_principalsOn 33 = .ok (.ior, 1) := by decide +kernel
theorem dX4_principalsOn_34 : decode cX4_principalsOn 34 = .ok (.istore_n 2, 1) := by decide +kernel
theorem dX4_principalsOn_35 : decode cX4_principalsOn 35 = .ok (.iinc 3 1, 3) := by decide +kernel
theorem dX4_principalsOn_38 : decode cX4_principalsOn 38 = .ok (.goto (-34), 3) := by decide +kernel
theorem dX4_principalsOn_41 : decode cX4_principalsOn 41 = .ok (.iload_n 2, 1) := by decide +kernel
theorem dX4_principalsOn_42 : decode cX4_principalsOn 42 = .ok (.ireturn, 1) := by decide +kernel
theorem dX4_understudies_0 : decode cX4_understudies 0 = .ok (.iload_n 1, 1) := by decide +kernel
theorem dX4_understudies_1 : decode cX4_understudies 1 = .ok (.ifCond .lt 21, 3) := by decide +kernel
theorem dX4_understudies_4 : decode cX4_understudies 4 = .ok (.iload_n 1, 1) := by decide +kernel
theorem dX4_understudies_5 : decode cX4_understudies 5 = .ok (.bipush 6, 2) := by decide +kernel
theorem dX4_understudies_7 : decode cX4_understudies 7 = .ok (.if_icmp .ge 15, 3) := by decide +kernel
theorem dX4_understudies_10 : decode cX4_understudies 10 = .ok (.aload_n 0, 1) := by decide +kernel
theorem dX4_understudies_11 : decode cX4_understudies 11 = .ok (.getfield 11, 3) := by decide +kernel
theorem dX4_understudies_14 : decode cX4_understudies 14 = .ok (.bipush 35, 2) := by decide +kernel
theorem dX4_understudies_16 : decode cX4_understudies 16 = .ok (.iload_n 1, 1) := by decide +kernel
theorem dX4_understudies_17 : decode cX4_understudies 17 = .ok (.iadd, 1) := by decide +kernel
theorem dX4_understudies_18 : decode cX4_understudies 18 = .ok (.iaload, 1) := by decide +kernel
theorem dX4_understudies_19 : decode cX4_understudies 19 = .ok (.goto 4, 3) := by decide +kernel
theorem dX4_understudies_22 : decode cX4_understudies 22 = .ok (.iconst 0, 1) := by decide +kernel
theorem dX4_understudies_23 : decode cX4_understudies 23 = .ok (.ireturn, 1) := by decide +kernel
theorem dX4_understudyAt_0 : decode cX4_understudyAt 0 = .ok (.iload_n 1, 1) := by decide +kernel
theorem dX4_understudyAt_1 : decode cX4_understudyAt 1 = .ok (.ifCond .lt 18, 3) := by decide +kernel
theorem dX4_understudyAt_4 : decode cX4_understudyAt 4 = .ok (.iload_n 1, 1) := by decide +kernel
theorem dX4_understudyAt_5 : decode cX4_understudyAt 5 = .ok (.bipush 6, 2) := by decide +kernel
theorem dX4_understudyAt_7 : decode cX4_understudyAt 7 = .ok (.if_icmp .ge 12, 3) := by decide +kernel
theorem dX4_understudyAt_10 : decode cX4_understudyAt 10 = .ok (.iload_n 2, 1) := by decide +kernel
theorem dX4_understudyAt_11 : decode cX4_understudyAt 11 = .ok (.ifCond .lt 8, 3) := by decide +kernel
theorem dX4_understudyAt_14 : decode cX4_understudyAt 14 = .ok (.iload_n 2, 1) := by decide +kernel
theorem dX4_understudyAt_15 : decode cX4_understudyAt 15 = .ok (.iconst 4, 1) := by decide +kernel
theorem dX4_understudyAt_16 : decode cX4_understudyAt 16 = .ok (.if_icmp .lt 5, 3) := by decide +kernel
theorem dX4_understudyAt_19 : decode cX4_understudyAt 19 = .ok (.iconst (-1), 1) := by decide +kernel
theorem dX4_understudyAt_20 : decode cX4_understudyAt 20 = .ok (.ireturn, 1) := by decide +kernel
theorem dX4_understudyAt_21 : decode cX4_understudyAt 21 = .ok (.iload_n 2, 1) := by decide +kernel
theorem dX4_understudyAt_22 : decode cX4_understudyAt 22 = .ok (.aload_n 0, 1) := by decide +kernel
theorem dX4_understudyAt_23 : decode cX4_understudyAt 23 = .ok (.getfield 11, 3) := by decide +kernel
theorem dX4_understudyAt_26 : decode cX4_understudyAt 26 = .ok (.bipush 35, 2) := by decide +kernel
theorem dX4_understudyAt_28 : decode cX4_understudyAt 28 = .ok (.iload_n 1, 1) := by decide +kernel
theorem dX4_understudyAt_29 : decode cX4_understudyAt 29 = .ok (.iadd, 1) := by decide +kernel
theorem dX4_understudyAt_30 : decode cX4_understudyAt 30 = .ok (.iaload, 1) := by decide +kernel
theorem dX4_understudyAt_31 : decode cX4_understudyAt 31 = .ok (.if_icmp .ge 19, 3) := by decide +kernel
theorem dX4_understudyAt_34 : decode cX4_understudyAt 34 = .ok (.aload_n 0, 1) := by decide +kernel
theorem dX4_understudyAt_35 : decode cX4_understudyAt 35 = .ok (.getfield 11, 3) := by decide +kernel
theorem dX4_understudyAt_38 : decode cX4_understudyAt 38 = .ok (.bipush 41, 2) := by decide +kernel
theorem dX4_understudyAt_40 : decode cX4_understudyAt 40 = .ok (.iload_n 1, 1) := by decide +kernel
theorem dX4_understudyAt_41 : decode cX4_understudyAt 41 = .ok (.iconst 4, 1) := by decide +kernel
theorem dX4_understudyAt_42 : decode cX4_understudyAt 42 = .ok (.imul, 1) := by decide +kernel
theorem dX4_understudyAt_43 : decode cX4_understudyAt 43 = .ok (.iadd, 1) := by decide +kernel
theorem dX4_understudyAt_44 : decode cX4_understudyAt 44 = .ok (.iload_n 2, 1) := by decide +kernel
theorem dX4_understudyAt_45 : decode cX4_understudyAt 45 = .ok (.iadd, 1) := by decide +kernel
theorem dX4_understudyAt_46 : decode cX4_understudyAt 46 = .ok (.iaload, 1) := by decide +kernel
theorem dX4_understudyAt_47 : decode cX4_understudyAt 47 = .ok (.goto 4, 3) := by decide +kernel
theorem dX4_understudyAt_50 : decode cX4_understudyAt 50 = .ok (.iconst (-1), 1) := by decide +kernel
theorem dX4_understudyAt_51 : decode cX4_understudyAt 51 = .ok (.ireturn, 1) := by decide +kernel
theorem dX4_rankOf_0 : decode cX4_rankOf 0 = .ok (.iconst 0, 1) := by decide +kernel
theorem dX4_rankOf_1 : decode cX4_rankOf 1 = .ok (.istore_n 3, 1) := by decide +kernel
theorem dX4_rankOf_2 : decode cX4_rankOf 2 = .ok (.iload_n 3, 1) := by decide +kernel
theorem dX4_rankOf_3 : decode cX4_rankOf 3 = .ok (.aload_n 0, 1) := by decide +kernel
theorem dX4_rankOf_4 : decode cX4_rankOf 4 = .ok (.iload_n 1, 1) := by decide +kernel
theorem dX4_rankOf_5 : decode cX4_rankOf 5 = .ok (.invokevirtual 63, 3) := by decide +kernel
theorem dX4_rankOf_8 : decode cX4_rankOf 8 = .ok (.if_icmp .ge 21, 3) := by decide +kernel
theorem dX4_rankOf_11 : decode cX4_rankOf 11 = .ok (.aload_n 0, 1) := by decide +kernel
theorem dX4_rankOf_12 : decode cX4_rankOf 12 = .ok (.iload_n 1, 1) := by decide +kernel
theorem dX4_rankOf_13 : decode cX4_rankOf 13 = .ok (.iload_n 3, 1) := by decide +kernel
theorem dX4_rankOf_14 : decode cX4_rankOf 14 = .ok (.invokevirtual 67, 3) := by decide +kernel
theorem dX4_rankOf_17 : decode cX4_rankOf 17 = .ok (.iload_n 2, 1) := by decide +kernel
theorem dX4_rankOf_18 : decode cX4_rankOf 18 = .ok (.if_icmp .ne 5, 3) := by decide +kernel
theorem dX4_rankOf_21 : decode cX4_rankOf 21 = .ok (.iload_n 3, 1) := by decide +kernel
theorem dX4_rankOf_22 : decode cX4_rankOf 22 = .ok (.ireturn, 1) := by decide +kernel
theorem dX4_rankOf_23 : decode cX4_rankOf 23 = .ok (.iinc 3 1, 3) := by decide +kernel
theorem dX4_rankOf_26 : decode cX4_rankOf 26 = .ok (.goto (-24), 3) := by decide +kernel
theorem dX4_rankOf_29 : decode cX4_rankOf 29 = .ok (.iconst (-1), 1) := by decide +kernel
theorem dX4_rankOf_30 : decode cX4_rankOf 30 = .ok (.ireturn, 1) := by decide +kernel
theorem dX4_canAddUnderstudy_0 : decode cX4_canAddUnderstudy 0 = .ok (.aload_n 0, 1) := by decide +kernel
theorem dX4_canAddUnderstudy_1 : decode cX4_canAddUnderstudy 1 = .ok (.iload_n 1, 1) := by decide +kernel
theorem dX4_canAddUnderstudy_2 : decode cX4_canAddUnderstudy 2 = .ok (.invokevirtual 53, 3) := by decide +kernel
theorem dX4_canAddUnderstudy_5 : decode cX4_canAddUnderstudy 5 = .ok (.ifCond .eq 41, 3) := by decide +kernel
theorem dX4_canAddUnderstudy_8 : decode cX4_canAddUnderstudy 8 = .ok (.aload_n 0, 1) := by decide +kernel
theorem dX4_canAddUnderstudy_9 : decode cX4_canAddUnderstudy 9 = .ok (.iload_n 2, 1) := by decide +kernel
theorem dX4_canAddUnderstudy_10 : decode cX4_canAddUnderstudy 10 = .ok (.invokevirtual 36, 3) := by decide +kernel
theorem dX4_canAddUnderstudy_13 : decode cX4_canAddUnderstudy 13 = .ok (.ifCond .eq 33, 3) := by decide +kernel
theorem dX4_canAddUnderstudy_16 : decode cX4_canAddUnderstudy 16 = .ok (.aload_n 0, 1) := by decide +kernel
theorem dX4_canAddUnderstudy_17 : decode cX4_canAddUnderstudy 17 = .ok (.getfield 11, 3) := by decide +kernel
theorem dX4_canAddUnderstudy_20 : decode cX4_canAddUnderstudy 20 = .ok (.bipush 35, 2) := by decide +kernel
theorem dX4_canAddUnderstudy_22 : decode cX4_canAddUnderstudy 22 = .ok (.iload_n 1, 1) := by decide +kernel
theorem dX4_canAddUnderstudy_23 : decode cX4_canAddUnderstudy 23 = .ok (.iadd, 1) := by decide +kernel
theorem dX4_canAddUnderstudy_24 : decode cX4_canAddUnderstudy 24 = .ok (.iaload, 1) := by decide +kernel
theorem dX4_canAddUnderstudy_25 : decode cX4_canAddUnderstudy 25 = .ok (.iconst 4, 1) := by decide +kernel
theorem dX4_canAddUnderstudy_26 : decode cX4_canAddUnderstudy 26 = .ok (.invokestatic 28, 3) := by decide +kernel
theorem dX4_canAddUnderstudy_29 : decode cX4_canAddUnderstudy 29 = .ok (.ifCond .eq 17, 3) := by decide +kernel
theorem dX4_canAddUnderstudy_32 : decode cX4_canAddUnderstudy 32 = .ok (.aload_n 0, 1) := by decide +kernel
theorem dX4_canAddUnderstudy_33 : decode cX4_canAddUnderstudy 33 = .ok (.iload_n 1, 1) := by decide +kernel
theorem dX4_canAddUnderstudy_34 : decode cX4_canAddUnderstudy 34 = .ok (.iload_n 2, 1) := by decide +kernel
theorem dX4_canAddUnderstudy_35 : decode cX4_canAddUnderstudy 35 = .ok (.invokevirtual 70, 3) := by decide +kernel
theorem dX4_canAddUnderstudy_38 : decode cX4_canAddUnderstudy 38 = .ok (.iconst (-1), 1) := by decide +kernel
theorem dX4_canAddUnderstudy_39 : decode cX4_canAddUnderstudy 39 = .ok (.if_icmp .ne 7, 3) := by decide +kernel
theorem dX4_canAddUnderstudy_42 : decode cX4_canAddUnderstudy 42 = .ok (.iconst 1, 1) := by decide +kernel
theorem dX4_canAddUnderstudy_43 : decode cX4_canAddUnderstudy 43 = .ok (.goto 4, 3) := by decide +kernel
theorem dX4_canAddUnderstudy_46 : decode cX4_canAddUnderstudy 46 = .ok (.iconst 0, 1) := by decide +kernel
theorem dX4_canAddUnderstudy_47 : decode cX4_canAddUnderstudy 47 = .ok (.ireturn, 1) := by decide +kernel
theorem dX4_addUnderstudy_0 : decode cX4_addUnderstudy 0 = .ok (.aload_n 0, 1) := by decide +kernel
theorem dX4_addUnderstudy_1 : decode cX4_addUnderstudy 1 = .ok (.iload_n 1, 1) := by decide +kernel
theorem dX4_addUnderstudy_2 : decode cX4_addUnderstudy 2 = .ok (.iload_n 2, 1) := by decide +kernel
theorem dX4_addUnderstudy_3 : decode cX4_addUnderstudy 3 = .ok (.invokevirtual 73, 3) := by decide +kernel
theorem dX4_addUnderstudy_6 : decode cX4_addUnderstudy 6 = .ok (.ifCond .ne 5, 3) := by decide +kernel
theorem dX4_addUnderstudy_9 : decode cX4_addUnderstudy 9 = .ok (.iconst 0, 1) := by decide +kernel
theorem dX4_addUnderstudy_10 : decode cX4_addUnderstudy 10 = .ok (.ireturn, 1) := by decide +kernel
theorem dX4_addUnderstudy_11 : decode cX4_addUnderstudy 11 = .ok (.aload_n 0, 1) := by decide +kernel
theorem dX4_addUnderstudy_12 : decode cX4_addUnderstudy 12 = .ok (.getfield 11, 3) := by decide +kernel
theorem dX4_addUnderstudy_15 : decode cX4_addUnderstudy 15 = .ok (.bipush 35, 2) := by decide +kernel
theorem dX4_addUnderstudy_17 : decode cX4_addUnderstudy 17 = .ok (.iload_n 1, 1) := by decide +kernel
theorem dX4_addUnderstudy_18 : decode cX4_addUnderstudy 18 = .ok (.iadd, 1) := by decide +kernel
theorem dX4_addUnderstudy_19 : decode cX4_addUnderstudy 19 = .ok (.iaload, 1) := by decide +kernel
theorem dX4_addUnderstudy_20 : decode cX4_addUnderstudy 20 = .ok (.istore_n 3, 1) := by decide +kernel
theorem dX4_addUnderstudy_21 : decode cX4_addUnderstudy 21 = .ok (.aload_n 0, 1) := by decide +kernel
theorem dX4_addUnderstudy_22 : decode cX4_addUnderstudy 22 = .ok (.getfield 11, 3) := by decide +kernel
theorem dX4_addUnderstudy_25 : decode cX4_addUnderstudy 25 = .ok (.bipush 41, 2) := by decide +kernel
theorem dX4_addUnderstudy_27 : decode cX4_addUnderstudy 27 = .ok (.iload_n 1, 1) := by decide +kernel
theorem dX4_addUnderstudy_28 : decode cX4_addUnderstudy 28 = .ok (.iconst 4, 1) := by decide +kernel
theorem dX4_addUnderstudy_29 : decode cX4_addUnderstudy 29 = .ok (.imul, 1) := by decide +kernel
theorem dX4_addUnderstudy_30 : decode cX4_addUnderstudy 30 = .ok (.iadd, 1) := by decide +kernel
theorem dX4_addUnderstudy_31 : decode cX4_addUnderstudy 31 = .ok (.iload_n 3, 1) := by decide +kernel
theorem dX4_addUnderstudy_32 : decode cX4_addUnderstudy 32 = .ok (.iadd, 1) := by decide +kernel
theorem dX4_addUnderstudy_33 : decode cX4_addUnderstudy 33 = .ok (.iload_n 2, 1) := by decide +kernel
theorem dX4_addUnderstudy_34 : decode cX4_addUnderstudy 34 = .ok (.iastore, 1) := by decide +kernel
theorem dX4_addUnderstudy_35 : decode cX4_addUnderstudy 35 = .ok (.aload_n 0, 1) := by decide +kernel
theorem dX4_addUnderstudy_36 : decode cX4_addUnderstudy 36 = .ok (.getfield 11, 3) := by decide +kernel
theorem dX4_addUnderstudy_39 : decode cX4_addUnderstudy 39 = .ok (.bipush 35, 2) := by decide +kernel
theorem dX4_addUnderstudy_41 : decode cX4_addUnderstudy 41 = .ok (.iload_n 1, 1) := by decide +kernel
theorem dX4_addUnderstudy_42 : decode cX4_addUnderstudy 42 = .ok (.iadd, 1) := by decide +kernel
theorem dX4_addUnderstudy_43 : decode cX4_addUnderstudy 43 = .ok (.iload_n 3, 1) := by decide +kernel
theorem dX4_addUnderstudy_44 : decode cX4_addUnderstudy 44 = .ok (.iconst 1, 1) := by decide +kernel
theorem dX4_addUnderstudy_45 : decode cX4_addUnderstudy 45 = .ok (.iadd, 1) := by decide +kernel
theorem dX4_addUnderstudy_46 : decode cX4_addUnderstudy 46 = .ok (.iastore, 1) := by decide +kernel
theorem dX4_addUnderstudy_47 : decode cX4_addUnderstudy 47 = .ok (.iconst 1, 1) := by decide +kernel
theorem dX4_addUnderstudy_48 : decode cX4_addUnderstudy 48 = .ok (.ireturn, 1) := by decide +kernel
theorem dX4_dropUnderstudy_0 : decode cX4_dropUnderstudy 0 = .ok (.aload_n 0, 1) := by decide +kernel
theorem dX4_dropUnderstudy_1 : decode cX4_dropUnderstudy 1 = .ok (.iload_n 1, 1) := by decide +kernel
theorem dX4_dropUnderstudy_2 : decode cX4_dropUnderstudy 2 = .ok (.invokevirtual 53, 3) := by decide +kernel
theorem dX4_dropUnderstudy_5 : decode cX4_dropUnderstudy 5 = .ok (.ifCond .eq 11, 3) := by decide +kernel
theorem dX4_dropUnderstudy_8 : decode cX4_dropUnderstudy 8 = .ok (.aload_n 0, 1) := by decide +kernel
theorem dX4_dropUnderstudy_9 : decode cX4_dropUnderstudy 9 = .ok (.iload_n 2, 1) := by decide +kernel
theorem dX4_dropUnderstudy_10 : decode cX4_dropUnderstudy 10 = .ok (.invokevirtual 36, 3) := by decide +kernel
theorem dX4_dropUnderstudy_13 : decode cX4_dropUnderstudy 13 = .ok (.ifCond .ne 5, 3) := by decide +kernel
theorem dX4_dropUnderstudy_16 : decode cX4_dropUnderstudy 16 = .ok (.iconst 0, 1) := by decide +kernel
theorem dX4_dropUnderstudy_17 : decode cX4_dropUnderstudy 17 = .ok (.ireturn, 1) := by decide +kernel
theorem dX4_dropUnderstudy_18 : decode cX4_dropUnderstudy 18 = .ok (.aload_n 0, 1) := by decide +kernel
theorem dX4_dropUnderstudy_19 : decode cX4_dropUnderstudy 19 = .ok (.iload_n 1, 1) := by decide +kernel
theorem dX4_dropUnderstudy_20 : decode cX4_dropUnderstudy 20 = .ok (.iload_n 2, 1) := by decide +kernel
theorem dX4_dropUnderstudy_21 : decode cX4_dropUnderstudy 21 = .ok (.invokevirtual 70, 3) := by decide +kernel
theorem dX4_dropUnderstudy_24 : decode cX4_dropUnderstudy 24 = .ok (.istore_n 3, 1) := by decide +kernel
theorem dX4_dropUnderstudy_25 : decode cX4_dropUnderstudy 25 = .ok (.iload_n 3, 1) := by decide +kernel
theorem dX4_dropUnderstudy_26 : decode cX4_dropUnderstudy 26 = .ok (.iconst (-1), 1) := by decide +kernel
theorem dX4_dropUnderstudy_27 : decode cX4_dropUnderstudy 27 = .ok (.if_icmp .ne 5, 3) := by decide +kernel
theorem dX4_dropUnderstudy_30 : decode cX4_dropUnderstudy 30 = .ok (.iconst 0, 1) := by decide +kernel
theorem dX4_dropUnderstudy_31 : decode cX4_dropUnderstudy 31 = .ok (.ireturn, 1) := by decide +kernel
theorem dX4_dropUnderstudy_32 : decode cX4_dropUnderstudy 32 = .ok (.bipush 41, 2) := by decide +kernel
theorem dX4_dropUnderstudy_34 : decode cX4_dropUnderstudy 34 = .ok (.iload_n 1, 1) := by decide +kernel
theorem dX4_dropUnderstudy_35 : decode cX4_dropUnderstudy 35 = .ok (.iconst 4, 1) := by decide +kernel
theorem dX4_dropUnderstudy_36 : decode cX4_dropUnderstudy 36 = .ok (.imul, 1) := by decide +kernel
theorem dX4_dropUnderstudy_37 : decode cX4_dropUnderstudy 37 = .ok (.iadd, 1) := by decide +kernel
theorem dX4_dropUnderstudy_38 : decode cX4_dropUnderstudy 38 = .ok (.istore 4, 2) := by decide +kernel
theorem dX4_dropUnderstudy_40 : decode cX4_dropUnderstudy 40 = .ok (.iload_n 3, 1) := by decide +kernel
theorem dX4_dropUnderstudy_41 : decode cX4_dropUnderstudy 41 = .ok (.istore 5, 2) := by decide +kernel
theorem dX4_dropUnderstudy_43 : decode cX4_dropUnderstudy 43 = .ok (.iload 5, 2) := by decide +kernel
theorem dX4_dropUnderstudy_45 : decode cX4_dropUnderstudy 45 = .ok (.iconst 1, 1) := by decide +kernel
theorem dX4_dropUnderstudy_46 : decode cX4_dropUnderstudy 46 = .ok (.iadd, 1) := by decide +kernel
theorem dX4_dropUnderstudy_47 : decode cX4_dropUnderstudy 47 = .ok (.iconst 4, 1) := by decide +kernel
theorem dX4_dropUnderstudy_48 : decode cX4_dropUnderstudy 48 = .ok (.if_icmp .ge 31, 3) := by decide +kernel
theorem dX4_dropUnderstudy_51 : decode cX4_dropUnderstudy 51 = .ok (.aload_n 0, 1) := by decide +kernel
theorem dX4_dropUnderstudy_52 : decode cX4_dropUnderstudy 52 = .ok (.getfield 11, 3) := by decide +kernel
theorem dX4_dropUnderstudy_55 : decode cX4_dropUnderstudy 55 = .ok (.iload 4, 2) := by decide +kernel
theorem dX4_dropUnderstudy_57 : decode cX4_dropUnderstudy 57 = .ok (.iload 5, 2) := by decide +kernel
theorem dX4_dropUnderstudy_59 : decode cX4_dropUnderstudy 59 = .ok (.iadd, 1) := by decide +kernel
theorem dX4_dropUnderstudy_60 : decode cX4_dropUnderstudy 60 = .ok (.aload_n 0, 1) := by decide +kernel
theorem dX4_dropUnderstudy_61 : decode cX4_dropUnderstudy 61 = .ok (.getfield 11, 3) := by decide +kernel
theorem dX4_dropUnderstudy_64 : decode cX4_dropUnderstudy 64 = .ok (.iload 4, 2) := by decide +kernel
theorem dX4_dropUnderstudy_66 : decode cX4_dropUnderstudy 66 = .ok (.iload 5, 2) := by decide +kernel
theorem dX4_dropUnderstudy_68 : decode cX4_dropUnderstudy 68 = .ok (.iadd, 1) := by decide +kernel
theorem dX4_dropUnderstudy_69 : decode cX4_dropUnderstudy 69 = .ok (.iconst 1, 1) := by decide +kernel
theorem dX4_dropUnderstudy_70 : decode cX4_dropUnderstudy 70 = .ok (.iadd, 1) := by decide +kernel
theorem dX4_dropUnderstudy_71 : decode cX4_dropUnderstudy 71 = .ok (.iaload, 1) := by decide +kernel
theorem dX4_dropUnderstudy_72 : decode cX4_dropUnderstudy 72 = .ok (.iastore, 1) := by decide +kernel
theorem dX4_dropUnderstudy_73 : decode cX4_dropUnderstudy 73 = .ok (.iinc 5 1, 3) := by decide +kernel
theorem dX4_dropUnderstudy_76 : decode cX4_dropUnderstudy 76 = .ok (.goto (-33), 3) := by decide +kernel
theorem dX4_dropUnderstudy_79 : decode cX4_dropUnderstudy 79 = .ok (.aload_n 0, 1) := by decide +kernel
theorem dX4_dropUnderstudy_80 : decode cX4_dropUnderstudy 80 = .ok (.getfield 11, 3) := by decide +kernel
theorem dX4_dropUnderstudy_83 : decode cX4_dropUnderstudy 83 = .ok (.bipush 35, 2) := by decide +kernel
theorem dX4_dropUnderstudy_85 : decode cX4_dropUnderstudy 85 = .ok (.iload_n 1, 1) := by decide +kernel
theorem dX4_dropUnderstudy_86 : decode cX4_dropUnderstudy 86 = .ok (.iadd, 1) := by decide +kernel
theorem dX4_dropUnderstudy_87 : decode cX4_dropUnderstudy 87 = .ok (.dup2, 1) := by decide +kernel
theorem dX4_dropUnderstudy_88 : decode cX4_dropUnderstudy 88 = .ok (.iaload, 1) := by decide +kernel
theorem dX4_dropUnderstudy_89 : decode cX4_dropUnderstudy 89 = .ok (.iconst 1, 1) := by decide +kernel
theorem dX4_dropUnderstudy_90 : decode cX4_dropUnderstudy 90 = .ok (.isub, 1) := by decide +kernel
theorem dX4_dropUnderstudy_91 : decode cX4_dropUnderstudy 91 = .ok (.iastore, 1) := by decide +kernel
theorem dX4_dropUnderstudy_92 : decode cX4_dropUnderstudy 92 = .ok (.iconst 1, 1) := by decide +kernel
theorem dX4_dropUnderstudy_93 : decode cX4_dropUnderstudy 93 = .ok (.ireturn, 1) := by decide +kernel
theorem dX4_canAddSlip_0 : decode cX4_canAddSlip 0 = .ok (.iload_n 1, 1) := by decide +kernel
theorem dX4_canAddSlip_1 : decode cX4_canAddSlip 1 = .ok (.invokestatic 39, 3) := by decide +kernel
theorem dX4_canAddSlip_4 : decode cX4_canAddSlip 4 = .ok (.ifCond .eq 49, 3) := by decide +kernel
theorem dX4_canAddSlip_7 : decode cX4_canAddSlip 7 = .ok (.aload_n 0, 1) := by decide +kernel
theorem dX4_canAddSlip_8 : decode cX4_canAddSlip 8 = .ok (.iload_n 2, 1) := by decide +kernel
theorem dX4_canAddSlip_9 : decode cX4_canAddSlip 9 = .ok (.invokevirtual 53, 3) := by decide +kernel
theorem dX4_canAddSlip_12 : decode cX4_canAddSlip 12 = .ok (.ifCond .eq 41, 3) := by decide +kernel
theorem dX4_canAddSlip_15 : decode cX4_canAddSlip 15 = .ok (.aload_n 0, 1) := by decide +kernel
theorem dX4_canAddSlip_16 : decode cX4_canAddSlip 16 = .ok (.iload_n 3, 1) := by decide +kernel
theorem dX4_canAddSlip_17 : decode cX4_canAddSlip 17 = .ok (.invokevirtual 36, 3) := by decide +kernel
theorem dX4_canAddSlip_20 : decode cX4_canAddSlip 20 = .ok (.ifCond .eq 33, 3) := by decide +kernel
theorem dX4_canAddSlip_23 : decode cX4_canAddSlip 23 = .ok (.iload 4, 2) := by decide +kernel
theorem dX4_canAddSlip_25 : decode cX4_canAddSlip 25 = .ok (.ifCond .lt 28, 3) := by decide +kernel
theorem dX4_canAddSlip_28 : decode cX4_canAddSlip 28 = .ok (.iload 4, 2) := by decide +kernel
theorem dX4_canAddSlip_30 : decode cX4_canAddSlip 30 = .ok (.bipush 24, 2) := by decide +kernel
theorem dX4_canAddSlip_32 : decode cX4_canAddSlip 32 = .ok (.if_icmp .ge 21, 3) := by decide +kernel
theorem dX4_canAddSlip_35 : decode cX4_canAddSlip 35 = .ok (.aload_n 0, 1) := by decide +kernel
theorem dX4_canAddSlip_36 : decode cX4_canAddSlip 36 = .ok (.getfield 11, 3) := by decide +kernel
theorem dX4_canAddSlip_39 : decode cX4_canAddSlip 39 = .ok (.iconst 2, 1) := by decide +kernel
theorem dX4_canAddSlip_40 : decode cX4_canAddSlip 40 = .ok (.iaload, 1) := by decide +kernel
theorem dX4_canAddSlip_41 : decode cX4_canAddSlip 41 = .ok (.bipush 20, 2) := by decide +kernel
theorem dX4_canAddSlip_43 : decode cX4_canAddSlip 43 = .ok (.invokestatic 28, 3) := by decide +kernel
theorem dX4_canAddSlip_46 : decode cX4_canAddSlip 46 = .ok (.ifCond .eq 7, 3) := by decide +kernel
theorem dX4_canAddSlip_49 : decode cX4_canAddSlip 49 = .ok (.iconst 1, 1) := by decide +kernel
theorem dX4_canAddSlip_50 : decode cX4_canAddSlip 50 = .ok (.goto 4, 3) := by decide +kernel
theorem dX4_canAddSlip_53 : decode cX4_canAddSlip 53 = .ok (.iconst 0, 1) := by decide +kernel
theorem dX4_canAddSlip_54 : decode cX4_canAddSlip 54 = .ok (.ireturn, 1) := by decide +kernel
theorem dX4_addSlip_0 : decode cX4_addSlip 0 = .ok (.aload_n 0, 1) := by decide +kernel
theorem dX4_addSlip_1 : decode cX4_addSlip 1 = .ok (.iload_n 1, 1) := by decide +kernel
theorem dX4_addSlip_2 : decode cX4_addSlip 2 = .ok (.iload_n 2, 1) := by decide +kernel
theorem dX4_addSlip_3 : decode cX4_addSlip 3 = .ok (.iload_n 3, 1) := by decide +kernel
theorem dX4_addSlip_4 : decode cX4_addSlip 4 = .ok (.iload 4, 2) := by decide +kernel
theorem dX4_addSlip_6 : decode cX4_addSlip 6 = .ok (.invokevirtual 76, 3) := by decide +kernel
theorem dX4_addSlip_9 : decode cX4_addSlip 9 = .ok (.ifCond .ne 5, 3) := by decide +kernel
theorem dX4_addSlip_12 : decode cX4_addSlip 12 = .ok (.iconst 0, 1) := by decide +kernel
theorem dX4_addSlip_13 : decode cX4_addSlip 13 = .ok (.ireturn, 1) := by decide +kernel
theorem dX4_addSlip_14 : decode cX4_addSlip 14 = .ok (.aload_n 0, 1) := by decide +kernel
theorem dX4_addSlip_15 : decode cX4_addSlip 15 = .ok (.getfield 11, 3) := by decide +kernel
theorem dX4_addSlip_18 : decode cX4_addSlip 18 = .ok (.iconst 2, 1) := by decide +kernel
theorem dX4_addSlip_19 : decode cX4_addSlip 19 = .ok (.iaload, 1) := by decide +kernel
theorem dX4_addSlip_20 : decode cX4_addSlip 20 = .ok (.istore 5, 2) := by decide +kernel
theorem dX4_addSlip_22 : decode cX4_addSlip 22 = .ok (.sipush 185, 3) := by decide +kernel
theorem dX4_addSlip_25 : decode cX4_addSlip 25 = .ok (.iload 5, 2) := by decide +kernel
theorem dX4_addSlip_27 : decode cX4_addSlip 27 = .ok (.iconst 4, 1) := by decide +kernel
theorem dX4_addSlip_28 : decode cX4_addSlip 28 = .ok (.imul, 1) := by decide +kernel
theorem dX4_addSlip_29 : decode cX4_addSlip 29 = .ok (.iadd, 1) := by decide +kernel
theorem dX4_addSlip_30 : decode cX4_addSlip 30 = .ok (.istore 6, 2) := by decide +kernel
theorem dX4_addSlip_32 : decode cX4_addSlip 32 = .ok (.aload_n 0, 1) := by decide +kernel
theorem dX4_addSlip_33 : decode cX4_addSlip 33 = .ok (.getfield 11, 3) := by decide +kernel
theorem dX4_addSlip_36 : decode cX4_addSlip 36 = .ok (.iload 6, 2) := by decide +kernel
theorem dX4_addSlip_38 : decode cX4_addSlip 38 = .ok (.iload_n 1, 1) := by decide +kernel
theorem dX4_addSlip_39 : decode cX4_addSlip 39 = .ok (.iastore, 1) := by decide +kernel
theorem dX4_addSlip_40 : decode cX4_addSlip 40 = .ok (.aload_n 0, 1) := by decide +kernel
theorem dX4_addSlip_41 : decode cX4_addSlip 41 = .ok (.getfield 11, 3) := by decide +kernel
theorem dX4_addSlip_44 : decode cX4_addSlip 44 = .ok (.iload 6, 2) := by decide +kernel
theorem dX4_addSlip_46 : decode cX4_addSlip 46 = .ok (.iconst 1, 1) := by decide +kernel
theorem dX4_addSlip_47 : decode cX4_addSlip 47 = .ok (.iadd, 1) := by decide +kernel
theorem dX4_addSlip_48 : decode cX4_addSlip 48 = .ok (.iload_n 2, 1) := by decide +kernel
theorem dX4_addSlip_49 : decode cX4_addSlip 49 = .ok (.iastore, 1) := by decide +kernel
theorem dX4_addSlip_50 : decode cX4_addSlip 50 = .ok (.aload_n 0, 1) := by decide +kernel
theorem dX4_addSlip_51 : decode cX4_addSlip 51 = .ok (.getfield 11, 3) := by decide +kernel
theorem dX4_addSlip_54 : decode cX4_addSlip 54 = .ok (.iload 6, 2) := by decide +kernel
theorem dX4_addSlip_56 : decode cX4_addSlip 56 = .ok (.iconst 2, 1) := by decide +kernel
theorem dX4_addSlip_57 : decode cX4_addSlip 57 = .ok (.iadd, 1) := by decide +kernel
theorem dX4_addSlip_58 : decode cX4_addSlip 58 = .ok (.iload_n 3, 1) := by decide +kernel
theorem dX4_addSlip_59 : decode cX4_addSlip 59 = .ok (.iastore, 1) := by decide +kernel
theorem dX4_addSlip_60 : decode cX4_addSlip 60 = .ok (.aload_n 0, 1) := by decide +kernel
theorem dX4_addSlip_61 : decode cX4_addSlip 61 = .ok (.getfield 11, 3) := by decide +kernel
theorem dX4_addSlip_64 : decode cX4_addSlip 64 = .ok (.iload 6, 2) := by decide +kernel
theorem dX4_addSlip_66 : decode cX4_addSlip 66 = .ok (.iconst 3, 1) := by decide +kernel
theorem dX4_addSlip_67 : decode cX4_addSlip 67 = .ok (.iadd, 1) := by decide +kernel
theorem dX4_addSlip_68 : decode cX4_addSlip 68 = .ok (.iload 4, 2) := by decide +kernel
theorem dX4_addSlip_70 : decode cX4_addSlip 70 = .ok (.iastore, 1) := by decide +kernel
theorem dX4_addSlip_71 : decode cX4_addSlip 71 = .ok (.aload_n 0, 1) := by decide +kernel
theorem dX4_addSlip_72 : decode cX4_addSlip 72 = .ok (.getfield 11, 3) := by decide +kernel
theorem dX4_addSlip_75 : decode cX4_addSlip 75 = .ok (.iconst 2, 1) := by decide +kernel
theorem dX4_addSlip_76 : decode cX4_addSlip 76 = .ok (.iload 5, 2) := by decide +kernel
theorem dX4_addSlip_78 : decode cX4_addSlip 78 = .ok (.iconst 1, 1) := by decide +kernel
theorem dX4_addSlip_79 : decode cX4_addSlip 79 = .ok (.iadd, 1) := by decide +kernel
theorem dX4_addSlip_80 : decode cX4_addSlip 80 = .ok (.iastore, 1) := by decide +kernel
theorem dX4_addSlip_81 : decode cX4_addSlip 81 = .ok (.iconst 1, 1) := by decide +kernel
theorem dX4_addSlip_82 : decode cX4_addSlip 82 = .ok (.ireturn, 1) := by decide +kernel
theorem dX4_dropSlip_0 : decode cX4_dropSlip 0 = .ok (.aload_n 0, 1) := by decide +kernel
theorem dX4_dropSlip_1 : decode cX4_dropSlip 1 = .ok (.iload_n 1, 1) := by decide +kernel
theorem dX4_dropSlip_2 : decode cX4_dropSlip 2 = .ok (.invokevirtual 80, 3) := by decide +kernel
theorem dX4_dropSlip_5 : decode cX4_dropSlip 5 = .ok (.ifCond .ne 5, 3) := by decide +kernel
theorem dX4_dropSlip_8 : decode cX4_dropSlip 8 = .ok (.iconst 0, 1) := by decide +kernel
theorem dX4_dropSlip_9 : decode cX4_dropSlip 9 = .ok (.ireturn, 1) := by decide +kernel
theorem dX4_dropSlip_10 : decode cX4_dropSlip 10 = .ok (.sipush 185, 3) := by decide +kernel
theorem dX4_dropSlip_13 : decode cX4_dropSlip 13 = .ok (.iload_n 1, 1) := by decide +kernel
theorem dX4_dropSlip_14 : decode cX4_dropSlip 14 = .ok (.iconst 4, 1) := by decide +kernel
theorem dX4_dropSlip_15 : decode cX4_dropSlip 15 = .ok (.imul, 1) := by decide +kernel
theorem dX4_dropSlip_16 : decode cX4_dropSlip 16 = .ok (.iadd, 1) := by decide +kernel
theorem dX4_dropSlip_17 : decode cX4_dropSlip 17 = .ok (.istore_n 2, 1) := by decide +kernel
theorem dX4_dropSlip_18 : decode cX4_dropSlip 18 = .ok (.iload_n 2, 1) := by decide +kernel
theorem dX4_dropSlip_19 : decode cX4_dropSlip 19 = .ok (.iconst 4, 1) := by decide +kernel
theorem dX4_dropSlip_20 : decode cX4_dropSlip 20 = .ok (.iadd, 1) := by decide +kernel
theorem dX4_dropSlip_21 : decode cX4_dropSlip 21 = .ok (.sipush 265, 3) := by decide +kernel
theorem dX4_dropSlip_24 : decode cX4_dropSlip 24 = .ok (.if_icmp .ge 23, 3) := by decide +kernel
theorem dX4_dropSlip_27 : decode cX4_dropSlip 27 = .ok (.aload_n 0, 1) := by decide +kernel
theorem dX4_dropSlip_28 : decode cX4_dropSlip 28 = .ok (.getfield 11, 3) := by decide +kernel
theorem dX4_dropSlip_31 : decode cX4_dropSlip 31 = .ok (.iload_n 2, 1) := by decide +kernel
theorem dX4_dropSlip_32 : decode cX4_dropSlip 32 = .ok (.aload_n 0, 1) := by decide +kernel
theorem dX4_dropSlip_33 : decode cX4_dropSlip 33 = .ok (.getfield 11, 3) := by decide +kernel
theorem dX4_dropSlip_36 : decode cX4_dropSlip 36 = .ok (.iload_n 2, 1) := by decide +kernel
theorem dX4_dropSlip_37 : decode cX4_dropSlip 37 = .ok (.iconst 4, 1) := by decide +kernel
theorem dX4_dropSlip_38 : decode cX4_dropSlip 38 = .ok (.iadd, 1) := by decide +kernel
theorem dX4_dropSlip_39 : decode cX4_dropSlip 39 = .ok (.iaload, 1) := by decide +kernel
theorem dX4_dropSlip_40 : decode cX4_dropSlip 40 = .ok (.iastore, 1) := by decide +kernel
theorem dX4_dropSlip_41 : decode cX4_dropSlip 41 = .ok (.iinc 2 1, 3) := by decide +kernel
theorem dX4_dropSlip_44 : decode cX4_dropSlip 44 = .ok (.goto (-26), 3) := by decide +kernel
theorem dX4_dropSlip_47 : decode cX4_dropSlip 47 = .ok (.aload_n 0, 1) := by decide +kernel
theorem dX4_dropSlip_48 : decode cX4_dropSlip 48 = .ok (.getfield 11, 3) := by decide +kernel
theorem dX4_dropSlip_51 : decode cX4_dropSlip 51 = .ok (.iconst 2, 1) := by decide +kernel
theorem dX4_dropSlip_52 : decode cX4_dropSlip 52 = .ok (.dup2, 1) := by decide +kernel
theorem dX4_dropSlip_53 : decode cX4_dropSlip 53 = .ok (.iaload, 1) := by decide +kernel
theorem dX4_dropSlip_54 : decode cX4_dropSlip 54 = .ok (.iconst 1, 1) := by decide +kernel
theorem dX4_dropSlip_55 : decode cX4_dropSlip 55 = .ok (.isub, 1) := by decide +kernel
theorem dX4_dropSlip_56 : decode cX4_dropSlip 56 = .ok (.iastore, 1) := by decide +kernel
theorem dX4_dropSlip_57 : decode cX4_dropSlip 57 = .ok (.iconst 1, 1) := by decide +kernel
theorem dX4_dropSlip_58 : decode cX4_dropSlip 58 = .ok (.ireturn, 1) := by decide +kernel
theorem dX4_slipNight_0 : decode cX4_slipNight 0 = .ok (.iload_n 1, 1) := by decide +kernel
theorem dX4_slipNight_1 : decode cX4_slipNight 1 = .ok (.ifCond .lt 24, 3) := by decide +kernel
theorem dX4_slipNight_4 : decode cX4_slipNight 4 = .ok (.iload_n 1, 1) := by decide +kernel
theorem dX4_slipNight_5 : decode cX4_slipNight 5 = .ok (.bipush 20, 2) := by decide +kernel
theorem dX4_slipNight_7 : decode cX4_slipNight 7 = .ok (.if_icmp .ge 18, 3) := by decide +kernel
theorem dX4_slipNight_10 : decode cX4_slipNight 10 = .ok (.aload_n 0, 1) := by decide +kernel
theorem dX4_slipNight_11 : decode cX4_slipNight 11 = .ok (.getfield 11, 3) := by decide +kernel
theorem dX4_slipNight_14 : decode cX4_slipNight 14 = .ok (.sipush 185, 3) := by decide +kernel
theorem dX4_slipNight_17 : decode cX4_slipNight 17 = .ok (.iload_n 1, 1) := by decide +kernel
theorem dX4_slipNight_18 : decode cX4_slipNight 18 = .ok (.iconst 4, 1) := by decide +kernel
theorem dX4_slipNight_19 : decode cX4_slipNight 19 = .ok (.imul, 1) := by decide +kernel
theorem dX4_slipNight_20 : decode cX4_slipNight 20 = .ok (.iadd, 1) := by decide +kernel
theorem dX4_slipNight_21 : decode cX4_slipNight 21 = .ok (.iaload, 1) := by decide +kernel
theorem dX4_slipNight_22 : decode cX4_slipNight 22 = .ok (.goto 4, 3) := by decide +kernel
theorem dX4_slipNight_25 : decode cX4_slipNight 25 = .ok (.iconst (-1), 1) := by decide +kernel
theorem dX4_slipNight_26 : decode cX4_slipNight 26 = .ok (.ireturn, 1) := by decide +kernel
theorem dX4_slipPart_0 : decode cX4_slipPart 0 = .ok (.iload_n 1, 1) := by decide +kernel
theorem dX4_slipPart_1 : decode cX4_slipPart 1 = .ok (.ifCond .lt 26, 3) := by decide +kernel
theorem dX4_slipPart_4 : decode cX4_slipPart 4 = .ok (.iload_n 1, 1) := by decide +kernel
theorem dX4_slipPart_5 : decode cX4_slipPart 5 = .ok (.bipush 20, 2) := by decide +kernel
theorem dX4_slipPart_7 : decode cX4_slipPart 7 = .ok (.if_icmp .ge 20, 3) := by decide +kernel
theorem dX4_slipPart_10 : decode cX4_slipPart 10 = .ok (.aload_n 0, 1) := by decide +kernel
theorem dX4_slipPart_11 : decode cX4_slipPart 11 = .ok (.getfield 11, 3) := by decide +kernel
theorem dX4_slipPart_14 : decode cX4_slipPart 14 = .ok (.sipush 185, 3) := by decide +kernel
theorem dX4_slipPart_17 : decode cX4_slipPart 17 = .ok (.iload_n 1, 1) := by decide +kernel
theorem dX4_slipPart_18 : decode cX4_slipPart 18 = .ok (.iconst 4, 1) := by decide +kernel
theorem dX4_slipPart_19 : decode cX4_slipPart 19 = .ok (.imul, 1) := by decide +kernel
theorem dX4_slipPart_20 : decode cX4_slipPart 20 = .ok (.iadd, 1) := by decide +kernel
theorem dX4_slipPart_21 : decode cX4_slipPart 21 = .ok (.iconst 1, 1) := by decide +kernel
theorem dX4_slipPart_22 : decode cX4_slipPart 22 = .ok (.iadd, 1) := by decide +kernel
theorem dX4_slipPart_23 : decode cX4_slipPart 23 = .ok (.iaload, 1) := by decide +kernel
theorem dX4_slipPart_24 : decode cX4_slipPart 24 = .ok (.goto 4, 3) := by decide +kernel
theorem dX4_slipPart_27 : decode cX4_slipPart 27 = .ok (.iconst (-1), 1) := by decide +kernel
theorem dX4_slipPart_28 : decode cX4_slipPart 28 = .ok (.ireturn, 1) := by decide +kernel
theorem dX4_slipActor_0 : decode cX4_slipActor 0 = .ok (.iload_n 1, 1) := by decide +kernel
theorem dX4_slipActor_1 : decode cX4_slipActor 1 = .ok (.ifCond .lt 26, 3) := by decide +kernel
theorem dX4_slipActor_4 : decode cX4_slipActor 4 = .ok (.iload_n 1, 1) := by decide +kernel
theorem dX4_slipActor_5 : decode cX4_slipActor 5 = .ok (.bipush 20, 2) := by decide +kernel
theorem dX4_slipActor_7 : decode cX4_slipActor 7 = .ok (.if_icmp .ge 20, 3) := by decide +kernel
theorem dX4_slipActor_10 : decode cX4_slipActor 10 = .ok (.aload_n 0, 1) := by decide +kernel
theorem dX4_slipActor_11 : decode cX4_slipActor 11 = .ok (.getfield 11, 3) := by decide +kernel
theorem dX4_slipActor_14 : decode cX4_slipActor 14 = .ok (.sipush 185, 3) := by decide +kernel
theorem dX4_slipActor_17 : decode cX4_slipActor 17 = .ok (.iload_n 1, 1) := by decide +kernel
theorem dX4_slipActor_18 : decode cX4_slipActor 18 = .ok (.iconst 4, 1) := by decide +kernel
theorem dX4_slipActor_19 : decode cX4_slipActor 19 = .ok (.imul, 1) := by decide +kernel
theorem dX4_slipActor_20 : decode cX4_slipActor 20 = .ok (.iadd, 1) := by decide +kernel
theorem dX4_slipActor_21 : decode cX4_slipActor 21 = .ok (.iconst 2, 1) := by decide +kernel
theorem dX4_slipActor_22 : decode cX4_slipActor 22 = .ok (.iadd, 1) := by decide +kernel
theorem dX4_slipActor_23 : decode cX4_slipActor 23 = .ok (.iaload, 1) := by decide +kernel
theorem dX4_slipActor_24 : decode cX4_slipActor 24 = .ok (.goto 4, 3) := by decide +kernel
theorem dX4_slipActor_27 : decode cX4_slipActor 27 = .ok (.iconst (-1), 1) := by decide +kernel
theorem dX4_slipActor_28 : decode cX4_slipActor 28 = .ok (.ireturn, 1) := by decide +kernel
theorem dX4_slipHour_0 : decode cX4_slipHour 0 = .ok (.iload_n 1, 1) := by decide +kernel
theorem dX4_slipHour_1 : decode cX4_slipHour 1 = .ok (.ifCond .lt 26, 3) := by decide +kernel
theorem dX4_slipHour_4 : decode cX4_slipHour 4 = .ok (.iload_n 1, 1) := by decide +kernel
theorem dX4_slipHour_5 : decode cX4_slipHour 5 = .ok (.bipush 20, 2) := by decide +kernel
theorem dX4_slipHour_7 : decode cX4_slipHour 7 = .ok (.if_icmp .ge 20, 3) := by decide +kernel
theorem dX4_slipHour_10 : decode cX4_slipHour 10 = .ok (.aload_n 0, 1) := by decide +kernel
theorem dX4_slipHour_11 : decode cX4_slipHour 11 = .ok (.getfield 11, 3) := by decide +kernel
theorem dX4_slipHour_14 : decode cX4_slipHour 14 = .ok (.sipush 185, 3) := by decide +kernel
theorem dX4_slipHour_17 : decode cX4_slipHour 17 = .ok (.iload_n 1, 1) := by decide +kernel
theorem dX4_slipHour_18 : decode cX4_slipHour 18 = .ok (.iconst 4, 1) := by decide +kernel
theorem dX4_slipHour_19 : decode cX4_slipHour 19 = .ok (.imul, 1) := by decide +kernel
theorem dX4_slipHour_20 : decode cX4_slipHour 20 = .ok (.iadd, 1) := by decide +kernel
theorem dX4_slipHour_21 : decode cX4_slipHour 21 = .ok (.iconst 3, 1) := by decide +kernel
theorem dX4_slipHour_22 : decode cX4_slipHour 22 = .ok (.iadd, 1) := by decide +kernel
theorem dX4_slipHour_23 : decode cX4_slipHour 23 = .ok (.iaload, 1) := by decide +kernel
theorem dX4_slipHour_24 : decode cX4_slipHour 24 = .ok (.goto 4, 3) := by decide +kernel
theorem dX4_slipHour_27 : decode cX4_slipHour 27 = .ok (.iconst (-1), 1) := by decide +kernel
theorem dX4_slipHour_28 : decode cX4_slipHour 28 = .ok (.ireturn, 1) := by decide +kernel
theorem dX4_slipsOn_0 : decode cX4_slipsOn 0 = .ok (.iconst 0, 1) := by decide +kernel
theorem dX4_slipsOn_1 : decode cX4_slipsOn 1 = .ok (.istore_n 2, 1) := by decide +kernel
theorem dX4_slipsOn_2 : decode cX4_slipsOn 2 = .ok (.iconst 0, 1) := by decide +kernel
theorem dX4_slipsOn_3 : decode cX4_slipsOn 3 = .ok (.istore_n 3, 1) := by decide +kernel
theorem dX4_slipsOn_4 : decode cX4_slipsOn 4 = .ok (.iload_n 3, 1) := by decide +kernel
theorem dX4_slipsOn_5 : decode cX4_slipsOn 5 = .ok (.aload_n 0, 1) := by decide +kernel
theorem dX4_slipsOn_6 : decode cX4_slipsOn 6 = .ok (.getfield 11, 3) := by decide +kernel
theorem dX4_slipsOn_9 : decode cX4_slipsOn 9 = .ok (.iconst 2, 1) := by decide +kernel
theorem dX4_slipsOn_10 : decode cX4_slipsOn 10 = .ok (.iaload, 1) := by decide +kernel
theorem dX4_slipsOn_11 : decode cX4_slipsOn 11 = .ok (.if_icmp .ge 24, 3) := by decide +kernel
theorem dX4_slipsOn_14 : decode cX4_slipsOn 14 = .ok (.aload_n 0, 1) := by decide +kernel
theorem dX4_slipsOn_15 : decode cX4_slipsOn 15 = .ok (.iload_n 3, 1) := by decide +kernel
theorem dX4_slipsOn_16 : decode cX4_slipsOn 16 = .ok (.invokevirtual 83, 3) := by decide +kernel
theorem dX4_slipsOn_19 : decode cX4_slipsOn 19 = .ok (.iload_n 1, 1) := by decide +kernel
theorem dX4_slipsOn_20 : decode cX4_slipsOn 20 = .ok (.if_icmp .ne 9, 3) := by decide +kernel
theorem dX4_slipsOn_23 : decode cX4_slipsOn 23 = .ok (.iload_n 2, 1) := by decide +kernel
theorem dX4_slipsOn_24 : decode cX4_slipsOn 24 = .ok (.iconst 1, 1) := by decide +kernel
theorem dX4_slipsOn_25 : decode cX4_slipsOn 25 = .ok (.iload_n 3, 1) := by decide +kernel
theorem dX4_slipsOn_26 : decode cX4_slipsOn 26 = .ok (.ishl, 1) := by decide +kernel
theorem dX4_slipsOn_27 : decode cX4_slipsOn 27 = .ok (.ior, 1) := by decide +kernel
theorem dX4_slipsOn_28 : decode cX4_slipsOn 28 = .ok (.istore_n 2, 1) := by decide +kernel
theorem dX4_slipsOn_29 : decode cX4_slipsOn 29 = .ok (.iinc 3 1, 3) := by decide +kernel
theorem dX4_slipsOn_32 : decode cX4_slipsOn 32 = .ok (.goto (-28), 3) := by decide +kernel
theorem dX4_slipsOn_35 : decode cX4_slipsOn 35 = .ok (.iload_n 2, 1) := by decide +kernel
theorem dX4_slipsOn_36 : decode cX4_slipsOn 36 = .ok (.ireturn, 1) := by decide +kernel
theorem dX4_slipsFor_0 : decode cX4_slipsFor 0 = .ok (.iconst 0, 1) := by decide +kernel
theorem dX4_slipsFor_1 : decode cX4_slipsFor 1 = .ok (.istore_n 3, 1) := by decide +kernel
theorem dX4_slipsFor_2 : decode cX4_slipsFor 2 = .ok (.iconst 0, 1) := by decide +kernel
theorem dX4_slipsFor_3 : decode cX4_slipsFor 3 = .ok (.istore 4, 2) := by decide +kernel
theorem dX4_slipsFor_5 : decode cX4_slipsFor 5 = .ok (.iload 4, 2) := by decide +kernel
theorem dX4_slipsFor_7 : decode cX4_slipsFor 7 = .ok (.aload_n 0, 1) := by decide +kernel
theorem dX4_slipsFor_8 : decode cX4_slipsFor 8 = .ok (.getfield 11, 3) := by decide +kernel
theorem dX4_slipsFor_11 : decode cX4_slipsFor 11 = .ok (.iconst 2, 1) := by decide +kernel
theorem dX4_slipsFor_12 : decode cX4_slipsFor 12 = .ok (.iaload, 1) := by decide +kernel
theorem dX4_slipsFor_13 : decode cX4_slipsFor 13 = .ok (.if_icmp .ge 32, 3) := by decide +kernel
theorem dX4_slipsFor_16 : decode cX4_slipsFor 16 = .ok (.aload_n 0, 1) := by decide +kernel
theorem dX4_slipsFor_17 : decode cX4_slipsFor 17 = .ok (.iload 4, 2) := by decide +kernel
theorem dX4_slipsFor_19 : decode cX4_slipsFor 19 = .ok (.invokevirtual 83, 3) := by decide +kernel
theorem dX4_slipsFor_22 : decode cX4_slipsFor 22 = .ok (.iload_n 1, 1) := by decide +kernel
theorem dX4_slipsFor_23 : decode cX4_slipsFor 23 = .ok (.if_icmp .ne 16, 3) := by decide +kernel
theorem dX4_slipsFor_26 : decode cX4_slipsFor 26 = .ok (.aload_n 0, 1) := by decide +kernel
theorem dX4_slipsFor_27 : decode cX4_slipsFor 27 = .ok (.iload 4, 2) := by decide +kernel
theorem dX4_slipsFor_29 : decode cX4_slipsFor 29 = .ok (.invokevirtual 86, 3) := by decide +kernel
theorem dX4_slipsFor_32 : decode cX4_slipsFor 32 = .ok (.iload_n 2, 1) := by decide +kernel
theorem dX4_slipsFor_33 : decode cX4_slipsFor 33 = .ok (.if_icmp .ne 6, 3) := by decide +kernel
theorem dX4_slipsFor_36 : decode cX4_slipsFor 36 = .ok (.iinc 3 1, 3) := by decide +kernel
theorem dX4_slipsFor_39 : decode cX4_slipsFor 39 = .ok (.iinc 4 1, 3) := by decide +kernel
theorem dX4_slipsFor_42 : decode cX4_slipsFor 42 = .ok (.goto (-37), 3) := by decide +kernel
theorem dX4_slipsFor_45 : decode cX4_slipsFor 45 = .ok (.iload_n 3, 1) := by decide +kernel
theorem dX4_slipsFor_46 : decode cX4_slipsFor 46 = .ok (.ireturn, 1) := by decide +kernel
