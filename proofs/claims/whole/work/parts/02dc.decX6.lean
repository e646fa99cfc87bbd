theorem dX6_setting_2 : decode cX6_setting 2 = .ok (.i2l, 1) := by decide +kernel
theorem dX6_setting_3 : decode cX6_setting 3 = .ok (.lconst 0, 1) := by decide +kernel
theorem dX6_setting_4 : decode cX6_setting 4 = .ok (.lconst 1, 1) := by decide +kernel
theorem dX6_setting_5 : decode cX6_setting 5 = .ok (.invokestatic 48, 3) := by decide +kernel
theorem dX6_setting_8 : decode cX6_setting 8 = .ok (.ifCond .eq 7, 3) := by decide +kernel
theorem dX6_setting_11 : decode cX6_setting 11 = .ok (.iconst 0, 1) := by decide +kernel
theorem dX6_setting_12 : decode cX6_setting 12 = .ok (.goto 4, 3) := by decide +kernel
theorem dX6_setting_15 : decode cX6_setting 15 = .ok (.iconst 1, 1) := by decide +kernel
theorem dX6_setting_16 : decode cX6_setting 16 = .ok (.invokevirtual 119, 3) := by decide +kernel
theorem dX6_setting_19 : decode cX6_setting 19 = .ok (.ifCond .eq 5, 3) := by decide +kernel
theorem dX6_setting_22 : decode cX6_setting 22 = .ok (.iconst 0, 1) := by decide +kernel
theorem dX6_setting_23 : decode cX6_setting 23 = .ok (.ireturn, 1) := by decide +kernel
theorem dX6_setting_24 : decode cX6_setting 24 = .ok (.aload_n 0, 1) := by decide +kernel
theorem dX6_setting_25 : decode cX6_setting 25 = .ok (.getfield 13, 3) := by decide +kernel
theorem dX6_setting_28 : decode cX6_setting 28 = .ok (.iconst 3, 1) := by decide +kernel
theorem dX6_setting_29 : decode cX6_setting 29 = .ok (.iload_n 1, 1) := by decide +kernel
theorem dX6_setting_30 : decode cX6_setting 30 = .ok (.iadd, 1) := by decide +kernel
theorem dX6_setting_31 : decode cX6_setting 31 = .ok (.iaload, 1) := by decide +kernel
theorem dX6_setting_32 : decode cX6_setting 32 = .ok (.ireturn, 1) := by decide +kernel
theorem dX6_remember_0 : decode cX6_remember 0 = .ok (.aload_n 0, 1) := by decide +kernel
theorem dX6_remember_1 : decode cX6_remember 1 = .ok (.getfield 177, 3) := by decide +kernel
theorem dX6_remember_4 : decode cX6_remember 4 = .ok (.bipush 14, 2) := by decide +kernel
theorem dX6_remember_6 : decode cX6_remember 6 = .ok (.if_icmp .ne 44, 3) := by decide +kernel
theorem dX6_remember_9 : decode cX6_remember 9 = .ok (.iconst 0, 1) := by decide +kernel
theorem dX6_remember_10 : decode cX6_remember 10 = .ok (.istore_n 1, 1) := by decide +kernel
theorem dX6_remember_11 : decode cX6_remember 11 = .ok (.iload_n 1, 1) := by decide +kernel
theorem dX6_remember_12 : decode cX6_remember 12 = .ok (.sipush 3315, 3) := by decide +kernel
theorem dX6_remember_15 : decode cX6_remember 15 = .ok (.if_icmp .ge 25, 3) := by decide +kernel
theorem dX6_remember_18 : decode cX6_remember 18 = .ok (.aload_n 0, 1) := by decide +kernel
theorem dX6_remember_19 : decode cX6_remember 19 = .ok (.getfield 19, 3) := by decide +kernel
theorem dX6_remember_22 : decode cX6_remember 22 = .ok (.iload_n 1, 1) := by decide +kernel
theorem dX6_remember_23 : decode cX6_remember 23 = .ok (.aload_n 0, 1) := by decide +kernel
theorem dX6_remember_24 : decode cX6_remember 24 = .ok (.getfield 19, 3) := by decide +kernel
theorem dX6_remember_27 : decode cX6_remember 27 = .ok (.iload_n 1, 1) := by decide +kernel
theorem dX6_remember_28 : decode cX6_remember 28 = .ok (.sipush 255, 3) := by decide +kernel
theorem dX6_remember_31 : decode cX6_remember 31 = .ok (.iadd, 1) := by decide +kernel
theorem dX6_remember_32 : decode cX6_remember 32 = .ok (.iaload, 1) := by decide +kernel
theorem dX6_remember_33 : decode cX6_remember 33 = .ok (.iastore, 1) := by decide +kernel
theorem dX6_remember_34 : decode cX6_remember 34 = .ok (.iinc 1 1, 3) := by decide +kernel
theorem dX6_remember_37 : decode cX6_remember 37 = .ok (.goto (-26), 3) := by decide +kernel
theorem dX6_remember_40 : decode cX6_remember 40 = .ok (.aload_n 0, 1) := by decide +kernel
theorem dX6_remember_41 : decode cX6_remember 41 = .ok (.dup, 1) := by decide +kernel
theorem dX6_remember_42 : decode cX6_remember 42 = .ok (.getfield 177, 3) := by decide +kernel
theorem dX6_remember_45 : decode cX6_remember 45 = .ok (.iconst 1, 1) := by decide +kernel
theorem dX6_remember_46 : decode cX6_remember 46 = .ok (.isub, 1) := by decide +kernel
theorem dX6_remember_47 : decode cX6_remember 47 = .ok (.putfield 177, 3) := by decide +kernel
theorem dX6_remember_50 : decode cX6_remember 50 = .ok (.aload_n 0, 1) := by decide +kernel
theorem dX6_remember_51 : decode cX6_remember 51 = .ok (.getfield 13, 3) := by decide +kernel
theorem dX6_remember_54 : decode cX6_remember 54 = .ok (.iconst 0, 1) := by decide +kernel
theorem dX6_remember_55 : decode cX6_remember 55 = .ok (.aload_n 0, 1) := by decide +kernel
theorem dX6_remember_56 : decode cX6_remember 56 = .ok (.getfield 19, 3) := by decide +kernel
theorem dX6_remember_59 : decode cX6_remember 59 = .ok (.sipush 255, 3) := by decide +kernel
theorem dX6_remember_62 : decode cX6_remember 62 = .ok (.aload_n 0, 1) := by decide +kernel
theorem dX6_remember_63 : decode cX6_remember 63 = .ok (.getfield 177, 3) := by decide +kernel
theorem dX6_remember_66 : decode cX6_remember 66 = .ok (.imul, 1) := by decide +kernel
theorem dX6_remember_67 : decode cX6_remember 67 = .ok (.invokestatic 173, 3) := by decide +kernel
theorem dX6_remember_70 : decode cX6_remember 70 = .ok (.aload_n 0, 1) := by decide +kernel
theorem dX6_remember_71 : decode cX6_remember 71 = .ok (.dup, 1) := by decide +kernel
theorem dX6_remember_72 : decode cX6_remember 72 = .ok (.getfield 177, 3) := by decide +kernel
theorem dX6_remember_75 : decode cX6_remember 75 = .ok (.iconst 1, 1) := by decide +kernel
theorem dX6_remember_76 : decode cX6_remember 76 = .ok (.iadd, 1) := by decide +kernel
theorem dX6_remember_77 : decode cX6_remember 77 = .ok (.putfield 177, 3) := by decide +kernel
theorem dX6_remember_80 : decode cX6_remember 80 = .ok (.return_, 1) := by decide +kernel
theorem dX6_addActor_0 : decode cX6_addActor 0 = .ok (.aload_n 0, 1) := by decide +kernel
theorem dX6_addActor_1 : decode cX6_addActor 1 = .ok (.iload_n 1, 1) := by decide +kernel
theorem dX6_addActor_2 : decode cX6_addActor 2 = .ok (.i2l, 1) := by decide +kernel
theorem dX6_addActor_3 : decode cX6_addActor 3 = .ok (.lconst 0, 1) := by decide +kernel
theorem dX6_addActor_4 : decode cX6_addActor 4 = .ok (.ldc2_w 112, 3) := by decide +kernel
theorem dX6_addActor_7 : decode cX6_addActor 7 = .ok (.invokestatic 48, 3) := by decide +kernel
theorem dX6_addActor_10 : decode cX6_addActor 10 = .ok (.ifCond .ne 7, 3) := by decide +kernel
theorem dX6_addActor_13 : decode cX6_addActor 13 = .ok (.iconst 1, 1) := by decide +kernel
theorem dX6_addActor_14 : decode cX6_addActor 14 = .ok (.goto 19, 3) := by decide +kernel
theorem dX6_addActor_17 : decode cX6_addActor 17 = .ok (.aload_n 0, 1) := by decide +kernel
theorem dX6_addActor_18 : decode cX6_addActor 18 = .ok (.getfield 13, 3) := by decide +kernel
theorem dX6_addActor_21 : decode cX6_addActor 21 = .ok (.iconst 1, 1) := by decide +kernel
theorem dX6_addActor_22 : decode cX6_addActor 22 = .ok (.iaload, 1) := by decide +kernel
theorem dX6_addActor_23 : decode cX6_addActor 23 = .ok (.bipush 10, 2) := by decide +kernel
theorem dX6_addActor_25 : decode cX6_addActor 25 = .ok (.if_icmp .ge 7, 3) := by decide +kernel
theorem dX6_addActor_28 : decode cX6_addActor 28 = .ok (.iconst 0, 1) := by decide +kernel
theorem dX6_addActor_29 : decode cX6_addActor 29 = .ok (.goto 4, 3) := by decide +kernel
theorem dX6_addActor_32 : decode cX6_addActor 32 = .ok (.iconst 2, 1) := by decide +kernel
theorem dX6_addActor_33 : decode cX6_addActor 33 = .ok (.invokevirtual 119, 3) := by decide +kernel
theorem dX6_addActor_36 : decode cX6_addActor 36 = .ok (.ifCond .eq 5, 3) := by decide +kernel
theorem dX6_addActor_39 : decode cX6_addActor 39 = .ok (.iconst 0, 1) := by decide +kernel
theorem dX6_addActor_40 : decode cX6_addActor 40 = .ok (.ireturn, 1) := by decide +kernel
theorem dX6_addActor_41 : decode cX6_addActor 41 = .ok (.aload_n 0, 1) := by decide +kernel
theorem dX6_addActor_42 : decode cX6_addActor 42 = .ok (.invokevirtual 207, 3) := by decide +kernel
theorem dX6_addActor_45 : decode cX6_addActor 45 = .ok (.aload_n 0, 1) := by decide +kernel
theorem dX6_addActor_46 : decode cX6_addActor 46 = .ok (.getfield 13, 3) := by decide +kernel
theorem dX6_addActor_49 : decode cX6_addActor 49 = .ok (.iload_n 1, 1) := by decide +kernel
theorem dX6_addActor_50 : decode cX6_addActor 50 = .ok (.invokestatic 143, 3) := by decide +kernel
theorem dX6_addActor_53 : decode cX6_addActor 53 = .ok (.ireturn, 1) := by decide +kernel
theorem dX6_addPart_0 : decode cX6_addPart 0 = .ok (.aload_n 0, 1) := by decide +kernel
theorem dX6_addPart_1 : decode cX6_addPart 1 = .ok (.aload_n 0, 1) := by decide +kernel
theorem dX6_addPart_2 : decode cX6_addPart 2 = .ok (.getfield 13, 3) := by decide +kernel
theorem dX6_addPart_5 : decode cX6_addPart 5 = .ok (.iconst 0, 1) := by decide +kernel
theorem dX6_addPart_6 : decode cX6_addPart 6 = .ok (.iaload, 1) := by decide +kernel
theorem dX6_addPart_7 : decode cX6_addPart 7 = .ok (.bipush 6, 2) := by decide +kernel
theorem dX6_addPart_9 : decode cX6_addPart 9 = .ok (.if_icmp .ge 7, 3) := by decide +kernel
theorem dX6_addPart_12 : decode cX6_addPart 12 = .ok (.iconst 0, 1) := by decide +kernel
theorem dX6_addPart_13 : decode cX6_addPart 13 = .ok (.goto 4, 3) := by decide +kernel
theorem dX6_addPart_16 : decode cX6_addPart 16 = .ok (.iconst 1, 1) := by decide +kernel
theorem dX6_addPart_17 : decode cX6_addPart 17 = .ok (.invokevirtual 119, 3) := by decide +kernel
theorem dX6_addPart_20 : decode cX6_addPart 20 = .ok (.ifCond .eq 5, 3) := by decide +kernel
theorem dX6_addPart_23 : decode cX6_addPart 23 = .ok (.iconst 0, 1) := by decide +kernel
theorem dX6_addPart_24 : decode cX6_addPart 24 = .ok (.ireturn, 1) := by decide +kernel
theorem dX6_addPart_25 : decode cX6_addPart 25 = .ok (.aload_n 0, 1) := by decide +kernel
theorem dX6_addPart_26 : decode cX6_addPart 26 = .ok (.invokevirtual 207, 3) := by decide +kernel
theorem dX6_addPart_29 : decode cX6_addPart 29 = .ok (.aload_n 0, 1) := by decide +kernel
theorem dX6_addPart_30 : decode cX6_addPart 30 = .ok (.getfield 13, 3) := by decide +kernel
theorem dX6_addPart_33 : decode cX6_addPart 33 = .ok (.invokestatic 146, 3) := by decide +kernel
theorem dX6_addPart_36 : decode cX6_addPart 36 = .ok (.ireturn, 1) := by decide +kernel
theorem dX6_cast_0 : decode cX6_cast 0 = .ok (.aload_n 0, 1) := by decide +kernel
theorem dX6_cast_1 : decode cX6_cast 1 = .ok (.aload_n 0, 1) := by decide +kernel
theorem dX6_cast_2 : decode cX6_cast 2 = .ok (.getfield 13, 3) := by decide +kernel
theorem dX6_cast_5 : decode cX6_cast 5 = .ok (.iload_n 1, 1) := by decide +kernel
theorem dX6_cast_6 : decode cX6_cast 6 = .ok (.invokestatic 93, 3) := by decide +kernel
theorem dX6_cast_9 : decode cX6_cast 9 = .ok (.ifCond .eq 30, 3) := by decide +kernel
theorem dX6_cast_12 : decode cX6_cast 12 = .ok (.iload_n 3, 1) := by decide +kernel
theorem dX6_cast_13 : decode cX6_cast 13 = .ok (.invokestatic 106, 3) := by decide +kernel
theorem dX6_cast_16 : decode cX6_cast 16 = .ok (.ifCond .eq 23, 3) := by decide +kernel
theorem dX6_cast_19 : decode cX6_cast 19 = .ok (.iload_n 2, 1) := by decide +kernel
theorem dX6_cast_20 : decode cX6_cast 20 = .ok (.iconst (-1), 1) := by decide +kernel
theorem dX6_cast_21 : decode cX6_cast 21 = .ok (.if_icmp .eq 14, 3) := by decide +kernel
theorem dX6_cast_24 : decode cX6_cast 24 = .ok (.aload_n 0, 1) := by decide +kernel
theorem dX6_cast_25 : decode cX6_cast 25 = .ok (.getfield 13, 3) := by decide +kernel
theorem dX6_cast_28 : decode cX6_cast 28 = .ok (.iload_n 2, 1) := by decide +kernel
theorem dX6_cast_29 : decode cX6_cast 29 = .ok (.invokestatic 96, 3) := by decide +kernel
theorem dX6_cast_32 : decode cX6_cast 32 = .ok (.ifCond .eq 7, 3) := by decide +kernel
theorem dX6_cast_35 : decode cX6_cast 35 = .ok (.iconst 0, 1) := by decide +kernel
theorem dX6_cast_36 : decode cX6_cast 36 = .ok (.goto 4, 3) := by decide +kernel
theorem dX6_cast_39 : decode cX6_cast 39 = .ok (.iconst 1, 1) := by decide +kernel
theorem dX6_cast_40 : decode cX6_cast 40 = .ok (.invokevirtual 119, 3) := by decide +kernel
theorem dX6_cast_43 : decode cX6_cast 43 = .ok (.ifCond .eq 5, 3) := by decide +kernel
theorem dX6_cast_46 : decode cX6_cast 46 = .ok (.iconst 0, 1) := by decide +kernel
theorem dX6_cast_47 : decode cX6_cast 47 = .ok (.ireturn, 1) := by decide +kernel
theorem dX6_cast_48 : decode cX6_cast 48 = .ok (.aload_n 0, 1) := by decide +kernel
theorem dX6_cast_49 : decode cX6_cast 49 = .ok (.invokevirtual 207, 3) := by decide +kernel
theorem dX6_cast_52 : decode cX6_cast 52 = .ok (.aload_n 0, 1) := by decide +kernel
theorem dX6_cast_53 : decode cX6_cast 53 = .ok (.getfield 13, 3) := by decide +kernel
theorem dX6_cast_56 : decode cX6_cast 56 = .ok (.iload_n 1, 1) := by decide +kernel
theorem dX6_cast_57 : decode cX6_cast 57 = .ok (.iload_n 2, 1) := by decide +kernel
theorem dX6_cast_58 : decode cX6_cast 58 = .ok (.iload_n 3, 1) := by decide +kernel
theorem dX6_cast_59 : decode cX6_cast 59 = .ok (.invokestatic 150, 3) := by decide +kernel
theorem dX6_cast_62 : decode cX6_cast 62 = .ok (.ireturn, 1) := by decide +kernel
theorem dX6_understudy_0 : decode cX6_understudy 0 = .ok (.aload_n 0, 1) := by decide +kernel
theorem dX6_understudy_1 : decode cX6_understudy 1 = .ok (.aload_n 0, 1) := by decide +kernel
theorem dX6_understudy_2 : decode cX6_understudy 2 = .ok (.getfield 13, 3) := by decide +kernel
theorem dX6_understudy_5 : decode cX6_understudy 5 = .ok (.iload_n 1, 1) := by decide +kernel
theorem dX6_understudy_6 : decode cX6_understudy 6 = .ok (.invokestatic 93, 3) := by decide +kernel
theorem dX6_understudy_9 : decode cX6_understudy 9 = .ok (.ifCond .eq 14, 3) := by decide +kernel
theorem dX6_understudy_12 : decode cX6_understudy 12 = .ok (.aload_n 0, 1) := by decide +kernel
theorem dX6_understudy_13 : decode cX6_understudy 13 = .ok (.getfield 13, 3) := by decide +kernel
theorem dX6_understudy_16 : decode cX6_understudy 16 = .ok (.iload_n 2, 1) := by decide +kernel
theorem dX6_understudy_17 : decode cX6_understudy 17 = .ok (.invokestatic 96, 3) := by decide +kernel
theorem dX6_understudy_20 : decode cX6_understudy 20 = .ok (.ifCond .ne 7, 3) := by decide +kernel
theorem dX6_understudy_23 : decode cX6_understudy 23 = .ok (.iconst 1, 1) := by decide +kernel
theorem dX6_understudy_24 : decode cX6_understudy 24 = .ok (.goto 20, 3) := by decide +kernel
theorem dX6_understudy_27 : decode cX6_understudy 27 = .ok (.aload_n 0, 1) := by decide +kernel
theorem dX6_understudy_28 : decode cX6_understudy 28 = .ok (.getfield 13, 3) := by decide +kernel
theorem dX6_understudy_31 : decode cX6_understudy 31 = .ok (.iload_n 1, 1) := by decide +kernel
theorem dX6_understudy_32 : decode cX6_understudy 32 = .ok (.iload_n 2, 1) := by decide +kernel
theorem dX6_understudy_33 : decode cX6_understudy 33 = .ok (.invokestatic 153, 3) := by decide +kernel
theorem dX6_understudy_36 : decode cX6_understudy 36 = .ok (.ifCond .eq 7, 3) := by decide +kernel
theorem dX6_understudy_39 : decode cX6_understudy 39 = .ok (.iconst 0, 1) := by decide +kernel
theorem dX6_understudy_40 : decode cX6_understudy 40 = .ok (.goto 4, 3) := by decide +kernel
theorem dX6_understudy_43 : decode cX6_understudy 43 = .ok (.iconst 2, 1) := by decide +kernel
theorem dX6_understudy_44 : decode cX6_understudy 44 = .ok (.invokevirtual 119, 3) := by decide +kernel
theorem dX6_understudy_47 : decode cX6_understudy 47 = .ok (.ifCond .eq 5, 3) := by decide +kernel
theorem dX6_understudy_50 : decode cX6_understudy 50 = .ok (.iconst 0, 1) := by decide +kernel
theorem dX6_understudy_51 : decode cX6_understudy 51 = .ok (.ireturn, 1) := by decide +kernel
theorem dX6_understudy_52 : decode cX6_understudy 52 = .ok (.aload_n 0, 1) := by decide +kernel
theorem dX6_understudy_53 : decode cX6_understudy 53 = .ok (.invokevirtual 207, 3) := by decide +kernel
theorem dX6_understudy_56 : decode cX6_understudy 56 = .ok (.aload_n 0, 1) := by decide +kernel
theorem dX6_understudy_57 : decode cX6_understudy 57 = .ok (.getfield 13, 3) := by decide +kernel
theorem dX6_understudy_60 : decode cX6_understudy 60 = .ok (.iload_n 1, 1) := by decide +kernel
theorem dX6_understudy_61 : decode cX6_understudy 61 = .ok (.iload_n 2, 1) := by decide +kernel
theorem dX6_understudy_62 : decode cX6_understudy 62 = .ok (.invokestatic 156, 3) := by decide +kernel
theorem dX6_understudy_65 : decode cX6_understudy 65 = .ok (.ireturn, 1) := by decide +kernel
theorem dX6_release_0 : decode cX6_release 0 = .ok (.aload_n 0, 1) := by decide +kernel
theorem dX6_release_1 : decode cX6_release 1 = .ok (.aload_n 0, 1) := by decide +kernel
theorem dX6_release_2 : decode cX6_release 2 = .ok (.getfield 13, 3) := by decide +kernel
theorem dX6_release_5 : decode cX6_release 5 = .ok (.iload_n 1, 1) := by decide +kernel
theorem dX6_release_6 : decode cX6_release 6 = .ok (.invokestatic 93, 3) := by decide +kernel
theorem dX6_release_9 : decode cX6_release 9 = .ok (.ifCond .eq 14, 3) := by decide +kernel
theorem dX6_release_12 : decode cX6_release 12 = .ok (.aload_n 0, 1) := by decide +kernel
theorem dX6_release_13 : decode cX6_release 13 = .ok (.getfield 13, 3) := by decide +kernel
theorem dX6_release_16 : decode cX6_release 16 = .ok (.iload_n 2, 1) := by decide +kernel
theorem dX6_release_17 : decode cX6_release 17 = .ok (.invokestatic 96, 3) := by decide +kernel
theorem dX6_release_20 : decode cX6_release 20 = .ok (.ifCond .ne 7, 3) := by decide +kernel
theorem dX6_release_23 : decode cX6_release 23 = .ok (.iconst 1, 1) := by decide +kernel
theorem dX6_release_24 : decode cX6_release 24 = .ok (.goto 21, 3) := by decide +kernel
theorem dX6_release_27 : decode cX6_release 27 = .ok (.aload_n 0, 1) := by decide +kernel
theorem dX6_release_28 : decode cX6_release 28 = .ok (.getfield 13, 3) := by decide +kernel
theorem dX6_release_31 : decode cX6_release 31 = .ok (.iload_n 1, 1) := by decide +kernel
theorem dX6_release_32 : decode cX6_release 32 = .ok (.iload_n 2, 1) := by decide +kernel
theorem dX6_release_33 : decode cX6_release 33 = .ok (.invokestatic 99, 3) := by decide +kernel
theorem dX6_release_36 : decode cX6_release 36 = .ok (.iconst (-1), 1) := by decide +kernel
theorem dX6_release_37 : decode cX6_release 37 = .ok (.if_icmp .ne 7, 3) := by decide +kernel
theorem dX6_release_40 : decode cX6_release 40 = .ok (.iconst 2, 1) := by decide +kernel
theorem dX6_release_41 : decode cX6_release 41 = .ok (.goto 4, 3) := by decide +kernel
theorem dX6_release_44 : decode cX6_release 44 = .ok (.iconst 0, 1) := by decide +kernel
theorem dX6_release_45 : decode cX6_release 45 = .ok (.invokevirtual 119, 3) := by decide +kernel
theorem dX6_release_48 : decode cX6_release 48 = .ok (.ifCond .eq 5, 3) := by decide +kernel
theorem dX6_release_51 : decode cX6_release 51 = .ok (.iconst 0, 1) := by decide +kernel
theorem dX6_release_52 : decode cX6_release 52 = .ok (.ireturn, 1) := by decide +kernel
theorem dX6_release_53 : decode cX6_release 53 = .ok (.aload_n 0, 1) := by decide +kernel
theorem dX6_release_54 : decode cX6_release 54 = .ok (.invokevirtual 207, 3) := by decide +kernel
theorem dX6_release_57 : decode cX6_release 57 = .ok (.aload_n 0, 1) := by decide +kernel
theorem dX6_release_58 : decode cX6_release 58 = .ok (.getfield 13, 3) := by decide +kernel
theorem dX6_release_61 : decode cX6_release 61 = .ok (.iload_n 1, 1) := by decide +kernel
theorem dX6_release_62 : decode cX6_release 62 = .ok (.iload_n 2, 1) := by decide +kernel
theorem dX6_release_63 : decode cX6_release 63 = .ok (.invokestatic 210, 3) := by decide +kernel
theorem dX6_release_66 : decode cX6_release 66 = .ok (.ireturn, 1) := by decide +kernel
theorem dX6_ill_0 : decode cX6_ill 0 = .ok (.aload_n 0, 1) := by decide +kernel
theorem dX6_ill_1 : decode cX6_ill 1 = .ok (.aload_n 0, 1) := by decide +kernel
theorem dX6_ill_2 : decode cX6_ill 2 = .ok (.getfield 13, 3) := by decide +kernel
theorem dX6_ill_5 : decode cX6_ill 5 = .ok (.iload_n 1, 1) := by decide +kernel
theorem dX6_ill_6 : decode cX6_ill 6 = .ok (.invokestatic 96, 3) := by decide +kernel
theorem dX6_ill_9 : decode cX6_ill 9 = .ok (.ifCond .eq 14, 3) := by decide +kernel
theorem dX6_ill_12 : decode cX6_ill 12 = .ok (.iload_n 2, 1) := by decide +kernel
theorem dX6_ill_13 : decode cX6_ill 13 = .ok (.invokestatic 106, 3) := by decide +kernel
theorem dX6_ill_16 : decode cX6_ill 16 = .ok (.ifCond .eq 7, 3) := by decide +kernel
theorem dX6_ill_19 : decode cX6_ill 19 = .ok (.iconst 0, 1) := by decide +kernel
theorem dX6_ill_20 : decode cX6_ill 20 = .ok (.goto 4, 3) := by decide +kernel
theorem dX6_ill_23 : decode cX6_ill 23 = .ok (.iconst 1, 1) := by decide +kernel
theorem dX6_ill_24 : decode cX6_ill 24 = .ok (.invokevirtual 119, 3) := by decide +kernel
theorem dX6_ill_27 : decode cX6_ill 27 = .ok (.ifCond .eq 5, 3) := by decide +kernel
theorem dX6_ill_30 : decode cX6_ill 30 = .ok (.iconst 0, 1) := by decide +kernel
theorem dX6_ill_31 : decode cX6_ill 31 = .ok (.ireturn, 1) := by decide +kernel
theorem dX6_ill_32 : decode cX6_ill 32 = .ok (.aload_n 0, 1) := by decide +kernel
theorem dX6_ill_33 : decode cX6_ill 33 = .ok (.invokevirtual 207, 3) := by decide +kernel
theorem dX6_ill_36 : decode cX6_ill 36 = .ok (.aload_n 0, 1) := by decide +kernel
theorem dX6_ill_37 : decode cX6_ill 37 = .ok (.getfield 13, 3) := by decide +kernel
theorem dX6_ill_40 : decode cX6_ill 40 = .ok (.iload_n 1, 1) := by decide +kernel
theorem dX6_ill_41 : decode cX6_ill 41 = .ok (.iload_n 2, 1) := by decide +kernel
theorem dX6_ill_42 : decode cX6_ill 42 = .ok (.iload_n 3, 1) := by decide +kernel
theorem dX6_ill_43 : decode cX6_ill 43 = .ok (.invokestatic 159, 3) := by decide +kernel
theorem dX6_ill_46 : decode cX6_ill 46 = .ok (.ireturn, 1) := by decide +kernel
theorem dX6_slip_0 : decode cX6_slip 0 = .ok (.aload_n 0, 1) := by decide +kernel
theorem dX6_slip_1 : decode cX6_slip 1 = .ok (.iload_n 1, 1) := by decide +kernel
theorem dX6_slip_2 : decode cX6_slip 2 = .ok (.invokestatic 106, 3) := by decide +kernel
theorem dX6_slip_5 : decode cX6_slip 5 = .ok (.ifCond .eq 25, 3) := by decide +kernel
theorem dX6_slip_8 : decode cX6_slip 8 = .ok (.aload_n 0, 1) := by decide +kernel
theorem dX6_slip_9 : decode cX6_slip 9 = .ok (.getfield 13, 3) := by decide +kernel
theorem dX6_slip_12 : decode cX6_slip 12 = .ok (.iload_n 2, 1) := by decide +kernel
theorem dX6_slip_13 : decode cX6_slip 13 = .ok (.invokestatic 93, 3) := by decide +kernel
theorem dX6_slip_16 : decode cX6_slip 16 = .ok (.ifCond .eq 14, 3) := by decide +kernel
theorem dX6_slip_19 : decode cX6_slip 19 = .ok (.aload_n 0, 1) := by decide +kernel
theorem dX6_slip_20 : decode cX6_slip 20 = .ok (.getfield 13, 3) := by decide +kernel
theorem dX6_slip_23 : decode cX6_slip 23 = .ok (.iload_n 3, 1) := by decide +kernel
theorem dX6_slip_24 : decode cX6_slip 24 = .ok (.invokestatic 96, 3) := by decide +kernel
theorem dX6_slip_27 : decode cX6_slip 27 = .ok (.ifCond .ne 7, 3) := by decide +kernel
theorem dX6_slip_30 : decode cX6_slip 30 = .ok (.iconst 1, 1) := by decide +kernel
theorem dX6_slip_31 : decode cX6_slip 31 = .ok (.goto 38, 3) := by decide +kernel
theorem dX6_slip_34 : decode cX6_slip 34 = .ok (.iload 4, 2) := by decide +kernel
theorem dX6_slip_36 : decode cX6_slip 36 = .ok (.i2l, 1) := by decide +kernel
theorem dX6_slip_37 : decode cX6_slip 37 = .ok (.lconst 0, 1) := by decide +kernel
theorem dX6_slip_38 : decode cX6_slip 38 = .ok (.ldc2_w 213, 3) := by decide +kernel
theorem dX6_slip_41 : decode cX6_slip 41 = .ok (.invokestatic 48, 3) := by decide +kernel
theorem dX6_slip_44 : decode cX6_slip 44 = .ok (.ifCond .ne 7, 3) := by decide +kernel
theorem dX6_slip_47 : decode cX6_slip 47 = .ok (.iconst 2, 1) := by decide +kernel
theorem dX6_slip_48 : decode cX6_slip 48 = .ok (.goto 21, 3) := by decide +kernel
theorem dX6_slip_51 : decode cX6_slip 51 = .ok (.aload_n 0, 1) := by decide +kernel
theorem dX6_slip_52 : decode cX6_slip 52 = .ok (.getfield 13, 3) := by decide +kernel
theorem dX6_slip_55 : decode cX6_slip 55 = .ok (.iload_n 1, 1) := by decide +kernel
theorem dX6_slip_56 : decode cX6_slip 56 = .ok (.iload_n 2, 1) := by decide +kernel
theorem dX6_slip_57 : decode cX6_slip 57 = .ok (.iload_n 3, 1) := by decide +kernel
theorem dX6_slip_58 : decode cX6_slip 58 = .ok (.invokestatic 132, 3) := by decide +kernel
theorem dX6_slip_61 : decode cX6_slip 61 = .ok (.ifCond .eq 7, 3) := by decide +kernel
theorem dX6_slip_64 : decode cX6_slip 64 = .ok (.iconst 0, 1) := by decide +kernel
theorem dX6_slip_65 : decode cX6_slip 65 = .ok (.goto 4, 3) := by decide +kernel
theorem dX6_slip_68 : decode cX6_slip 68 = .ok (.iconst 3, 1) := by decide +kernel
theorem dX6_slip_69 : decode cX6_slip 69 = .ok (.invokevirtual 119, 3) := by decide +kernel
theorem dX6_slip_72 : decode cX6_slip 72 = .ok (.ifCond .eq 5, 3) := by decide +kernel
theorem dX6_slip_75 : decode cX6_slip 75 = .ok (.iconst 0, 1) := by decide +kernel
theorem dX6_slip_76 : decode cX6_slip 76 = .ok (.ireturn, 1) := by decide +kernel
theorem dX6_slip_77 : decode cX6_slip 77 = .ok (.aload_n 0, 1) := by decide +kernel
theorem dX6_slip_78 : decode cX6_slip 78 = .ok (.invokevirtual 207, 3) := by decide +kernel
theorem dX6_slip_81 : decode cX6_slip 81 = .ok (.aload_n 0, 1) := by decide +kernel
theorem dX6_slip_82 : decode cX6_slip 82 = .ok (.getfield 13, 3) := by decide +kernel
theorem dX6_slip_85 : decode cX6_slip 85 = .ok (.iload_n 1, 1) := by decide +kernel
theorem dX6_slip_86 : decode cX6_slip 86 = .ok (.iload_n 2, 1) := by decide +kernel
theorem dX6_slip_87 : decode cX6_slip 87 = .ok (.iload_n 3, 1) := by decide +kernel
theorem dX6_slip_88 : decode cX6_slip 88 = .ok (.iload 4, 2) := by decide +kernel
theorem dX6_slip_90 : decode cX6_slip 90 = .ok (.invokestatic 135, 3) := by decide +kernel
theorem dX6_slip_93 : decode cX6_slip 93 = .ok (.ireturn, 1) := by decide +kernel
theorem dX6_lose_0 : decode cX6_lose 0 = .ok (.aload_n 0, 1) := by decide +kernel
theorem dX6_lose_1 : decode cX6_lose 1 = .ok (.aload_n 0, 1) := by decide +kernel
theorem dX6_lose_2 : decode cX6_lose 2 = .ok (.getfield 13, 3) := by decide +kernel
theorem dX6_lose_5 : decode cX6_lose 5 = .ok (.iload_n 1, 1) := by decide +kernel
theorem dX6_lose_6 : decode cX6_lose 6 = .ok (.invokestatic 204, 3) := by decide +kernel
theorem dX6_lose_9 : decode cX6_lose 9 = .ok (.ifCond .eq 7, 3) := by decide +kernel
theorem dX6_lose_12 : decode cX6_lose 12 = .ok (.iconst 0, 1) := by decide +kernel
theorem dX6_lose_13 : decode cX6_lose 13 = .ok (.goto 4, 3) := by decide +kernel
theorem dX6_lose_16 : decode cX6_lose 16 = .ok (.iconst 1, 1) := by decide +kernel
theorem dX6_lose_17 : decode cX6_lose 17 = .ok (.invokevirtual 119, 3) := by decide +kernel
theorem dX6_lose_20 : decode cX6_lose 20 = .ok (.ifCond .eq 5, 3) := by decide +kernel
theorem dX6_lose_23 : decode cX6_lose 23 = .ok (.iconst 0, 1) := by decide +kernel
theorem dX6_lose_24 : decode cX6_lose 24 = .ok (.ireturn, 1) := by decide +kernel
theorem dX6_lose_25 : decode cX6_lose 25 = .ok (.aload_n 0, 1) := by decide +kernel
theorem dX6_lose_26 : decode cX6_lose 26 = .ok (.invokevirtual 207, 3) := by decide +kernel
theorem dX6_lose_29 : decode cX6_lose 29 = .ok (.aload_n 0, 1) := by decide +kernel
theorem dX6_lose_30 : decode cX6_lose 30 = .ok (.getfield 13, 3) := by decide +kernel
theorem dX6_lose_33 : decode cX6_lose 33 = .ok (.iload_n 1, 1) := by decide +kernel
theorem dX6_lose_34 : decode cX6_lose 34 = .ok (.invokestatic 215, 3) := by decide +kernel
theorem dX6_lose_37 : decode cX6_lose 37 = .ok (.ireturn, 1) := by decide +kernel
theorem dX6_set_0 : decode cX6_set 0 = .ok (.aload_n 0, 1) := by decide +kernel
theorem dX6_set_1 : decode cX6_set 1 = .ok (.iload_n 1, 1) := by decide +kernel
theorem dX6_set_2 : decode cX6_set 2 = .ok (.iload_n 2, 1) := by decide +kernel
theorem dX6_set_3 : decode cX6_set 3 = .ok (.invokestatic 218, 3) := by decide +kernel
theorem dX6_set_6 : decode cX6_set 6 = .ok (.ifCond .eq 7, 3) := by decide +kernel
theorem dX6_set_9 : decode cX6_set 9 = .ok (.iconst 0, 1) := by decide +kernel
theorem dX6_set_10 : decode cX6_set 10 = .ok (.goto 4, 3) := by decide +kernel
theorem dX6_set_13 : decode cX6_set 13 = .ok (.iconst 1, 1) := by decide +kernel
theorem dX6_set_14 : decode cX6_set 14 = .ok (.invokevirtual 119, 3) := by decide +kernel
theorem dX6_set_17 : decode cX6_set 17 = .ok (.ifCond .eq 5, 3) := by decide +kernel
theorem dX6_set_20 : decode cX6_set 20 = .ok (.iconst 0, 1) := by decide +kernel
theorem dX6_set_21 : decode cX6_set 21 = .ok (.ireturn, 1) := by decide +kernel
theorem dX6_set_22 : decode cX6_set 22 = .ok (.aload_n 0, 1) := by decide +kernel
theorem dX6_set_23 : decode cX6_set 23 = .ok (.invokevirtual 207, 3) := by decide +kernel
theorem dX6_set_26 : decode cX6_set 26 = .ok (.aload_n 0, 1) := by decide +kernel
theorem dX6_set_27 : decode cX6_set 27 = .ok (.getfield 13, 3) := by decide +kernel
theorem dX6_set_30 : decode cX6_set 30 = .ok (.iconst 3, 1) := by decide +kernel
theorem dX6_set_31 : decode cX6_set 31 = .ok (.iload_n 1, 1) := by decide +kernel
theorem dX6_set_32 : decode cX6_set 32 = .ok (.iadd, 1) := by decide +kernel
theorem dX6_set_33 : decode cX6_set 33 = .ok (.iaload, 1) := by decide +kernel
theorem dX6_set_34 : decode cX6_set 34 = .ok (.istore_n 3, 1) := by decide +kernel
theorem dX6_set_35 : decode cX6_set 35 = .ok (.aload_n 0, 1) := by decide +kernel
theorem dX6_set_36 : decode cX6_set 36 = .ok (.getfield 13, 3) := by decide +kernel
theorem dX6_set_39 : decode cX6_set 39 = .ok (.iconst 3, 1) := by decide +kernel
theorem dX6_set_40 : decode cX6_set 40 = .ok (.iload_n 1, 1) := by decide +kernel
theorem dX6_set_41 : decode cX6_set 41 = .ok (.iadd, 1) := by decide +kernel
theorem dX6_set_42 : decode cX6_set 42 = .ok (.iload_n 2, 1) := by decide +kernel
theorem dX6_set_43 : decode cX6_set 43 = .ok (.iastore, 1) := by decide +kernel
theorem dX6_set_44 : decode cX6_set 44 = .ok (.iload_n 3, 1) := by decide +kernel
theorem dX6_set_45 : decode cX6_set 45 = .ok (.ireturn, 1) := by decide +kernel
theorem dX6_undo_0 : decode cX6_undo 0 = .ok (.aload_n 0, 1) := by decide +kernel
theorem dX6_undo_1 : decode cX6_undo 1 = .ok (.aload_n 0, 1) := by decide +kernel
theorem dX6_undo_2 : decode cX6_undo 2 = .ok (.getfield 177, 3) := by decide +kernel
theorem dX6_undo_5 : decode cX6_undo 5 = .ok (.ifCond .ne 7, 3) := by decide +kernel
theorem dX6_undo_8 : decode cX6_undo 8 = .ok (.iconst 1, 1) := by decide +kernel
theorem dX6_undo_9 : decode cX6_undo 9 = .ok (.goto 4, 3) := by decide +kernel
theorem dX6_undo_12 : decode cX6_undo 12 = .ok (.iconst 0, 1) := by decide +kernel
theorem dX6_undo_13 : decode cX6_undo 13 = .ok (.invokevirtual 119, 3) := by decide +kernel
theorem dX6_undo_16 : decode cX6_undo 16 = .ok (.ifCond .eq 5, 3) := by decide +kernel
theorem dX6_undo_19 : decode cX6_undo 19 = .ok (.iconst 0, 1) := by decide +kernel
theorem dX6_undo_20 : decode cX6_undo 20 = .ok (.ireturn, 1) := by decide +kernel
theorem dX6_undo_21 : decode cX6_undo 21 = .ok (.aload_n 0, 1) := by decide +kernel
theorem dX6_undo_22 : decode cX6_undo 22 = .ok (.dup, 1) := by decide +kernel
theorem dX6_undo_23 : decode cX6_undo 23 = .ok (.getfield 177, 3) := by decide +kernel
theorem dX6_undo_26 : decode cX6_undo 26 = .ok (.iconst 1, 1) := by decide +kernel
theorem dX6_undo_27 : decode cX6_undo 27 = .ok (.isub, 1) := by decide +kernel
theorem dX6_undo_28 : decode cX6_undo 28 = .ok (.putfield 177, 3) := by decide +kernel
theorem dX6_undo_31 : decode cX6_undo 31 = .ok (.aload_n 0, 1) := by decide +kernel
theorem dX6_undo_32 : decode cX6_undo 32 = .ok (.getfield 19, 3) := by decide +kernel
theorem dX6_undo_35 : decode cX6_undo 35 = .ok (.sipush 255, 3) := by decide +kernel
theorem dX6_undo_38 : decode cX6_undo 38 = .ok (.aload_n 0, 1) := by decide +kernel
theorem dX6_undo_39 : decode cX6_undo 39 = .ok (.getfield 177, 3) := by decide +kernel
theorem dX6_undo_42 : decode cX6_undo 42 = .ok (.imul, 1) := by decide +kernel
theorem dX6_undo_43 : decode cX6_undo 43 = .ok (.aload_n 0, 1) := by decide +kernel
theorem dX6_undo_44 : decode cX6_undo 44 = .ok (.getfield 13, 3) := by decide +kernel
theorem dX6_undo_47 : decode cX6_undo 47 = .ok (.iconst 0, 1) := by decide +kernel
theorem dX6_undo_48 : decode cX6_undo 48 = .ok (.invokestatic 173, 3) := by decide +kernel
theorem dX6_undo_51 : decode cX6_undo 51 = .ok (.aload_n 0, 1) := by decide +kernel
theorem dX6_undo_52 : decode cX6_undo 52 = .ok (.getfield 177, 3) := by decide +kernel
theorem dX6_undo_55 : decode cX6_undo 55 = .ok (.ireturn, 1) := by decide +kernel
theorem dX6_isPlayed_0 : decode cX6_isPlayed 0 = .ok (.aload_n 0, 1) := by decide +kernel
theorem dX6_isPlayed_1 : decode cX6_isPlayed 1 = .ok (.aload_n 0, 1) := by decide +kernel
theorem dX6_isPlayed_2 : decode cX6_isPlayed 2 = .ok (.getfield 13, 3) := by decide +kernel
theorem dX6_isPlayed_5 : decode cX6_isPlayed 5 = .ok (.iload_n 1, 1) := by decide +kernel
theorem dX6_isPlayed_6 : decode cX6_isPlayed 6 = .ok (.invokevirtual 77, 3) := by decide +kernel
theorem dX6_isPlayed_9 : decode cX6_isPlayed 9 = .ok (.ifCond .ne 17, 3) := by decide +kernel
theorem dX6_isPlayed_12 : decode cX6_isPlayed 12 = .ok (.aload_n 0, 1) := by decide +kernel
theorem dX6_isPlayed_13 : decode cX6_isPlayed 13 = .ok (.getfield 29, 3) := by decide +kernel
theorem dX6_isPlayed_16 : decode cX6_isPlayed 16 = .ok (.iload_n 2, 1) := by decide +kernel
theorem dX6_isPlayed_17 : decode cX6_isPlayed 17 = .ok (.iaload, 1) := by decide +kernel
theorem dX6_isPlayed_18 : decode cX6_isPlayed 18 = .ok (.iload_n 3, 1) := by decide +kernel
theorem dX6_isPlayed_19 : decode cX6_isPlayed 19 = .ok (.if_icmp .ne 7, 3) := by decide +kernel
theorem dX6_isPlayed_22 : decode cX6_isPlayed 22 = .ok (.iconst 1, 1) := by decide +kernel
theorem dX6_isPlayed_23 : decode cX6_isPlayed 23 = .ok (.goto 4, 3) := by decide +kernel
theorem dX6_isPlayed_26 : decode cX6_isPlayed 26 = .ok (.iconst 0, 1) := by decide +kernel
theorem dX6_isPlayed_27 : decode cX6_isPlayed 27 = .ok (.ireturn, 1) := by decide +kernel
theorem dX6_find_0 : decode cX6_find 0 = .ok (.aload_n 0, 1) := by decide +kernel
theorem dX6_find_1 : decode cX6_find 1 = .ok (.aload_n 0, 1) := by decide +kernel
theorem dX6_find_2 : decode cX6_find 2 = .ok (.getfield 13, 3) := by decide +kernel
theorem dX6_find_5 : decode cX6_find 5 = .ok (.iload_n 1, 1) := by decide +kernel
theorem dX6_find_6 : decode cX6_find 6 = .ok (.invokestatic 93, 3) := by decide +kernel
theorem dX6_find_9 : decode cX6_find 9 = .ok (.ifCond .eq 14, 3) := by decide +kernel
theorem dX6_find_12 : decode cX6_find 12 = .ok (.aload_n 0, 1) := by decide +kernel
theorem dX6_find_13 : decode cX6_find 13 = .ok (.getfield 13, 3) := by decide +kernel
theorem dX6_find_16 : decode cX6_find 16 = .ok (.iload_n 2, 1) := by decide +kernel
theorem dX6_find_17 : decode cX6_find 17 = .ok (.invokestatic 96, 3) := by decide +kernel
theorem dX6_find_20 : decode cX6_find 20 = .ok (.ifCond .ne 7, 3) := by decide +kernel
theorem dX6_find_23 : decode cX6_find 23 = .ok (.iconst 1, 1) := by decide +kernel
theorem dX6_find_24 : decode cX6_find 24 = .ok (.goto 12, 3) := by decide +kernel
theorem dX6_find_27 : decode cX6_find 27 = .ok (.iload_n 3, 1) := by decide +kernel
theorem dX6_find_28 : decode cX6_find 28 = .ok (.ifCond .lt 7, 3) := by decide +kernel
theorem dX6_find_31 : decode cX6_find 31 = .ok (.iconst 0, 1) := by decide +kernel
theorem dX6_find_32 : decode cX6_find 32 = .ok (.goto 4, 3) := by decide +kernel
theorem dX6_find_35 : decode cX6_find 35 = .ok (.iconst 2, 1) := by decide +kernel
theorem dX6_find_36 : decode cX6_find 36 = .ok (.invokevirtual 119, 3) := by decide +kernel
theorem dX6_find_39 : decode cX6_find 39 = .ok (.ifCond .eq 5, 3) := by decide +kernel
theorem dX6_find_42 : decode cX6_find 42 = .ok (.iconst 0, 1) := by decide +kernel
theorem dX6_find_43 : decode cX6_find 43 = .ok (.ireturn, 1) := by decide +kernel
theorem dX6_find_44 : decode cX6_find 44 = .ok (.iload_n 3, 1) := by decide +kernel
theorem dX6_find_45 : decode cX6_find 45 = .ok (.istore 4, 2) := by decide +kernel
theorem dX6_find_47 : decode cX6_find 47 = .ok (.iconst 0, 1) := by decide +kernel
theorem dX6_find_48 : decode cX6_find 48 = .ok (.istore 5, 2) := by decide +kernel
theorem dX6_find_50 : decode cX6_find 50 = .ok (.iload 5, 2) := by decide +kernel
theorem dX6_find_52 : decode cX6_find 52 = .ok (.bipush 20, 2) := by decide +kernel
theorem dX6_find_54 : decode cX6_find 54 = .ok (.if_icmp .ge 31, 3) := by decide +kernel
theorem dX6_find_57 : decode cX6_find 57 = .ok (.aload_n 0, 1) := by decide +kernel
theorem dX6_find_58 : decode cX6_find 58 = .ok (.iload 5, 2) := by decide +kernel
theorem dX6_find_60 : decode cX6_find 60 = .ok (.iload_n 1, 1) := by decide +kernel
theorem dX6_find_61 : decode cX6_find 61 = .ok (.iload_n 2, 1) := by decide +kernel
theorem dX6_find_62 : decode cX6_find 62 = .ok (.invokevirtual 222, 3) := by decide +kernel
theorem dX6_find_65 : decode cX6_find 65 = .ok (.ifCond .eq 14, 3) := by decide +kernel
theorem dX6_find_68 : decode cX6_find 68 = .ok (.iload 4, 2) := by decide +kernel
theorem dX6_find_70 : decode cX6_find 70 = .ok (.ifCond .ne 6, 3) := by decide +kernel
theorem dX6_find_73 : decode cX6_find 73 = .ok (.iload 5, 2) := by decide +kernel
theorem dX6_find_75 : decode cX6_find 75 = .ok (.ireturn, 1) := by decide +kernel
theorem dX6_find_76 : decode cX6_find 76 = .ok (.iinc 4 (-1), 3) := by decide +kernel
theorem dX6_find_79 : decode cX6_find 79 = .ok (.iinc 5 1, 3) := by decide +kernel
theorem dX6_find_82 : decode cX6_find 82 = .ok (.goto (-32), 3) := by decide +kernel
theorem dX6_find_85 : decode cX6_find 85 = .ok (.iconst (-1), 1) := by decide +kernel
theorem dX6_find_86 : decode cX6_find 86 = .ok (.ireturn, 1) := by decide +kernel
theorem dX6_together_0 : decode cX6_together 0 = .ok (.aload_n 0, 1) := by decide +kernel
theorem dX6_together_1 : decode cX6_together 1 = .ok (.aload_n 0, 1) := by decide +kernel
theorem dX6_together_2 : decode cX6_together 2 = .ok (.getfield 13, 3) := by decide +kernel
theorem dX6_together_5 : decode cX6_together 5 = .ok (.iload_n 1, 1) := by decide +kernel
theorem dX6_together_6 : decode cX6_together 6 = .ok (.invokestatic 96, 3) := by decide +kernel
theorem dX6_together_9 : decode cX6_together 9 = .ok (.ifCond .eq 18, 3) := by decide +kernel
theorem dX6_together_12 : decode cX6_together 12 = .ok (.aload_n 0, 1) := by decide +kernel
theorem dX6_together_13 : decode cX6_together 13 = .ok (.getfield 13, 3) := by decide +kernel
theorem dX6_together_16 : decode cX6_together 16 = .ok (.iload_n 2, 1) := by decide +kernel
theorem dX6_together_17 : decode cX6_together 17 = .ok (.invokestatic 96, 3) := by decide +kernel
theorem dX6_together_20 : decode cX6_together 20 = .ok (.ifCond .eq 7, 3) := by decide +kernel
theorem dX6_together_23 : decode cX6_together 23 = .ok (.iconst 0, 1) := by decide +kernel
theorem dX6_together_24 : decode cX6_together 24 = .ok (.goto 4, 3) := by decide +kernel
theorem dX6_together_27 : decode cX6_together 27 = .ok (.iconst 1, 1) := by decide +kernel
theorem dX6_together_28 : decode cX6_together 28 = .ok (.invokevirtual 119, 3) := by decide +kernel
theorem dX6_together_31 : decode cX6_together 31 = .ok (.ifCond .eq 5, 3) := by decide +kernel
theorem dX6_together_34 : decode cX6_together 34 = .ok (.iconst 0, 1) := by decide +kernel
theorem dX6_together_35 : decode cX6_together 35 = .ok (.ireturn, 1) := by decide +kernel
theorem dX6_together_36 : decode cX6_together 36 = .ok (.iconst 0, 1) := by decide +kernel
theorem dX6_together_37 : decode cX6_together 37 = .ok (.istore_n 3, 1) := by decide +kernel
theorem dX6_together_38 : decode cX6_together 38 = .ok (.iconst 0, 1) := by decide +kernel
theorem dX6_together_39 : decode cX6_together 39 = .ok (.istore 4, 2) := by decide +kernel
theorem dX6_together_41 : decode cX6_together 41 = .ok (.iload 4, 2) := by decide +kernel
theorem dX6_together_43 : decode cX6_together 43 = .ok (.bipush 20, 2) := by decide +kernel
theorem dX6_together_45 : decode cX6_together 45 = .ok (.if_icmp .ge 47, 3) := by decide +kernel
theorem dX6_together_48 : decode cX6_together 48 = .ok (.iload_n 3, 1) := by decide +kernel
theorem dX6_together_49 : decode cX6_together 49 = .ok (.aload_n 0, 1) := by decide +kernel
theorem dX6_together_50 : decode cX6_together 50 = .ok (.aload_n 0, 1) := by decide +kernel
theorem dX6_together_51 : decode cX6_together 51 = .ok (.getfield 13, 3) := by decide +kernel
theorem dX6_together_54 : decode cX6_together 54 = .ok (.iload 4, 2) := by decide +kernel
theorem dX6_together_56 : decode cX6_together 56 = .ok (.iload_n 1, 1) := by decide +kernel
theorem dX6_together_57 : decode cX6_together 57 = .ok (.invokevirtual 201, 3) := by decide +kernel
theorem dX6_together_60 : decode cX6_together 60 = .ok (.iconst (-1), 1) := by decide +kernel
theorem dX6_together_61 : decode cX6_together 61 = .ok (.if_icmp .eq 22, 3) := by decide +kernel
theorem dX6_together_64 : decode cX6_together 64 = .ok (.aload_n 0, 1) := by decide +kernel
theorem dX6_together_65 : decode cX6_together 65 = .ok (.aload_n 0, 1) := by decide +kernel
theorem dX6_together_66 : decode cX6_together 66 = .ok (.getfield 13, 3) := by decide +kernel
theorem dX6_together_69 : decode cX6_together 69 = .ok (.iload 4, 2) := by decide +kernel
theorem dX6_together_71 : decode cX6_together 71 = .ok (.iload_n 2, 1) := by decide +kernel
theorem dX6_together_72 : decode cX6_together 72 = .ok (.invokevirtual 201, 3) := by decide +kernel
theorem dX6_together_75 : decode cX6_together 75 = .ok (.iconst (-1), 1) := by decide +kernel
theorem dX6_together_76 : decode cX6_together 76 = .ok (.if_icmp .eq 7, 3) := by decide +kernel
theorem dX6_together_79 : decode cX6_together 79 = .ok (.iconst 1, 1) := by decide +kernel
theorem dX6_together_80 : decode cX6_together 80 = .ok (.goto 4, 3) := by decide +kernel
theorem dX6_together_83 : decode cX6_together 83 = .ok (.iconst 0, 1) := by decide +kernel
theorem dX6_together_84 : decode cX6_together 84 = .ok (.iadd, 1) := by decide +kernel
theorem dX6_together_85 : decode cX6_together 85 = .ok (.istore_n 3, 1) := by decide +kernel
theorem dX6_together_86 : decode cX6_together 86 = .ok (.iinc 4 1, 3) := by decide +kernel
theorem dX6_together_89 : decode cX6_together 89 = .ok (.goto (-48), 3) := by decide +kernel
theorem dX6_together_92 : decode cX6_together 92 = .ok (.iload_n 3, 1) := by decide +kernel
theorem dX6_together_93 : decode cX6_together 93 = .ok (.ireturn, 1) := by decide +kernel
theorem dX6_longest_0 : decode cX6_longest 0 = .ok (.aload_n 0, 1) := by decide +kernel
theorem dX6_longest_1 : decode cX6_longest 1 = .ok (.aload_n 0, 1) := by decide +kernel
theorem dX6_longest_2 : decode cX6_longest 2 = .ok (.getfield 13, 3) := by decide +kernel
theorem dX6_longest_5 : decode cX6_longest 5 = .ok (.iload_n 1, 1) := by decide +kernel
theorem dX6_longest_6 : decode cX6_longest 6 = .ok (.invokestatic 93, 3) := by decide +kernel
theorem dX6_longest_9 : decode cX6_longest 9 = .ok (.ifCond .eq 18, 3) := by decide +kernel
theorem dX6_longest_12 : decode cX6_longest 12 = .ok (.aload_n 0, 1) := by decide +kernel
theorem dX6_longest_13 : decode cX6_longest 13 = .ok (.getfield 13, 3) := by decide +kernel
theorem dX6_longest_16 : decode cX6_longest 16 = .ok (.iload_n 2, 1) := by decide +kernel
theorem dX6_longest_17 : decode cX6_longest 17 = .ok (.invokestatic 96, 3) := by decide +kernel
theorem dX6_longest_20 : decode cX6_longest 20 = .ok (.ifCond .eq 7, 3) := by decide +kernel
theorem dX6_longest_23 : decode cX6_longest 23 = .ok (.iconst 0, 1) := by decide +kernel
theorem dX6_longest_24 : decode cX6_longest 24 = .ok (.goto 4, 3) := by decide +kernel
theorem dX6_longest_27 : decode cX6_longest 27 = .ok (.iconst 1, 1) := by decide +kernel
theorem dX6_longest_28 : decode cX6_longest 28 = .ok (.invokevirtual 119, 3) := by decide +kernel
theorem dX6_longest_31 : decode cX6_longest 31 = .ok (.ifCond .eq 5, 3) := by decide +kernel
theorem dX6_longest_34 : decode cX6_longest 34 = .ok (.iconst 0, 1) := by decide +kernel
theorem dX6_longest_35 : decode cX6_longest 35 = .ok (.ireturn, 1) := by decide +kernel
theorem dX6_longest_36 : decode cX6_longest 36 = .ok (.iconst 0, 1) := by decide +kernel
theorem dX6_longest_37 : decode cX6_longest 37 = .ok (.istore_n 3, 1) := by decide +kernel
theorem dX6_longest_38 : decode cX6_longest 38 = .ok (.iconst 0, 1) := by decide +kernel
theorem dX6_longest_39 : decode cX6_longest 39 = .ok (.istore 4, 2) := by decide +kernel
theorem dX6_longest_41 : decode cX6_longest 41 = .ok (.iconst 0, 1) := by decide +kernel
theorem dX6_longest_42 : decode cX6_longest 42 = .ok (.istore 5, 2) := by decide +kernel
theorem dX6_longest_44 : decode cX6_longest 44 = .ok (.iload 5, 2) := by decide +kernel
theorem dX6_longest_46 : decode cX6_longest 46 = .ok (.bipush 20, 2) := by decide +kernel
theorem dX6_longest_48 : decode cX6_longest 48 = .ok (.if_icmp .ge 43, 3) := by decide +kernel
theorem dX6_longest_51 : decode cX6_longest 51 = .ok (.aload_n 0, 1) := by decide +kernel
theorem dX6_longest_52 : decode cX6_longest 52 = .ok (.iload 5, 2) := by decide +kernel
theorem dX6_longest_54 : decode cX6_longest 54 = .ok (.iload_n 1, 1) := by decide +kernel
theorem dX6_longest_55 : decode cX6_longest 55 = .ok (.iload_n 2, 1) := by decide +kernel
theorem dX6_longest_56 : decode cX6_longest 56 = .ok (.invokevirtual 222, 3) := by decide +kernel
theorem dX6_longest_59 : decode cX6_longest 59 = .ok (.ifCond .eq 10, 3) := by decide +kernel
theorem dX6_longest_62 : decode cX6_longest 62 = .ok (.iload 4, 2) := by decide +kernel
theorem dX6_longest_64 : decode cX6_longest 64 = .ok (.iconst 1, 1) := by decide +kernel
theorem dX6_longest_65 : decode cX6_longest 65 = .ok (.iadd, 1) := by decide +kernel
theorem dX6_longest_66 : decode cX6_longest 66 = .ok (.goto 4, 3) := by decide +kernel
theorem dX6_longest_69 : decode cX6_longest 69 = .ok (.iconst 0, 1) := by decide +kernel
theorem dX6_longest_70 : decode cX6_longest 70 = .ok (.istore 4, 2) := by decide +kernel
theorem dX6_longest_72 : decode cX6_longest 72 = .ok (.iload 4, 2) := by decide +kernel
theorem dX6_longest_74 : decode cX6_longest 74 = .ok (.iload_n 3, 1) := by decide +kernel
theorem dX6_longest_75 : decode cX6_longest 75 = .ok (.if_icmp .le 8, 3) := by decide +kernel
theorem dX6_longest_78 : decode cX6_longest 78 = .ok (.iload 4, 2) := by decide +kernel
theorem dX6_longest_80 : decode cX6_longest 80 = .ok (.goto 4, 3) := by decide +kernel
theorem dX6_longest_83 : decode cX6_longest 83 = .ok (.iload_n 3, 1) := by decide +kernel
theorem dX6_longest_84 : decode cX6_longest 84 = .ok (.istore_n 3, 1) := by decide +kernel
theorem dX6_longest_85 : decode cX6_longest 85 = .ok (.iinc 5 1, 3) := by decide +kernel
theorem dX6_longest_88 : decode cX6_longest 88 = .ok (.goto (-44), 3) := by decide +kernel
theorem dX6_longest_91 : decode cX6_longest 91 = .ok (.iload_n 3, 1) := by decide +kernel
theorem dX6_longest_92 : decode cX6_longest 92 = .ok (.ireturn, 1) := by decide +kernel
theorem dX6_ifIll_0 : decode cX6_ifIll 0 = .ok (.aload_n 0, 1) := by decide +kernel
theorem dX6_ifIll_1 : decode cX6_ifIll 1 = .ok (.aload_n 0, 1) := by decide +kernel
theorem dX6_ifIll_2 : decode cX6_ifIll 2 = .ok (.getfield 13, 3) := by decide +kernel
theorem dX6_ifIll_5 : decode cX6_ifIll 5 = .ok (.iload_n 1, 1) := by decide +kernel
theorem dX6_ifIll_6 : decode cX6_ifIll 6 = .ok (.invokestatic 96, 3) := by decide +kernel
theorem dX6_ifIll_9 : decode cX6_ifIll 9 = .ok (.ifCond .eq 10, 3) := by decide +kernel
theorem dX6_ifIll_12 : decode cX6_ifIll 12 = .ok (.iload_n 2, 1) := by decide +kernel
theorem dX6_ifIll_13 : decode cX6_ifIll 13 = .ok (.invokestatic 106, 3) := by decide +kernel
theorem dX6_ifIll_16 : decode cX6_ifIll 16 = .ok (.ifCond .ne 7, 3) := by decide +kernel
theorem dX6_ifIll_19 : decode cX6_ifIll 19 = .ok (.iconst 1, 1) := by decide +kernel
theorem dX6_ifIll_20 : decode cX6_ifIll 20 = .ok (.goto 18, 3) := by decide +kernel
theorem dX6_ifIll_23 : decode cX6_ifIll 23 = .ok (.iload_n 3, 1) := by decide +kernel
theorem dX6_ifIll_24 : decode cX6_ifIll 24 = .ok (.i2l, 1) := by decide +kernel
theorem dX6_ifIll_25 : decode cX6_ifIll 25 = .ok (.lconst 0, 1) := by decide +kernel
theorem dX6_ifIll_26 : decode cX6_ifIll 26 = .ok (.lconst 1, 1) := by decide +kernel
theorem dX6_ifIll_27 : decode cX6_ifIll 27 = .ok (.invokestatic 48, 3) := by decide +kernel
theorem dX6_ifIll_30 : decode cX6_ifIll 30 = .ok (.ifCond .eq 7, 3) := by decide +kernel
theorem dX6_ifIll_33 : decode cX6_ifIll 33 = .ok (.iconst 0, 1) := by decide +kernel
theorem dX6_ifIll_34 : decode cX6_ifIll 34 = .ok (.goto 4, 3) := by decide +kernel
theorem dX6_ifIll_37 : decode cX6_ifIll 37 = .ok (.iconst 2, 1) := by decide +kernel
theorem dX6_ifIll_38 : decode cX6_ifIll 38 = .ok (.invokevirtual 119, 3) := by decide +kernel
theorem dX6_ifIll_41 : decode cX6_ifIll 41 = .ok (.ifCond .eq 5, 3) := by decide +kernel
theorem dX6_ifIll_44 : decode cX6_ifIll 44 = .ok (.iconst 0, 1) := by decide +kernel
theorem dX6_ifIll_45 : decode cX6_ifIll 45 = .ok (.ireturn, 1) := by decide +kernel
theorem dX6_ifIll_46 : decode cX6_ifIll 46 = .ok (.aload_n 0, 1) := by decide +kernel
theorem dX6_ifIll_47 : decode cX6_ifIll 47 = .ok (.getfield 13, 3) := by decide +kernel
theorem dX6_ifIll_50 : decode cX6_ifIll 50 = .ok (.iconst 0, 1) := by decide +kernel
theorem dX6_ifIll_51 : decode cX6_ifIll 51 = .ok (.aload_n 0, 1) := by decide +kernel
theorem dX6_ifIll_52 : decode cX6_ifIll 52 = .ok (.getfield 16, 3) := by decide +kernel
theorem dX6_ifIll_55 : decode cX6_ifIll 55 = .ok (.iconst 0, 1) := by decide +kernel
theorem dX6_ifIll_56 : decode cX6_ifIll 56 = .ok (.invokestatic 173, 3) := by decide +kernel
theorem dX6_ifIll_59 : decode cX6_ifIll 59 = .ok (.aload_n 0, 1) := by decide +kernel
theorem dX6_ifIll_60 : decode cX6_ifIll 60 = .ok (.getfield 16, 3) := by decide +kernel
theorem dX6_ifIll_63 : decode cX6_ifIll 63 = .ok (.iload_n 1, 1) := by decide +kernel
theorem dX6_ifIll_64 : decode cX6_ifIll 64 = .ok (.iload_n 2, 1) := by decide +kernel
theorem dX6_ifIll_65 : decode cX6_ifIll 65 = .ok (.aload_n 0, 1) := by decide +kernel
theorem dX6_ifIll_66 : decode cX6_ifIll 66 = .ok (.getfield 13, 3) := by decide +kernel
theorem dX6_ifIll_69 : decode cX6_ifIll 69 = .ok (.iload_n 1, 1) := by decide +kernel
theorem dX6_ifIll_70 : decode cX6_ifIll 70 = .ok (.iload_n 2, 1) := by decide +kernel
theorem dX6_ifIll_71 : decode cX6_ifIll 71 = .ok (.invokestatic 52, 3) := by decide +kernel
theorem dX6_ifIll_74 : decode cX6_ifIll 74 = .ok (.ifCond .ne 7, 3) := by decide +kernel
theorem dX6_ifIll_77 : decode cX6_ifIll 77 = .ok (.iconst 1, 1) := by decide +kernel
theorem dX6_ifIll_78 : decode cX6_ifIll 78 = .ok (.goto 4, 3) := by decide +kernel
theorem dX6_ifIll_81 : decode cX6_ifIll 81 = .ok (.iconst 0, 1) := by decide +kernel
theorem dX6_ifIll_82 : decode cX6_ifIll 82 = .ok (.invokestatic 159, 3) := by decide +kernel
theorem dX6_ifIll_85 : decode cX6_ifIll 85 = .ok (.pop, 1) := by decide +kernel
theorem dX6_ifIll_86 : decode cX6_ifIll 86 = .ok (.iload_n 3, 1) := by decide +kernel
theorem dX6_ifIll_87 : decode cX6_ifIll 87 = .ok (.iconst 1, 1) := by decide +kernel
theorem dX6_ifIll_88 : decode cX6_ifIll 88 = .ok (.if_icmp .ne 23, 3) := by decide +kernel
theorem dX6_ifIll_91 : decode cX6_ifIll 91 = .ok (.aload_n 0, 1) := by decide +kernel
theorem dX6_ifIll_92 : decode cX6_ifIll 92 = .ok (.aload_n 0, 1) := by decide +kernel
theorem dX6_ifIll_93 : decode cX6_ifIll 93 = .ok (.getfield 16, 3) := by decide +kernel
theorem dX6_ifIll_96 : decode cX6_ifIll 96 = .ok (.iload_n 2, 1) := by decide +kernel
theorem dX6_ifIll_97 : decode cX6_ifIll 97 = .ok (.invokevirtual 81, 3) := by decide +kernel
theorem dX6_ifIll_100 : decode cX6_ifIll 100 = .ok (.aload_n 0, 1) := by decide +kernel
theorem dX6_ifIll_101 : decode cX6_ifIll 101 = .ok (.aload_n 0, 1) := by decide +kernel
theorem dX6_ifIll_102 : decode cX6_ifIll 102 = .ok (.getfield 13, 3) := by decide +kernel
theorem dX6_ifIll_105 : decode cX6_ifIll 105 = .ok (.iload_n 2, 1) := by decide +kernel
theorem dX6_ifIll_106 : decode cX6_ifIll 106 = .ok (.invokevirtual 81, 3) := by decide +kernel
theorem dX6_ifIll_109 : decode cX6_ifIll 109 = .ok (.isub, 1) := by decide +kernel
theorem dX6_ifIll_110 : decode cX6_ifIll 110 = .ok (.ireturn, 1) := by decide +kernel
theorem dX6_ifIll_111 : decode cX6_ifIll 111 = .ok (.aload_n 0, 1) := by decide +kernel
theorem dX6_ifIll_112 : decode cX6_ifIll 112 = .ok (.aload_n 0, 1) := by decide +kernel
theorem dX6_ifIll_113 : decode cX6_ifIll 113 = .ok (.getfield 13, 3) := by decide +kernel
theorem dX6_ifIll_116 : decode cX6_ifIll 116 = .ok (.iload_n 2, 1) := by decide +kernel
theorem dX6_ifIll_117 : decode cX6_ifIll 117 = .ok (.invokevirtual 77, 3) := by decide +kernel
theorem dX6_ifIll_120 : decode cX6_ifIll 120 = .ok (.pop, 1) := by decide +kernel
theorem dX6_ifIll_121 : decode cX6_ifIll 121 = .ok (.aload_n 0, 1) := by decide +kernel
theorem dX6_ifIll_122 : decode cX6_ifIll 122 = .ok (.invokevirtual 226, 3) := by decide +kernel
theorem dX6_ifIll_125 : decode cX6_ifIll 125 = .ok (.lstore 4, 2) := by decide +kernel
theorem dX6_ifIll_127 : decode cX6_ifIll 127 = .ok (.aload_n 0, 1) := by decide +kernel
theorem dX6_ifIll_128 : decode cX6_ifIll 128 = .ok (.aload_n 0, 1) := by decide +kernel
theorem dX6_ifIll_129 : decode cX6_ifIll 129 = .ok (.getfield 16, 3) := by decide +kernel
theorem dX6_ifIll_132 : decode cX6_ifIll 132 = .ok (.iload_n 2, 1) := by decide +kernel
theorem dX6_ifIll_133 : decode cX6_ifIll 133 = .ok (.invokevirtual 77, 3) := by decide +kernel
theorem dX6_ifIll_136 : decode cX6_ifIll 136 = .ok (.pop, 1) := by decide +kernel
theorem dX6_ifIll_137 : decode cX6_ifIll 137 = .ok (.aload_n 0, 1) := by decide +kernel
theorem dX6_ifIll_138 : decode cX6_ifIll 138 = .ok (.invokevirtual 226, 3) := by decide +kernel
theorem dX6_ifIll_141 : decode cX6_ifIll 141 = .ok (.lstore 6, 2) := by decide +kernel
theorem dX6_ifIll_143 : decode cX6_ifIll 143 = .ok (.iconst 0, 1) := by decide +kernel
theorem dX6_ifIll_144 : decode cX6_ifIll 144 = .ok (.istore 8, 2) := by decide +kernel
theorem dX6_ifIll_146 : decode cX6_ifIll 146 = .ok (.aload_n 0, 1) := by decide +kernel
theorem dX6_ifIll_147 : decode cX6_ifIll 147 = .ok (.getfield 13, 3) := by decide +kernel
theorem dX6_ifIll_150 : decode cX6_ifIll 150 = .ok (.iconst 0, 1) := by decide +kernel
theorem dX6_ifIll_151 : decode cX6_ifIll 151 = .ok (.iaload, 1) := by decide +kernel
theorem dX6_ifIll_152 : decode cX6_ifIll 152 = .ok (.iconst 1, 1) := by decide +kernel
theorem dX6_ifIll_153 : decode cX6_ifIll 153 = .ok (.isub, 1) := by decide +kernel
theorem dX6_ifIll_154 : decode cX6_ifIll 154 = .ok (.istore 9, 2) := by decide +kernel
theorem dX6_ifIll_156 : decode cX6_ifIll 156 = .ok (.iload 9, 2) := by decide +kernel
theorem dX6_ifIll_158 : decode cX6_ifIll 158 = .ok (.ifCond .lt 54, 3) := by decide +kernel
theorem dX6_ifIll_161 : decode cX6_ifIll 161 = .ok (.iload 8, 2) := by decide +kernel
theorem dX6_ifIll_163 : decode cX6_ifIll 163 = .ok (.lload 4, 2) := by decide +kernel
theorem dX6_ifIll_165 : decode cX6_ifIll 165 = .ok (.ldc2_w 230, 3) := by decide +kernel
theorem dX6_ifIll_168 : decode cX6_ifIll 168 = .ok (.lrem, 1) := by decide +kernel
theorem dX6_ifIll_169 : decode cX6_ifIll 169 = .ok (.lload 6, 2) := by decide +kernel
theorem dX6_ifIll_171 : decode cX6_ifIll 171 = .ok (.ldc2_w 230, 3) := by decide +kernel
theorem dX6_ifIll_174 : decode cX6_ifIll 174 = .ok (.lrem, 1) := by decide +kernel
theorem dX6_ifIll_175 : decode cX6_ifIll 175 = .ok (.lcmp, 1) := by decide +kernel
theorem dX6_ifIll_176 : decode cX6_ifIll 176 = .ok (.ifCond .ne 7, 3) := by decide +kernel
theorem dX6_ifIll_179 : decode cX6_ifIll 179 = .ok (.iconst 0, 1) := by decide +kernel
theorem dX6_ifIll_180 : decode cX6_ifIll 180 = .ok (.goto 7, 3) := by decide +kernel
theorem dX6_ifIll_183 : decode cX6_ifIll 183 = .ok (.iconst 1, 1) := by decide +kernel
theorem dX6_ifIll_184 : decode cX6_ifIll 184 = .ok (.iload 9, 2) := by decide +kernel
theorem dX6_ifIll_186 : decode cX6_ifIll 186 = .ok (.ishl, 1) := by decide +kernel
theorem dX6_ifIll_187 : decode cX6_ifIll 187 = .ok (.ior, 1) := by decide +kernel
theorem dX6_ifIll_188 : decode cX6_ifIll 188 = .ok (.istore 8, 2) := by decide +kernel
theorem dX6_ifIll_190 : decode cX6_ifIll 190 = .ok (.lload 4, 2) := by decide +kernel
theorem dX6_ifIll_192 : decode cX6_ifIll 192 = .ok (.ldc2_w 230, 3) := by decide +kernel
theorem dX6_ifIll_195 : decode cX6_ifIll 195 = .ok (.ldiv, 1) := by decide +kernel
theorem dX6_ifIll_196 : decode cX6_ifIll 196 = .ok (.lstore 4, 2) := by decide +kernel
theorem dX6_ifIll_198 : decode cX6_ifIll 198 = .ok (.lload 6, 2) := by decide +kernel
theorem dX6_ifIll_200 : decode cX6_ifIll 200 = .ok (.ldc2_w 230, 3) := by decide +kernel
theorem dX6_ifIll_203 : decode cX6_ifIll 203 = .ok (.ldiv, 1) := by decide +kernel
theorem dX6_ifIll_204 : decode cX6_ifIll 204 = .ok (.lstore 6, 2) := by decide +kernel
theorem dX6_ifIll_206 : decode cX6_ifIll 206 = .ok (.iinc 9 (-1), 3) := by decide +kernel
theorem dX6_ifIll_209 : decode cX6_ifIll 209 = .ok (.goto (-53), 3) := by decide +kernel
theorem dX6_ifIll_212 : decode cX6_ifIll 212 = .ok (.iload 8, 2) := by decide +kernel
theorem dX6_ifIll_214 : decode cX6_ifIll 214 = .ok (.ireturn, 1) := by decide +kernel
theorem dX6_row_0 : decode cX6_row 0 = .ok (.lconst 0, 1) := by decide +kernel
theorem dX6_row_1 : decode cX6_row 1 = .ok (.lstore_n 1, 1) := by decide +kernel
theorem dX6_row_2 : decode cX6_row 2 = .ok (.iconst 0, 1) := by decide +kernel
theorem dX6_row_3 : decode cX6_row 3 = .ok (.istore_n 3, 1) := by decide +kernel
theorem dX6_row_4 : decode cX6_row 4 = .ok (.iload_n 3, 1) := by decide +kernel
theorem dX6_row_5 : decode cX6_row 5 = .ok (.aload_n 0, 1) := by decide +kernel
theorem dX6_row_6 : decode cX6_row 6 = .ok (.getfield 13, 3) := by decide +kernel
theorem dX6_row_9 : decode cX6_row 9 = .ok (.iconst 0, 1) := by decide +kernel
theorem dX6_row_10 : decode cX6_row 10 = .ok (.iaload, 1) := by decide +kernel
theorem dX6_row_11 : decode cX6_row 11 = .ok (.if_icmp .ge 25, 3) := by decide +kernel
theorem dX6_row_14 : decode cX6_row 14 = .ok (.ldc2_w 230, 3) := by decide +kernel
theorem dX6_row_17 : decode cX6_row 17 = .ok (.lload_n 1, 1) := by decide +kernel
theorem dX6_row_18 : decode cX6_row 18 = .ok (.lmul, 1) := by decide +kernel
theorem dX6_row_19 : decode cX6_row 19 = .ok (.aload_n 0, 1) := by decide +kernel
theorem dX6_row_20 : decode cX6_row 20 = .ok (.getfield 29, 3) := by decide +kernel
theorem dX6_row_23 : decode cX6_row 23 = .ok (.iload_n 3, 1) := by decide +kernel
theorem dX6_row_24 : decode cX6_row 24 = .ok (.iaload, 1) := by decide +kernel
theorem dX6_row_25 : decode cX6_row 25 = .ok (.i2l, 1) := by decide +kernel
theorem dX6_row_26 : decode cX6_row 26 = .ok (.ladd, 1) := by decide +kernel
theorem dX6_row_27 : decode cX6_row 27 = .ok (.lconst 1, 1) := by decide +kernel
theorem dX6_row_28 : decode cX6_row 28 = .ok (.ladd, 1) := by decide +kernel
theorem dX6_row_29 : decode cX6_row 29 = .ok (.lstore_n 1, 1) := by decide +kernel
theorem dX6_row_30 : decode cX6_row 30 = .ok (.iinc 3 1, 3) := by decide +kernel
theorem dX6_row_33 : decode cX6_row 33 = .ok (.goto (-29), 3) := by decide +kernel
theorem dX6_row_36 : decode cX6_row 36 = .ok (.lload_n 1, 1) := by decide +kernel
theorem dX6_row_37 : decode cX6_row 37 = .ok (.lreturn, 1) := by decide +kernel
theorem dX6_bestUnderstudy_0 : decode cX6_bestUnderstudy 0 = .ok (.aload_n 0, 1) := by decide +kernel
theorem dX6_bestUnderstudy_1 : decode cX6_bestUnderstudy 1 = .ok (.aload_n 0, 1) := by decide +kernel
theorem dX6_bestUnderstudy_2 : decode cX6_bestUnderstudy 2 = .ok (.getfield 13, 3) := by decide +kernel
theorem dX6_bestUnderstudy_5 : decode cX6_bestUnderstudy 5 = .ok (.iload_n 1, 1) := by decide +kernel
theorem dX6_bestUnderstudy_6 : decode cX6_bestUnderstudy 6 = .ok (.invokestatic 93, 3) := by decide +kernel
theorem dX6_bestUnderstudy_9 : decode cX6_bestUnderstudy 9 = .ok (.ifCond .eq 7, 3) := by decide +kernel
theorem dX6_bestUnderstudy_12 : decode cX6_bestUnderstudy 12 = .ok (.iconst 0, 1) := by decide +kernel
theorem dX6_bestUnderstudy_13 : decode cX6_bestUnderstudy 13 = .ok (.goto 4, 3) := by decide +kernel
theorem dX6_bestUnderstudy_16 : decode cX6_bestUnderstudy 16 = .ok (.iconst 1, 1) := by decide +kernel
theorem dX6_bestUnderstudy_17 : decode cX6_bestUnderstudy 17 = .ok (.invokevirtual 119, 3) := by decide +kernel
theorem dX6_bestUnderstudy_20 : decode cX6_bestUnderstudy 20 = .ok (.ifCond .eq 5, 3) := by decide +kernel
theorem dX6_bestUnderstudy_23 : decode cX6_bestUnderstudy 23 = .ok (.iconst 0, 1) := by decide +kernel
theorem dX6_bestUnderstudy_24 : decode cX6_bestUnderstudy 24 = .ok (.ireturn, 1) := by decide +kernel
theorem dX6_bestUnderstudy_25 : decode cX6_bestUnderstudy 25 = .ok (.iconst (-1), 1) := by decide +kernel
theorem dX6_bestUnderstudy_26 : decode cX6_bestUnderstudy 26 = .ok (.istore_n 2, 1) := by decide +kernel
theorem dX6_bestUnderstudy_27 : decode cX6_bestUnderstudy 27 = .ok (.iconst 0, 1) := by decide +kernel
theorem dX6_bestUnderstudy_28 : decode cX6_bestUnderstudy 28 = .ok (.istore_n 3, 1) := by decide +kernel
theorem dX6_bestUnderstudy_29 : decode cX6_bestUnderstudy 29 = .ok (.iconst 0, 1) := by decide +kernel
theorem dX6_bestUnderstudy_30 : decode cX6_bestUnderstudy 30 = .ok (.istore 4, 2) := by decide +kernel
theorem dX6_bestUnderstudy_32 : decode cX6_bestUnderstudy 32 = .ok (.iconst 0, 1) := by decide +kernel
theorem dX6_bestUnderstudy_33 : decode cX6_bestUnderstudy 33 = .ok (.istore 5, 2) := by decide +kernel
theorem dX6_bestUnderstudy_35 : decode cX6_bestUnderstudy 35 = .ok (.iload 5, 2) := by decide +kernel
theorem dX6_bestUnderstudy_37 : decode cX6_bestUnderstudy 37 = .ok (.aload_n 0, 1) := by decide +kernel
theorem dX6_bestUnderstudy_38 : decode cX6_bestUnderstudy 38 = .ok (.getfield 13, 3) := by decide +kernel
theorem dX6_bestUnderstudy_41 : decode cX6_bestUnderstudy 41 = .ok (.iconst 1, 1) := by decide +kernel
theorem dX6_bestUnderstudy_42 : decode cX6_bestUnderstudy 42 = .ok (.iaload, 1) := by decide +kernel
theorem dX6_bestUnderstudy_43 : decode cX6_bestUnderstudy 43 = .ok (.if_icmp .ge 135, 3) := by decide +kernel
theorem dX6_bestUnderstudy_46 : decode cX6_bestUnderstudy 46 = .ok (.aload_n 0, 1) := by decide +kernel
theorem dX6_bestUnderstudy_47 : decode cX6_bestUnderstudy 47 = .ok (.getfield 13, 3) := by decide +kernel
theorem dX6_bestUnderstudy_50 : decode cX6_bestUnderstudy 50 = .ok (.iload_n 1, 1) := by decide +kernel
theorem dX6_bestUnderstudy_51 : decode cX6_bestUnderstudy 51 = .ok (.iload 5, 2) := by decide +kernel
theorem dX6_bestUnderstudy_53 : decode cX6_bestUnderstudy 53 = .ok (.invokestatic 153, 3) := by decide +kernel
theorem dX6_bestUnderstudy_56 : decode cX6_bestUnderstudy 56 = .ok (.ifCond .eq 116, 3) := by decide +kernel
theorem dX6_bestUnderstudy_59 : decode cX6_bestUnderstudy 59 = .ok (.aload_n 0, 1) := by decide +kernel
theorem dX6_bestUnderstudy_60 : decode cX6_bestUnderstudy 60 = .ok (.getfield 13, 3) := by decide +kernel
theorem dX6_bestUnderstudy_63 : decode cX6_bestUnderstudy 63 = .ok (.iconst 0, 1) := by decide +kernel
theorem dX6_bestUnderstudy_64 : decode cX6_bestUnderstudy 64 = .ok (.aload_n 0, 1) := by decide +kernel
theorem dX6_bestUnderstudy_65 : decode cX6_bestUnderstudy 65 = .ok (.getfield 16, 3) := by decide +kernel
theorem dX6_bestUnderstudy_68 : decode cX6_bestUnderstudy 68 = .ok (.iconst 0, 1) := by decide +kernel
theorem dX6_bestUnderstudy_69 : decode cX6_bestUnderstudy 69 = .ok (.invokestatic 173, 3) := by decide +kernel
theorem dX6_bestUnderstudy_72 : decode cX6_bestUnderstudy 72 = .ok (.aload_n 0, 1) := by decide +kernel
theorem dX6_bestUnderstudy_73 : decode cX6_bestUnderstudy 73 = .ok (.getfield 16, 3) := by decide +kernel
theorem dX6_bestUnderstudy_76 : decode cX6_bestUnderstudy 76 = .ok (.iload_n 1, 1) := by decide +kernel
theorem dX6_bestUnderstudy_77 : decode cX6_bestUnderstudy 77 = .ok (.iload 5, 2) := by decide +kernel
theorem dX6_bestUnderstudy_79 : decode cX6_bestUnderstudy 79 = .ok (.invokestatic 156, 3) := by decide +kernel
theorem dX6_bestUnderstudy_82 : decode cX6_bestUnderstudy 82 = .ok (.pop, 1) := by decide +kernel
theorem dX6_bestUnderstudy_83 : decode cX6_bestUnderstudy 83 = .ok (.aload_n 0, 1) := by decide +kernel
theorem dX6_bestUnderstudy_84 : decode cX6_bestUnderstudy 84 = .ok (.aload_n 0, 1) := by decide +kernel
theorem dX6_bestUnderstudy_85 : decode cX6_bestUnderstudy 85 = .ok (.getfield 16, 3) := by decide +kernel
theorem dX6_bestUnderstudy_88 : decode cX6_bestUnderstudy 88 = .ok (.invokevirtual 185, 3) := by decide +kernel
theorem dX6_bestUnderstudy_91 : decode cX6_bestUnderstudy 91 = .ok (.istore 6, 2) := by decide +kernel
theorem dX6_bestUnderstudy_93 : decode cX6_bestUnderstudy 93 = .ok (.aload_n 0, 1) := by decide +kernel
theorem dX6_bestUnderstudy_94 : decode cX6_bestUnderstudy 94 = .ok (.aload_n 0, 1) := by decide +kernel
theorem dX6_bestUnderstudy_95 : decode cX6_bestUnderstudy 95 = .ok (.getfield 16, 3) := by decide +kernel
theorem dX6_bestUnderstudy_98 : decode cX6_bestUnderstudy 98 = .ok (.invokevirtual 188, 3) := by decide +kernel
theorem dX6_bestUnderstudy_101 : decode cX6_bestUnderstudy 101 = .ok (.istore 7, 2) := by decide +kernel
theorem dX6_bestUnderstudy_103 : decode cX6_bestUnderstudy 103 = .ok (.iload_n 2, 1) := by decide +kernel
theorem dX6_bestUnderstudy_104 : decode cX6_bestUnderstudy 104 = .ok (.iconst (-1), 1) := by decide +kernel
theorem dX6_bestUnderstudy_105 : decode cX6_bestUnderstudy 105 = .ok (.if_icmp .eq 22, 3) := by decide +kernel
theorem dX6_bestUnderstudy_108 : decode cX6_bestUnderstudy 108 = .ok (.iload 6, 2) := by decide +kernel
theorem dX6_bestUnderstudy_110 : decode cX6_bestUnderstudy 110 = .ok (.iload_n 3, 1) := by decide +kernel
theorem dX6_bestUnderstudy_111 : decode cX6_bestUnderstudy 111 = .ok (.if_icmp .lt 16, 3) := by decide +kernel
theorem dX6_bestUnderstudy_114 : decode cX6_bestUnderstudy 114 = .ok (.iload 6, 2) := by decide +kernel
theorem dX6_bestUnderstudy_116 : decode cX6_bestUnderstudy 116 = .ok (.iload_n 3, 1) := by decide +kernel
theorem dX6_bestUnderstudy_117 : decode cX6_bestUnderstudy 117 = .ok (.if_icmp .ne 14, 3) := by decide +kernel
theorem dX6_bestUnderstudy_120 : decode cX6_bestUnderstudy 120 = .ok (.iload 7, 2) := by decide +kernel
theorem dX6_bestUnderstudy_122 : decode cX6_bestUnderstudy 122 = .ok (.iload 4, 2) := by decide +kernel
theorem dX6_bestUnderstudy_124 : decode cX6_bestUnderstudy 124 = .ok (.if_icmp .le 7, 3) := by decide +kernel
theorem dX6_bestUnderstudy_127 : decode cX6_bestUnderstudy 127 = .ok (.iconst 1, 1) := by decide +kernel
theorem dX6_bestUnderstudy_128 : decode cX6_bestUnderstudy 128 = .ok (.goto 4, 3) := by decide +kernel
theorem dX6_bestUnderstudy_131 : decode cX6_bestUnderstudy 131 = .ok (.iconst 0, 1) := by decide +kernel
theorem dX6_bestUnderstudy_132 : decode cX6_bestUnderstudy 132 = .ok (.istore 8, 2) := by decide +kernel
theorem dX6_bestUnderstudy_134 : decode cX6_bestUnderstudy 134 = .ok (.iload 8, 2) := by decide +kernel
theorem dX6_bestUnderstudy_136 : decode cX6_bestUnderstudy 136 = .ok (.ifCond .eq 8, 3) := by decide +kernel
theorem dX6_bestUnderstudy_139 : decode cX6_bestUnderstudy 139 = .ok (.iload 5, 2) := by decide +kernel
theorem dX6_bestUnderstudy_141 : decode cX6_bestUnderstudy 141 = .ok (.goto 4, 3) := by decide +kernel
theorem dX6_bestUnderstudy_144 : decode cX6_bestUnderstudy 144 = .ok (.iload_n 2, 1) := by decide +kernel
theorem dX6_bestUnderstudy_145 : decode cX6_bestUnderstudy 145 = .ok (.istore_n 2, 1) := by decide +kernel
theorem dX6_bestUnderstudy_146 : decode cX6_bestUnderstudy 146 = .ok (.iload 8, 2) := by decide +kernel
theorem dX6_bestUnderstudy_148 : decode cX6_bestUnderstudy 148 = .ok (.ifCond .eq 8, 3) := by decide +kernel
theorem dX6_bestUnderstudy_151 : decode cX6_bestUnderstudy 151 = .ok (.iload 6, 2) := by decide +kernel
theorem dX6_bestUnderstudy_153 : decode cX6_bestUnderstudy 153 = .ok (.goto 4, 3) := by decide +kernel
theorem dX6_bestUnderstudy_156 : decode cX6_bestUnderstudy 156 = .ok (.iload_n 3, 1) := by decide +kernel
theorem dX6_bestUnderstudy_157 : decode cX6_bestUnderstudy 157 = .ok (.istore_n 3, 1) := by decide +kernel
theorem dX6_bestUnderstudy_158 : decode cX6_bestUnderstudy 158 = .ok (.iload 8, 2) := by decide +kernel
theorem dX6_bestUnderstudy_160 : decode cX6_bestUnderstudy 160 = .ok (.ifCond .eq 8, 3) := by decide +kernel
theorem dX6_bestUnderstudy_163 : decode cX6_bestUnderstudy 163 = .ok (.iload 7, 2) := by decide +kernel
theorem dX6_bestUnderstudy_165 : decode cX6_bestUnderstudy 165 = .ok (.goto 5, 3) := by decide +kernel
theorem dX6_bestUnderstudy_168 : decode cX6_bestUnderstudy 168 = .ok (.iload 4, 2) := by decide +kernel
theorem dX6_bestUnderstudy_170 : decode cX6_bestUnderstudy 170 = .ok (.istore 4, 2) := by decide +kernel
theorem dX6_bestUnderstudy_172 : decode cX6_bestUnderstudy 172 = .ok (.iinc 5 1, 3) := by decide +kernel
theorem dX6_bestUnderstudy_175 : decode cX6_bestUnderstudy 175 = .ok (.goto (-140), 3) := by decide +kernel
theorem dX6_bestUnderstudy_178 : decode cX6_bestUnderstudy 178 = .ok (.iload_n 2, 1) := by decide +kernel
theorem dX6_bestUnderstudy_179 : decode cX6_bestUnderstudy 179 = .ok (.ireturn, 1) := by decide +kernel
theorem dX6_needed_0 : decode cX6_needed 0 = .ok (.aload_n 0, 1) := by decide +kernel
theorem dX6_needed_1 : decode cX6_needed 1 = .ok (.iconst 0, 1) := by decide +kernel
theorem dX6_needed_2 : decode cX6_needed 2 = .ok (.putfield 42, 3) := by decide +kernel
theorem dX6_needed_5 : decode cX6_needed 5 = .ok (.iconst (-1), 1) := by decide +kernel
theorem dX6_needed_6 : decode cX6_needed 6 = .ok (.istore_n 1, 1) := by decide +kernel
theorem dX6_needed_7 : decode cX6_needed 7 = .ok (.iconst 0, 1) := by decide +kernel
theorem dX6_needed_8 : decode cX6_needed 8 = .ok (.istore_n 2, 1) := by decide +kernel
theorem dX6_needed_9 : decode cX6_needed 9 = .ok (.iconst 0, 1) := by decide +kernel
theorem dX6_needed_10 : decode cX6_needed 10 = .ok (.istore_n 3, 1) := by decide +kernel
theorem dX6_needed_11 : decode cX6_needed 11 = .ok (.iload_n 3, 1) := by decide +kernel
theorem dX6_needed_12 : decode cX6_needed 12 = .ok (.aload_n 0, 1) := by decide +kernel
theorem dX6_needed_13 : decode cX6_needed 13 = .ok (.getfield 13, 3) := by decide +kernel
theorem dX6_needed_16 : decode cX6_needed 16 = .ok (.iconst 1, 1) := by decide +kernel
theorem dX6_needed_17 : decode cX6_needed 17 = .ok (.iaload, 1) := by decide +kernel
theorem dX6_needed_18 : decode cX6_needed 18 = .ok (.if_icmp .ge 84, 3) := by decide +kernel
theorem dX6_needed_21 : decode cX6_needed 21 = .ok (.aload_n 0, 1) := by decide +kernel
theorem dX6_needed_22 : decode cX6_needed 22 = .ok (.getfield 13, 3) := by decide +kernel
theorem dX6_needed_25 : decode cX6_needed 25 = .ok (.iconst 0, 1) := by decide +kernel
theorem dX6_needed_26 : decode cX6_needed 26 = .ok (.aload_n 0, 1) := by decide +kernel
theorem dX6_needed_27 : decode cX6_needed 27 = .ok (.getfield 16, 3) := by decide +kernel
theorem dX6_needed_30 : decode cX6_needed 30 = .ok (.iconst 0, 1) := by decide +kernel
theorem dX6_needed_31 : decode cX6_needed 31 = .ok (.invokestatic 173, 3) := by decide +kernel
theorem dX6_needed_34 : decode cX6_needed 34 = .ok (.aload_n 0, 1) := by decide +kernel
theorem dX6_needed_35 : decode cX6_needed 35 = .ok (.getfield 16, 3) := by decide +kernel
theorem dX6_needed_38 : decode cX6_needed 38 = .ok (.bipush 15, 2) := by decide +kernel
theorem dX6_needed_40 : decode cX6_needed 40 = .ok (.iload_n 3, 1) := by decide +kernel
theorem dX6_needed_41 : decode cX6_needed 41 = .ok (.iadd, 1) := by decide +kernel
theorem dX6_needed_42 : decode cX6_needed 42 = .ok (.ldc 232, 2) := by decide +kernel
theorem dX6_needed_44 : decode cX6_needed 44 = .ok (.iastore, 1) := by decide +kernel
theorem dX6_needed_45 : decode cX6_needed 45 = .ok (.aload_n 0, 1) := by decide +kernel
theorem dX6_needed_46 : decode cX6_needed 46 = .ok (.aload_n 0, 1) := by decide +kernel
theorem dX6_needed_47 : decode cX6_needed 47 = .ok (.getfield 16, 3) := by decide +kernel
theorem dX6_needed_50 : decode cX6_needed 50 = .ok (.invokevirtual 185, 3) := by decide +kernel
theorem dX6_needed_53 : decode cX6_needed 53 = .ok (.istore 4, 2) := by decide +kernel
theorem dX6_needed_55 : decode cX6_needed 55 = .ok (.iload_n 1, 1) := by decide +kernel
theorem dX6_needed_56 : decode cX6_needed 56 = .ok (.iconst (-1), 1) := by decide +kernel
theorem dX6_needed_57 : decode cX6_needed 57 = .ok (.if_icmp .eq 9, 3) := by decide +kernel
theorem dX6_needed_60 : decode cX6_needed 60 = .ok (.iload 4, 2) := by decide +kernel
theorem dX6_needed_62 : decode cX6_needed 62 = .ok (.iload_n 2, 1) := by decide +kernel
theorem dX6_needed_63 : decode cX6_needed 63 = .ok (.if_icmp .le 7, 3) := by decide +kernel
theorem dX6_needed_66 : decode cX6_needed 66 = .ok (.iconst 1, 1) := by decide +kernel
theorem dX6_needed_67 : decode cX6_needed 67 = .ok (.goto 4, 3) := by decide +kernel
theorem dX6_needed_70 : decode cX6_needed 70 = .ok (.iconst 0, 1) := by decide +kernel
theorem dX6_needed_71 : decode cX6_needed 71 = .ok (.istore 5, 2) := by decide +kernel
theorem dX6_needed_73 : decode cX6_needed 73 = .ok (.iload 5, 2) := by decide +kernel
theorem dX6_needed_75 : decode cX6_needed 75 = .ok (.ifCond .eq 7, 3) := by decide +kernel
theorem dX6_needed_78 : decode cX6_needed 78 = .ok (.iload_n 3, 1) := by decide +kernel
theorem dX6_needed_79 : decode cX6_needed 79 = .ok (.goto 4, 3) := by decide +kernel
theorem dX6_needed_82 : decode cX6_needed 82 = .ok (.iload_n 1, 1) := by decide +kernel
theorem dX6_needed_83 : decode cX6_needed 83 = .ok (.istore_n 1, 1) := by decide +kernel
theorem dX6_needed_84 : decode cX6_needed 84 = .ok (.iload 5, 2) := by decide +kernel
theorem dX6_needed_86 : decode cX6_needed 86 = .ok (.ifCond .eq 8, 3) := by decide +kernel
theorem dX6_needed_89 : decode cX6_needed 89 = .ok (.iload 4, 2) := by decide +kernel
theorem dX6_needed_91 : decode cX6_needed 91 = .ok (.goto 4, 3) := by decide +kernel
theorem dX6_needed_94 : decode cX6_needed 94 = .ok (.iload_n 2, 1) := by decide +kernel
theorem dX6_needed_95 : decode cX6_needed 95 = .ok (.istore_n 2, 1) := by decide +kernel
theorem dX6_needed_96 : decode cX6_needed 96 = .ok (.iinc 3 1, 3) := by decide +kernel
theorem dX6_needed_99 : decode cX6_needed 99 = .ok (.goto (-88), 3) := by decide +kernel
theorem dX6_needed_102 : decode cX6_needed 102 = .ok (.iload_n 1, 1) := by decide +kernel
theorem dX6_needed_103 : decode cX6_needed 103 = .ok (.ireturn, 1) := by decide +kernel
theorem dX6_command_0 : decode cX6_command 0 = .ok (.iload_n 2, 1) := by decide +kernel
theorem dX6_command_1 : decode cX6_command 1 = .ok (.sipush 1000, 3) := by decide +kernel
theorem dX6_command_4 : decode cX6_command 4 = .ok (.idiv, 1) := by decide +kernel
theorem dX6_command_5 : decode cX6_command 5 = .ok (.istore_n 3, 1) := by decide +kernel
theorem dX6_command_6 : decode cX6_command 6 = .ok (.iload_n 2, 1) := by decide +kernel
theorem dX6_command_7 : decode cX6_command 7 = .ok (.bipush 100, 2) := by decide +kernel
theorem dX6_command_9 : decode cX6_command 9 = .ok (.idiv, 1) := by decide +kernel
theorem dX6_command_10 : decode cX6_command 10 = .ok (.istore 4, 2) := by decide +kernel
theorem dX6_command_12 : decode cX6_command 12 = .ok (.iload 4, 2) := by decide +kernel
theorem dX6_command_14 : decode cX6_command 14 = .ok (.bipush 10, 2) := by decide +kernel
theorem dX6_command_16 : decode cX6_command 16 = .ok (.irem, 1) := by decide +kernel
theorem dX6_command_17 : decode cX6_command 17 = .ok (.istore 5, 2) := by decide +kernel
theorem dX6_command_19 : decode cX6_command 19 = .ok (.iload_n 2, 1) := by decide +kernel
theorem dX6_command_20 : decode cX6_command 20 = .ok (.bipush 100, 2) := by decide +kernel
theorem dX6_command_22 : decode cX6_command 22 = .ok (.irem, 1) := by decide +kernel
theorem dX6_command_23 : decode cX6_command 23 = .ok (.istore 6, 2) := by decide +kernel
theorem dX6_command_25 : decode cX6_command 25 = .ok (.iload_n 2, 1) := by decide +kernel
theorem dX6_command_26 : decode cX6_command 26 = .ok (.bipush 10, 2) := by decide +kernel
theorem dX6_command_28 : decode cX6_command 28 = .ok (.idiv, 1) := by decide +kernel
theorem dX6_command_29 : decode cX6_command 29 = .ok (.bipush 10, 2) := by decide +kernel
theorem dX6_command_31 : decode cX6_command 31 = .ok (.irem, 1) := by decide +kernel
theorem dX6_command_32 : decode cX6_command 32 = .ok (.istore 7, 2) := by decide +kernel
theorem dX6_command_34 : decode cX6_command 34 = .ok (.iload_n 2, 1) := by decide +kernel
theorem dX6_command_35 : decode cX6_command 35 = .ok (.bipush 10, 2) := by decide +kernel
theorem dX6_command_37 : decode cX6_command 37 = .ok (.irem, 1) := by decide +kernel
theorem dX6_command_38 : decode cX6_command 38 = .ok (.istore 8, 2) := by decide +kernel
theorem dX6_command_40 : decode cX6_command 40 = .ok (.iload_n 1, 1) := by decide +kernel
theorem dX6_command_41 : decode cX6_command 41 = .ok (.tableswitch 465 1 9 #[51, 104, 141, 202, 267, 307, 342, 397, 441], 51) := by decide +kernel
theorem dX6_command_92 : decode cX6_command 92 = .ok (.aload_n 0, 1) := by decide +kernel
theorem dX6_command_93 : decode cX6_command 93 = .ok (.getfield 16, 3) := by decide +kernel
theorem dX6_command_96 : decode cX6_command 96 = .ok (.iload_n 3, 1) := by decide +kernel
theorem dX6_command_97 : decode cX6_command 97 = .ok (.invokestatic 93, 3) := by decide +kernel
theorem dX6_command_100 : decode cX6_command 100 = .ok (.ifCond .eq 43, 3) := by decide +kernel
theorem dX6_command_103 : decode cX6_command 103 = .ok (.aload_n 0, 1) := by decide +kernel
theorem dX6_command_104 : decode cX6_command 104 = .ok (.getfield 16, 3) := by decide +kernel
theorem dX6_command_107 : decode cX6_command 107 = .ok (.iload 5, 2) := by decide +kernel
theorem dX6_command_109 : decode cX6_command 109 = .ok (.invokestatic 96, 3) := by decide +kernel
theorem dX6_command_112 : decode cX6_command 112 = .ok (.ifCond .eq 31, 3) := by decide +kernel
theorem dX6_command_115 : decode cX6_command 115 = .ok (.iload 6, 2) := by decide +kernel
theorem dX6_command_117 : decode cX6_command 117 = .ok (.invokestatic 106, 3) := by decide +kernel
theorem dX6_command_120 : decode cX6_command 120 = .ok (.ifCond .eq 23, 3) := by decide +kernel
theorem dX6_command_123 : decode cX6_command 123 = .ok (.aload_n 0, 1) := by decide +kernel
theorem dX6_command_124 : decode cX6_command 124 = .ok (.getfield 16, 3) := by decide +kernel
theorem dX6_command_127 : decode cX6_command 127 = .ok (.iload_n 3, 1) := by decide +kernel
theorem dX6_command_128 : decode cX6_command 128 = .ok (.iload 5, 2) := by decide +kernel
theorem dX6_command_130 : decode cX6_command 130 = .ok (.iload 6, 2) := by decide +kernel
theorem dX6_command_132 : decode cX6_command 132 = .ok (.invokestatic 150, 3) := by decide +kernel
theorem dX6_command_135 : decode cX6_command 135 = .ok (.iconst (-1), 1) := by decide +kernel
theorem dX6_command_136 : decode cX6_command 136 = .ok (.if_icmp .lt 7, 3) := by decide +kernel
theorem dX6_command_139 : decode cX6_command 139 = .ok (.iconst 1, 1) := by decide +kernel
theorem dX6_command_140 : decode cX6_command 140 = .ok (.goto 4, 3) := by decide +kernel
theorem dX6_command_143 : decode cX6_command 143 = .ok (.iconst 0, 1) := by decide +kernel
theorem dX6_command_144 : decode cX6_command 144 = .ok (.ireturn, 1) := by decide +kernel
theorem dX6_command_145 : decode cX6_command 145 = .ok (.iload 6, 2) := by decide +kernel
theorem dX6_command_147 : decode cX6_command 147 = .ok (.ifCond .ne 33, 3) := by decide +kernel
theorem dX6_command_150 : decode cX6_command 150 = .ok (.aload_n 0, 1) := by decide +kernel
theorem dX6_command_151 : decode cX6_command 151 = .ok (.getfield 16, 3) := by decide +kernel
theorem dX6_command_154 : decode cX6_command 154 = .ok (.iload_n 3, 1) := by decide +kernel
theorem dX6_command_155 : decode cX6_command 155 = .ok (.iload 5, 2) := by decide +kernel
theorem dX6_command_157 : decode cX6_command 157 = .ok (.invokestatic 153, 3) := by decide +kernel
theorem dX6_command_160 : decode cX6_command 160 = .ok (.ifCond .eq 20, 3) := by decide +kernel
theorem dX6_command_163 : decode cX6_command 163 = .ok (.aload_n 0, 1) := by decide +kernel
theorem dX6_command_164 : decode cX6_command 164 = .ok (.getfield 16, 3) := by decide +kernel
theorem dX6_command_167 : decode cX6_command 167 = .ok (.iload_n 3, 1) := by decide +kernel
theorem dX6_command_168 : decode cX6_command 168 = .ok (.iload 5, 2) := by decide +kernel
theorem dX6_command_170 : decode cX6_command 170 = .ok (.invokestatic 156, 3) := by decide +kernel
theorem dX6_command_173 : decode cX6_command 173 = .ok (.ifCond .le 7, 3) := by decide +kernel
theorem dX6_command_176 : decode cX6_command 176 = .ok (.iconst 1, 1) := by decide +kernel
theorem dX6_command_177 : decode cX6_command 177 = .ok (.goto 4, 3) := by decide +kernel
theorem dX6_command_180 : decode cX6_command 180 = .ok (.iconst 0, 1) := by decide +kernel
theorem dX6_command_181 : decode cX6_command 181 = .ok (.ireturn, 1) := by decide +kernel
theorem dX6_command_182 : decode cX6_command 182 = .ok (.iload 6, 2) := by decide +kernel
theorem dX6_command_184 : decode cX6_command 184 = .ok (.ifCond .ne 57, 3) := by decide +kernel
theorem dX6_command_187 : decode cX6_command 187 = .ok (.aload_n 0, 1) := by decide +kernel
theorem dX6_command_188 : decode cX6_command 188 = .ok (.getfield 16, 3) := by decide +kernel
theorem dX6_command_191 : decode cX6_command 191 = .ok (.iload_n 3, 1) := by decide +kernel
theorem dX6_command_192 : decode cX6_command 192 = .ok (.invokestatic 93, 3) := by decide +kernel
theorem dX6_command_195 : decode cX6_command 195 = .ok (.ifCond .eq 46, 3) := by decide +kernel
theorem dX6_command_198 : decode cX6_command 198 = .ok (.aload_n 0, 1) := by decide +kernel
theorem dX6_command_199 : decode cX6_command 199 = .ok (.getfield 16, 3) := by decide +kernel
theorem dX6_command_202 : decode cX6_command 202 = .ok (.iload 5, 2) := by decide +kernel
theorem dX6_command_204 : decode cX6_command 204 = .ok (.invokestatic 96, 3) := by decide +kernel
theorem dX6_command_207 : decode cX6_command 207 = .ok (.ifCond .eq 34, 3) := by decide +kernel
theorem dX6_command_210 : decode cX6_command 210 = .ok (.aload_n 0, 1) := by decide +kernel
theorem dX6_command_211 : decode cX6_command 211 = .ok (.getfield 16, 3) := by decide +kernel
theorem dX6_command_214 : decode cX6_command 214 = .ok (.iload_n 3, 1) := by decide +kernel
theorem dX6_command_215 : decode cX6_command 215 = .ok (.iload 5, 2) := by decide +kernel
theorem dX6_command_217 : decode cX6_command 217 = .ok (.invokestatic 99, 3) := by decide +kernel
theorem dX6_command_220 : decode cX6_command 220 = .ok (.iconst (-1), 1) := by decide +kernel
theorem dX6_command_221 : decode cX6_command 221 = .ok (.if_icmp .eq 20, 3) := by decide +kernel
theorem dX6_command_224 : decode cX6_command 224 = .ok (.aload_n 0, 1) := by decide +kernel
theorem dX6_command_225 : decode cX6_command 225 = .ok (.getfield 16, 3) := by decide +kernel
theorem dX6_command_228 : decode cX6_command 228 = .ok (.iload_n 3, 1) := by decide +kernel
theorem dX6_command_229 : decode cX6_command 229 = .ok (.iload 5, 2) := by decide +kernel
theorem dX6_command_231 : decode cX6_command 231 = .ok (.invokestatic 210, 3) := by decide +kernel
theorem dX6_command_234 : decode cX6_command 234 = .ok (.ifCond .lt 7, 3) := by decide +kernel
theorem dX6_command_237 : decode cX6_command 237 = .ok (.iconst 1, 1) := by decide +kernel
theorem dX6_command_238 : decode cX6_command 238 = .ok (.goto 4, 3) := by decide +kernel
theorem dX6_command_241 : decode cX6_command 241 = .ok (.iconst 0, 1) := by decide +kernel
theorem dX6_command_242 : decode cX6_command 242 = .ok (.ireturn, 1) := by decide +kernel
theorem dX6_command_243 : decode cX6_command 243 = .ok (.iload 8, 2) := by decide +kernel
theorem dX6_command_245 : decode cX6_command 245 = .ok (.iconst 2, 1) := by decide +kernel
theorem dX6_command_246 : decode cX6_command 246 = .ok (.if_icmp .ge 60, 3) := by decide +kernel
theorem dX6_command_249 : decode cX6_command 249 = .ok (.aload_n 0, 1) := by decide +kernel
theorem dX6_command_250 : decode cX6_command 250 = .ok (.getfield 16, 3) := by decide +kernel
theorem dX6_command_253 : decode cX6_command 253 = .ok (.iload_n 3, 1) := by decide +kernel
theorem dX6_command_254 : decode cX6_command 254 = .ok (.invokestatic 96, 3) := by decide +kernel
theorem dX6_command_257 : decode cX6_command 257 = .ok (.ifCond .eq 49, 3) := by decide +kernel
theorem dX6_command_260 : decode cX6_command 260 = .ok (.iload_n 2, 1) := by decide +kernel
theorem dX6_command_261 : decode cX6_command 261 = .ok (.bipush 10, 2) := by decide +kernel
theorem dX6_command_263 : decode cX6_command 263 = .ok (.idiv, 1) := by decide +kernel
theorem dX6_command_264 : decode cX6_command 264 = .ok (.bipush 100, 2) := by decide +kernel
theorem dX6_command_266 : decode cX6_command 266 = .ok (.irem, 1) := by decide +kernel
theorem dX6_command_267 : decode cX6_command 267 = .ok (.invokestatic 106, 3) := by decide +kernel
theorem dX6_command_270 : decode cX6_command 270 = .ok (.ifCond .eq 36, 3) := by decide +kernel
theorem dX6_command_273 : decode cX6_command 273 = .ok (.aload_n 0, 1) := by decide +kernel
theorem dX6_command_274 : decode cX6_command 274 = .ok (.getfield 16, 3) := by decide +kernel
theorem dX6_command_277 : decode cX6_command 277 = .ok (.iload_n 3, 1) := by decide +kernel
theorem dX6_command_278 : decode cX6_command 278 = .ok (.iload_n 2, 1) := by decide +kernel
theorem dX6_command_279 : decode cX6_command 279 = .ok (.bipush 10, 2) := by decide +kernel
theorem dX6_command_281 : decode cX6_command 281 = .ok (.idiv, 1) := by decide +kernel
theorem dX6_command_282 : decode cX6_command 282 = .ok (.bipush 100, 2) := by decide +kernel
theorem dX6_command_284 : decode cX6_command 284 = .ok (.irem, 1) := by decide +kernel
theorem dX6_command_285 : decode cX6_command 285 = .ok (.iload 8, 2) := by decide +kernel
theorem dX6_command_287 : decode cX6_command 287 = .ok (.iconst 1, 1) := by decide +kernel
theorem dX6_command_288 : decode cX6_command 288 = .ok (.if_icmp .ne 7, 3) := by decide +kernel
theorem dX6_command_291 : decode cX6_command 291 = .ok (.iconst 1, 1) := by decide +kernel
theorem dX6_command_292 : decode cX6_command 292 = .ok (.goto 4, 3) := by decide +kernel
theorem dX6_command_295 : decode cX6_command 295 = .ok (.iconst 0, 1) := by decide +kernel
theorem dX6_command_296 : decode cX6_command 296 = .ok (.invokestatic 159, 3) := by decide +kernel
theorem dX6_command_299 : decode cX6_command 299 = .ok (.ifCond .lt 7, 3) := by decide +kernel
theorem dX6_command_302 : decode cX6_command 302 = .ok (.iconst 1, 1) := by decide +kernel
theorem dX6_command_303 : decode cX6_command 303 = .ok (.goto 4, 3) := by decide +kernel
theorem dX6_command_306 : decode cX6_command 306 = .ok (.iconst 0, 1) := by decide +kernel
theorem dX6_command_307 : decode cX6_command 307 = .ok (.ireturn, 1) := by decide +kernel
theorem dX6_command_308 : decode cX6_command 308 = .ok (.aload_n 0, 1) := by decide +kernel
theorem dX6_command_309 : decode cX6_command 309 = .ok (.getfield 16, 3) := by decide +kernel
theorem dX6_command_312 : decode cX6_command 312 = .ok (.iload 4, 2) := by decide +kernel
theorem dX6_command_314 : decode cX6_command 314 = .ok (.iload 7, 2) := by decide +kernel
theorem dX6_command_316 : decode cX6_command 316 = .ok (.iload 8, 2) := by decide +kernel
theorem dX6_command_318 : decode cX6_command 318 = .ok (.invokestatic 132, 3) := by decide +kernel
theorem dX6_command_321 : decode cX6_command 321 = .ok (.ifCond .eq 25, 3) := by decide +kernel
theorem dX6_command_324 : decode cX6_command 324 = .ok (.aload_n 0, 1) := by decide +kernel
theorem dX6_command_325 : decode cX6_command 325 = .ok (.getfield 16, 3) := by decide +kernel
theorem dX6_command_328 : decode cX6_command 328 = .ok (.iload 4, 2) := by decide +kernel
theorem dX6_command_330 : decode cX6_command 330 = .ok (.iload 7, 2) := by decide +kernel
theorem dX6_command_332 : decode cX6_command 332 = .ok (.iload 8, 2) := by decide +kernel
theorem dX6_command_334 : decode cX6_command 334 = .ok (.bipush 12, 2) := by decide +kernel
theorem dX6_command_336 : decode cX6_command 336 = .ok (.invokestatic 135, 3) := by decide +kernel
theorem dX6_command_339 : decode cX6_command 339 = .ok (.ifCond .lt 7, 3) := by decide +kernel
theorem dX6_command_342 : decode cX6_command 342 = .ok (.iconst 1, 1) := by decide +kernel
theorem dX6_command_343 : decode cX6_command 343 = .ok (.goto 4, 3) := by decide +kernel
theorem dX6_command_346 : decode cX6_command 346 = .ok (.iconst 0, 1) := by decide +kernel
theorem dX6_command_347 : decode cX6_command 347 = .ok (.ireturn, 1) := by decide +kernel
theorem dX6_command_348 : decode cX6_command 348 = .ok (.iload 6, 2) := by decide +kernel
theorem dX6_command_350 : decode cX6_command 350 = .ok (.ifCond .ne 31, 3) := by decide +kernel
theorem dX6_command_353 : decode cX6_command 353 = .ok (.aload_n 0, 1) := by decide +kernel
theorem dX6_command_354 : decode cX6_command 354 = .ok (.getfield 16, 3) := by decide +kernel
theorem dX6_command_357 : decode cX6_command 357 = .ok (.iload 4, 2) := by decide +kernel
theorem dX6_command_359 : decode cX6_command 359 = .ok (.invokestatic 204, 3) := by decide +kernel
theorem dX6_command_362 : decode cX6_command 362 = .ok (.ifCond .eq 19, 3) := by decide +kernel
theorem dX6_command_365 : decode cX6_command 365 = .ok (.aload_n 0, 1) := by decide +kernel
theorem dX6_command_366 : decode cX6_command 366 = .ok (.getfield 16, 3) := by decide +kernel
theorem dX6_command_369 : decode cX6_command 369 = .ok (.iload 4, 2) := by decide +kernel
theorem dX6_command_371 : decode cX6_command 371 = .ok (.invokestatic 215, 3) := by decide +kernel
theorem dX6_command_374 : decode cX6_command 374 = .ok (.ifCond .lt 7, 3) := by decide +kernel
theorem dX6_command_377 : decode cX6_command 377 = .ok (.iconst 1, 1) := by decide +kernel
theorem dX6_command_378 : decode cX6_command 378 = .ok (.goto 4, 3) := by decide +kernel
theorem dX6_command_381 : decode cX6_command 381 = .ok (.iconst 0, 1) := by decide +kernel
theorem dX6_command_382 : decode cX6_command 382 = .ok (.ireturn, 1) := by decide +kernel
theorem dX6_command_383 : decode cX6_command 383 = .ok (.iload 4, 2) := by decide +kernel
theorem dX6_command_385 : decode cX6_command 385 = .ok (.invokestatic 106, 3) := by decide +kernel
theorem dX6_command_388 : decode cX6_command 388 = .ok (.ifCond .eq 48, 3) := by decide +kernel
theorem dX6_command_391 : decode cX6_command 391 = .ok (.aload_n 0, 1) := by decide +kernel
