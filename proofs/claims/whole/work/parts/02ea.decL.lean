theorem dL_append_0 : decode cL_append 0 = .ok (.aload_n 2, 1) := by decide +kernel
theorem dL_append_1 : decode cL_append 1 = .ok (.iconst 0, 1) := by decide +kernel
theorem dL_append_2 : decode cL_append 2 = .ok (.aload_n 0, 1) := by decide +kernel
theorem dL_append_3 : decode cL_append 3 = .ok (.iload_n 1, 1) := by decide +kernel
theorem dL_append_4 : decode cL_append 4 = .ok (.invokevirtual 7, 3) := by decide +kernel
theorem dL_append_7 : decode cL_append 7 = .ok (.i2l, 1) := by decide +kernel
theorem dL_append_8 : decode cL_append 8 = .ok (.lastore, 1) := by decide +kernel
theorem dL_append_9 : decode cL_append 9 = .ok (.goto 9, 3) := by decide +kernel
theorem dL_append_12 : decode cL_append 12 = .ok (.astore_n 3, 1) := by decide +kernel
theorem dL_append_13 : decode cL_append 13 = .ok (.iconst 1, 1) := by decide +kernel
theorem dL_append_14 : decode cL_append 14 = .ok (.ireturn, 1) := by decide +kernel
theorem dL_append_15 : decode cL_append 15 = .ok (.astore_n 3, 1) := by decide +kernel
theorem dL_append_16 : decode cL_append 16 = .ok (.iconst 2, 1) := by decide +kernel
theorem dL_append_17 : decode cL_append 17 = .ok (.ireturn, 1) := by decide +kernel
theorem dL_append_18 : decode cL_append 18 = .ok (.iconst 0, 1) := by decide +kernel
theorem dL_append_19 : decode cL_append 19 = .ok (.ireturn, 1) := by decide +kernel
theorem dL_load_0 : decode cL_load 0 = .ok (.aload_n 1, 1) := by decide +kernel
theorem dL_load_1 : decode cL_load 1 = .ok (.iconst 0, 1) := by decide +kernel
theorem dL_load_2 : decode cL_load 2 = .ok (.aload_n 0, 1) := by decide +kernel
theorem dL_load_3 : decode cL_load 3 = .ok (.invokevirtual 17, 3) := by decide +kernel
theorem dL_load_6 : decode cL_load 6 = .ok (.i2l, 1) := by decide +kernel
theorem dL_load_7 : decode cL_load 7 = .ok (.lastore, 1) := by decide +kernel
theorem dL_load_8 : decode cL_load 8 = .ok (.goto 6, 3) := by decide +kernel
theorem dL_load_11 : decode cL_load 11 = .ok (.astore_n 2, 1) := by decide +kernel
theorem dL_load_12 : decode cL_load 12 = .ok (.iconst 1, 1) := by decide +kernel
theorem dL_load_13 : decode cL_load 13 = .ok (.ireturn, 1) := by decide +kernel
theorem dL_load_14 : decode cL_load 14 = .ok (.iconst 0, 1) := by decide +kernel
theorem dL_load_15 : decode cL_load 15 = .ok (.ireturn, 1) := by decide +kernel
theorem dL_about_0 : decode cL_about 0 = .ok (.aload_n 2, 1) := by decide +kernel
theorem dL_about_1 : decode cL_about 1 = .ok (.iconst 0, 1) := by decide +kernel
theorem dL_about_2 : decode cL_about 2 = .ok (.aload_n 0, 1) := by decide +kernel
theorem dL_about_3 : decode cL_about 3 = .ok (.iload_n 1, 1) := by decide +kernel
theorem dL_about_4 : decode cL_about 4 = .ok (.invokevirtual 21, 3) := by decide +kernel
theorem dL_about_7 : decode cL_about 7 = .ok (.i2l, 1) := by decide +kernel
theorem dL_about_8 : decode cL_about 8 = .ok (.lastore, 1) := by decide +kernel
theorem dL_about_9 : decode cL_about 9 = .ok (.goto 6, 3) := by decide +kernel
theorem dL_about_12 : decode cL_about 12 = .ok (.astore_n 3, 1) := by decide +kernel
theorem dL_about_13 : decode cL_about 13 = .ok (.iconst 1, 1) := by decide +kernel
theorem dL_about_14 : decode cL_about 14 = .ok (.ireturn, 1) := by decide +kernel
theorem dL_about_15 : decode cL_about 15 = .ok (.iconst 0, 1) := by decide +kernel
theorem dL_about_16 : decode cL_about 16 = .ok (.ireturn, 1) := by decide +kernel
theorem dL_played_0 : decode cL_played 0 = .ok (.aload_n 3, 1) := by decide +kernel
theorem dL_played_1 : decode cL_played 1 = .ok (.iconst 0, 1) := by decide +kernel
theorem dL_played_2 : decode cL_played 2 = .ok (.aload_n 0, 1) := by decide +kernel
theorem dL_played_3 : decode cL_played 3 = .ok (.iload_n 1, 1) := by decide +kernel
theorem dL_played_4 : decode cL_played 4 = .ok (.iload_n 2, 1) := by decide +kernel
theorem dL_played_5 : decode cL_played 5 = .ok (.invokevirtual 24, 3) := by decide +kernel
theorem dL_played_8 : decode cL_played 8 = .ok (.i2l, 1) := by decide +kernel
theorem dL_played_9 : decode cL_played 9 = .ok (.lastore, 1) := by decide +kernel
theorem dL_played_10 : decode cL_played 10 = .ok (.goto 7, 3) := by decide +kernel
theorem dL_played_13 : decode cL_played 13 = .ok (.astore 4, 2) := by decide +kernel
theorem dL_played_15 : decode cL_played 15 = .ok (.iconst 1, 1) := by decide +kernel
theorem dL_played_16 : decode cL_played 16 = .ok (.ireturn, 1) := by decide +kernel
theorem dL_played_17 : decode cL_played 17 = .ok (.iconst 0, 1) := by decide +kernel
theorem dL_played_18 : decode cL_played 18 = .ok (.ireturn, 1) := by decide +kernel
theorem dL_bill_0 : decode cL_bill 0 = .ok (.aload 4, 2) := by decide +kernel
theorem dL_bill_2 : decode cL_bill 2 = .ok (.iconst 0, 1) := by decide +kernel
theorem dL_bill_3 : decode cL_bill 3 = .ok (.aload_n 0, 1) := by decide +kernel
theorem dL_bill_4 : decode cL_bill 4 = .ok (.iload_n 1, 1) := by decide +kernel
theorem dL_bill_5 : decode cL_bill 5 = .ok (.iload_n 2, 1) := by decide +kernel
theorem dL_bill_6 : decode cL_bill 6 = .ok (.iload_n 3, 1) := by decide +kernel
theorem dL_bill_7 : decode cL_bill 7 = .ok (.invokevirtual 30, 3) := by decide +kernel
theorem dL_bill_10 : decode cL_bill 10 = .ok (.i2l, 1) := by decide +kernel
theorem dL_bill_11 : decode cL_bill 11 = .ok (.lastore, 1) := by decide +kernel
theorem dL_bill_12 : decode cL_bill 12 = .ok (.goto 11, 3) := by decide +kernel
theorem dL_bill_15 : decode cL_bill 15 = .ok (.astore 5, 2) := by decide +kernel
theorem dL_bill_17 : decode cL_bill 17 = .ok (.iconst 1, 1) := by decide +kernel
theorem dL_bill_18 : decode cL_bill 18 = .ok (.ireturn, 1) := by decide +kernel
theorem dL_bill_19 : decode cL_bill 19 = .ok (.astore 5, 2) := by decide +kernel
theorem dL_bill_21 : decode cL_bill 21 = .ok (.iconst 2, 1) := by decide +kernel
theorem dL_bill_22 : decode cL_bill 22 = .ok (.ireturn, 1) := by decide +kernel
theorem dL_bill_23 : decode cL_bill 23 = .ok (.iconst 0, 1) := by decide +kernel
theorem dL_bill_24 : decode cL_bill 24 = .ok (.ireturn, 1) := by decide +kernel
theorem dL_night_0 : decode cL_night 0 = .ok (.aload_n 3, 1) := by decide +kernel
theorem dL_night_1 : decode cL_night 1 = .ok (.iconst 0, 1) := by decide +kernel
theorem dL_night_2 : decode cL_night 2 = .ok (.aload_n 0, 1) := by decide +kernel
theorem dL_night_3 : decode cL_night 3 = .ok (.iload_n 1, 1) := by decide +kernel
theorem dL_night_4 : decode cL_night 4 = .ok (.iload_n 2, 1) := by decide +kernel
theorem dL_night_5 : decode cL_night 5 = .ok (.invokevirtual 34, 3) := by decide +kernel
theorem dL_night_8 : decode cL_night 8 = .ok (.i2l, 1) := by decide +kernel
theorem dL_night_9 : decode cL_night 9 = .ok (.lastore, 1) := by decide +kernel
theorem dL_night_10 : decode cL_night 10 = .ok (.goto 11, 3) := by decide +kernel
theorem dL_night_13 : decode cL_night 13 = .ok (.astore 4, 2) := by decide +kernel
theorem dL_night_15 : decode cL_night 15 = .ok (.iconst 1, 1) := by decide +kernel
theorem dL_night_16 : decode cL_night 16 = .ok (.ireturn, 1) := by decide +kernel
theorem dL_night_17 : decode cL_night 17 = .ok (.astore 4, 2) := by decide +kernel
theorem dL_night_19 : decode cL_night 19 = .ok (.iconst 2, 1) := by decide +kernel
theorem dL_night_20 : decode cL_night 20 = .ok (.ireturn, 1) := by decide +kernel
theorem dL_night_21 : decode cL_night 21 = .ok (.iconst 0, 1) := by decide +kernel
theorem dL_night_22 : decode cL_night 22 = .ok (.ireturn, 1) := by decide +kernel
theorem dL_actor_0 : decode cL_actor 0 = .ok (.aload_n 3, 1) := by decide +kernel
theorem dL_actor_1 : decode cL_actor 1 = .ok (.iconst 0, 1) := by decide +kernel
theorem dL_actor_2 : decode cL_actor 2 = .ok (.aload_n 0, 1) := by decide +kernel
theorem dL_actor_3 : decode cL_actor 3 = .ok (.iload_n 1, 1) := by decide +kernel
theorem dL_actor_4 : decode cL_actor 4 = .ok (.iload_n 2, 1) := by decide +kernel
theorem dL_actor_5 : decode cL_actor 5 = .ok (.invokevirtual 37, 3) := by decide +kernel
theorem dL_actor_8 : decode cL_actor 8 = .ok (.i2l, 1) := by decide +kernel
theorem dL_actor_9 : decode cL_actor 9 = .ok (.lastore, 1) := by decide +kernel
theorem dL_actor_10 : decode cL_actor 10 = .ok (.goto 11, 3) := by decide +kernel
theorem dL_actor_13 : decode cL_actor 13 = .ok (.astore 4, 2) := by decide +kernel
theorem dL_actor_15 : decode cL_actor 15 = .ok (.iconst 1, 1) := by decide +kernel
theorem dL_actor_16 : decode cL_actor 16 = .ok (.ireturn, 1) := by decide +kernel
theorem dL_actor_17 : decode cL_actor 17 = .ok (.astore 4, 2) := by decide +kernel
theorem dL_actor_19 : decode cL_actor 19 = .ok (.iconst 2, 1) := by decide +kernel
theorem dL_actor_20 : decode cL_actor 20 = .ok (.ireturn, 1) := by decide +kernel
theorem dL_actor_21 : decode cL_actor 21 = .ok (.iconst 0, 1) := by decide +kernel
theorem dL_actor_22 : decode cL_actor 22 = .ok (.ireturn, 1) := by decide +kernel
theorem dL_ranked_0 : decode cL_ranked 0 = .ok (.aload_n 3, 1) := by decide +kernel
theorem dL_ranked_1 : decode cL_ranked 1 = .ok (.iconst 0, 1) := by decide +kernel
theorem dL_ranked_2 : decode cL_ranked 2 = .ok (.aload_n 0, 1) := by decide +kernel
theorem dL_ranked_3 : decode cL_ranked 3 = .ok (.iload_n 1, 1) := by decide +kernel
theorem dL_ranked_4 : decode cL_ranked 4 = .ok (.iload_n 2, 1) := by decide +kernel
theorem dL_ranked_5 : decode cL_ranked 5 = .ok (.invokevirtual 40, 3) := by decide +kernel
theorem dL_ranked_8 : decode cL_ranked 8 = .ok (.i2l, 1) := by decide +kernel
theorem dL_ranked_9 : decode cL_ranked 9 = .ok (.lastore, 1) := by decide +kernel
theorem dL_ranked_10 : decode cL_ranked 10 = .ok (.goto 11, 3) := by decide +kernel
theorem dL_ranked_13 : decode cL_ranked 13 = .ok (.astore 4, 2) := by decide +kernel
theorem dL_ranked_15 : decode cL_ranked 15 = .ok (.iconst 1, 1) := by decide +kernel
theorem dL_ranked_16 : decode cL_ranked 16 = .ok (.ireturn, 1) := by decide +kernel
theorem dL_ranked_17 : decode cL_ranked 17 = .ok (.astore 4, 2) := by decide +kernel
theorem dL_ranked_19 : decode cL_ranked 19 = .ok (.iconst 2, 1) := by decide +kernel
theorem dL_ranked_20 : decode cL_ranked 20 = .ok (.ireturn, 1) := by decide +kernel
theorem dL_ranked_21 : decode cL_ranked 21 = .ok (.iconst 0, 1) := by decide +kernel
theorem dL_ranked_22 : decode cL_ranked 22 = .ok (.ireturn, 1) := by decide +kernel
theorem dL_found_0 : decode cL_found 0 = .ok (.aload_n 3, 1) := by decide +kernel
theorem dL_found_1 : decode cL_found 1 = .ok (.iconst 0, 1) := by decide +kernel
theorem dL_found_2 : decode cL_found 2 = .ok (.aload_n 0, 1) := by decide +kernel
theorem dL_found_3 : decode cL_found 3 = .ok (.iload_n 1, 1) := by decide +kernel
theorem dL_found_4 : decode cL_found 4 = .ok (.iload_n 2, 1) := by decide +kernel
theorem dL_found_5 : decode cL_found 5 = .ok (.invokevirtual 43, 3) := by decide +kernel
theorem dL_found_8 : decode cL_found 8 = .ok (.i2l, 1) := by decide +kernel
theorem dL_found_9 : decode cL_found 9 = .ok (.lastore, 1) := by decide +kernel
theorem dL_found_10 : decode cL_found 10 = .ok (.goto 11, 3) := by decide +kernel
theorem dL_found_13 : decode cL_found 13 = .ok (.astore 4, 2) := by decide +kernel
theorem dL_found_15 : decode cL_found 15 = .ok (.iconst 1, 1) := by decide +kernel
theorem dL_found_16 : decode cL_found 16 = .ok (.ireturn, 1) := by decide +kernel
theorem dL_found_17 : decode cL_found 17 = .ok (.astore 4, 2) := by decide +kernel
theorem dL_found_19 : decode cL_found 19 = .ok (.iconst 2, 1) := by decide +kernel
theorem dL_found_20 : decode cL_found 20 = .ok (.ireturn, 1) := by decide +kernel
theorem dL_found_21 : decode cL_found 21 = .ok (.iconst 0, 1) := by decide +kernel
theorem dL_found_22 : decode cL_found 22 = .ok (.ireturn, 1) := by decide +kernel
theorem dL_setting_0 : decode cL_setting 0 = .ok (.aload_n 2, 1) := by decide +kernel
theorem dL_setting_1 : decode cL_setting 1 = .ok (.iconst 0, 1) := by decide +kernel
theorem dL_setting_2 : decode cL_setting 2 = .ok (.aload_n 0, 1) := by decide +kernel
theorem dL_setting_3 : decode cL_setting 3 = .ok (.iload_n 1, 1) := by decide +kernel
theorem dL_setting_4 : decode cL_setting 4 = .ok (.invokevirtual 46, 3) := by decide +kernel
theorem dL_setting_7 : decode cL_setting 7 = .ok (.i2l, 1) := by decide +kernel
theorem dL_setting_8 : decode cL_setting 8 = .ok (.lastore, 1) := by decide +kernel
theorem dL_setting_9 : decode cL_setting 9 = .ok (.goto 6, 3) := by decide +kernel
theorem dL_setting_12 : decode cL_setting 12 = .ok (.astore_n 3, 1) := by decide +kernel
theorem dL_setting_13 : decode cL_setting 13 = .ok (.iconst 1, 1) := by decide +kernel
theorem dL_setting_14 : decode cL_setting 14 = .ok (.ireturn, 1) := by decide +kernel
theorem dL_setting_15 : decode cL_setting 15 = .ok (.iconst 0, 1) := by decide +kernel
theorem dL_setting_16 : decode cL_setting 16 = .ok (.ireturn, 1) := by decide +kernel
theorem dL_addActor_0 : decode cL_addActor 0 = .ok (.aload_n 2, 1) := by decide +kernel
theorem dL_addActor_1 : decode cL_addActor 1 = .ok (.iconst 0, 1) := by decide +kernel
theorem dL_addActor_2 : decode cL_addActor 2 = .ok (.aload_n 0, 1) := by decide +kernel
theorem dL_addActor_3 : decode cL_addActor 3 = .ok (.iload_n 1, 1) := by decide +kernel
theorem dL_addActor_4 : decode cL_addActor 4 = .ok (.invokevirtual 49, 3) := by decide +kernel
theorem dL_addActor_7 : decode cL_addActor 7 = .ok (.i2l, 1) := by decide +kernel
theorem dL_addActor_8 : decode cL_addActor 8 = .ok (.lastore, 1) := by decide +kernel
theorem dL_addActor_9 : decode cL_addActor 9 = .ok (.goto 9, 3) := by decide +kernel
theorem dL_addActor_12 : decode cL_addActor 12 = .ok (.astore_n 3, 1) := by decide +kernel
theorem dL_addActor_13 : decode cL_addActor 13 = .ok (.iconst 1, 1) := by decide +kernel
theorem dL_addActor_14 : decode cL_addActor 14 = .ok (.ireturn, 1) := by decide +kernel
theorem dL_addActor_15 : decode cL_addActor 15 = .ok (.astore_n 3, 1) := by decide +kernel
theorem dL_addActor_16 : decode cL_addActor 16 = .ok (.iconst 2, 1) := by decide +kernel
theorem dL_addActor_17 : decode cL_addActor 17 = .ok (.ireturn, 1) := by decide +kernel
theorem dL_addActor_18 : decode cL_addActor 18 = .ok (.iconst 0, 1) := by decide +kernel
theorem dL_addActor_19 : decode cL_addActor 19 = .ok (.ireturn, 1) := by decide +kernel
theorem dL_addPart_0 : decode cL_addPart 0 = .ok (.aload_n 1, 1) := by decide +kernel
theorem dL_addPart_1 : decode cL_addPart 1 = .ok (.iconst 0, 1) := by decide +kernel
theorem dL_addPart_2 : decode cL_addPart 2 = .ok (.aload_n 0, 1) := by decide +kernel
theorem dL_addPart_3 : decode cL_addPart 3 = .ok (.invokevirtual 52, 3) := by decide +kernel
theorem dL_addPart_6 : decode cL_addPart 6 = .ok (.i2l, 1) := by decide +kernel
theorem dL_addPart_7 : decode cL_addPart 7 = .ok (.lastore, 1) := by decide +kernel
theorem dL_addPart_8 : decode cL_addPart 8 = .ok (.goto 6, 3) := by decide +kernel
theorem dL_addPart_11 : decode cL_addPart 11 = .ok (.astore_n 2, 1) := by decide +kernel
theorem dL_addPart_12 : decode cL_addPart 12 = .ok (.iconst 1, 1) := by decide +kernel
theorem dL_addPart_13 : decode cL_addPart 13 = .ok (.ireturn, 1) := by decide +kernel
theorem dL_addPart_14 : decode cL_addPart 14 = .ok (.iconst 0, 1) := by decide +kernel
theorem dL_addPart_15 : decode cL_addPart 15 = .ok (.ireturn, 1) := by decide +kernel
theorem dL_cast_0 : decode cL_cast 0 = .ok (.aload 4, 2) := by decide +kernel
theorem dL_cast_2 : decode cL_cast 2 = .ok (.iconst 0, 1) := by decide +kernel
theorem dL_cast_3 : decode cL_cast 3 = .ok (.aload_n 0, 1) := by decide +kernel
theorem dL_cast_4 : decode cL_cast 4 = .ok (.iload_n 1, 1) := by decide +kernel
theorem dL_cast_5 : decode cL_cast 5 = .ok (.iload_n 2, 1) := by decide +kernel
theorem dL_cast_6 : decode cL_cast 6 = .ok (.iload_n 3, 1) := by decide +kernel
theorem dL_cast_7 : decode cL_cast 7 = .ok (.invokevirtual 55, 3) := by decide +kernel
theorem dL_cast_10 : decode cL_cast 10 = .ok (.i2l, 1) := by decide +kernel
theorem dL_cast_11 : decode cL_cast 11 = .ok (.lastore, 1) := by decide +kernel
theorem dL_cast_12 : decode cL_cast 12 = .ok (.goto 7, 3) := by decide +kernel
theorem dL_cast_15 : decode cL_cast 15 = .ok (.astore 5, 2) := by decide +kernel
theorem dL_cast_17 : decode cL_cast 17 = .ok (.iconst 1, 1) := by decide +kernel
theorem dL_cast_18 : decode cL_cast 18 = .ok (.ireturn, 1) := by decide +kernel
theorem dL_cast_19 : decode cL_cast 19 = .ok (.iconst 0, 1) := by decide +kernel
theorem dL_cast_20 : decode cL_cast 20 = .ok (.ireturn, 1) := by decide +kernel
theorem dL_understudy_0 : decode cL_understudy 0 = .ok (.aload_n 3, 1) := by decide +kernel
theorem dL_understudy_1 : decode cL_understudy 1 = .ok (.iconst 0, 1) := by decide +kernel
theorem dL_understudy_2 : decode cL_understudy 2 = .ok (.aload_n 0, 1) := by decide +kernel
theorem dL_understudy_3 : decode cL_understudy 3 = .ok (.iload_n 1, 1) := by decide +kernel
theorem dL_understudy_4 : decode cL_understudy 4 = .ok (.iload_n 2, 1) := by decide +kernel
theorem dL_understudy_5 : decode cL_understudy 5 = .ok (.invokevirtual 58, 3) := by decide +kernel
theorem dL_understudy_8 : decode cL_understudy 8 = .ok (.i2l, 1) := by decide +kernel
theorem dL_understudy_9 : decode cL_understudy 9 = .ok (.lastore, 1) := by decide +kernel
theorem dL_understudy_10 : decode cL_understudy 10 = .ok (.goto 11, 3) := by decide +kernel
theorem dL_understudy_13 : decode cL_understudy 13 = .ok (.astore 4, 2) := by decide +kernel
theorem dL_understudy_15 : decode cL_understudy 15 = .ok (.iconst 1, 1) := by decide +kernel
theorem dL_understudy_16 : decode cL_understudy 16 = .ok (.ireturn, 1) := by decide +kernel
theorem dL_understudy_17 : decode cL_understudy 17 = .ok (.astore 4, 2) := by decide +kernel
theorem dL_understudy_19 : decode cL_understudy 19 = .ok (.iconst 2, 1) := by decide +kernel
theorem dL_understudy_20 : decode cL_understudy 20 = .ok (.ireturn, 1) := by decide +kernel
theorem dL_understudy_21 : decode cL_understudy 21 = .ok (.iconst 0, 1) := by decide +kernel
theorem dL_understudy_22 : decode cL_understudy 22 = .ok (.ireturn, 1) := by decide +kernel
theorem dL_release_0 : decode cL_release 0 = .ok (.aload_n 3, 1) := by decide +kernel
theorem dL_release_1 : decode cL_release 1 = .ok (.iconst 0, 1) := by decide +kernel
theorem dL_release_2 : decode cL_release 2 = .ok (.aload_n 0, 1) := by decide +kernel
theorem dL_release_3 : decode cL_release 3 = .ok (.iload_n 1, 1) := by decide +kernel
theorem dL_release_4 : decode cL_release 4 = .ok (.iload_n 2, 1) := by decide +kernel
theorem dL_release_5 : decode cL_release 5 = .ok (.invokevirtual 61, 3) := by decide +kernel
theorem dL_release_8 : decode cL_release 8 = .ok (.i2l, 1) := by decide +kernel
theorem dL_release_9 : decode cL_release 9 = .ok (.lastore, 1) := by decide +kernel
theorem dL_release_10 : decode cL_release 10 = .ok (.goto 11, 3) := by decide +kernel
theorem dL_release_13 : decode cL_release 13 = .ok (.astore 4, 2) := by decide +kernel
theorem dL_release_15 : decode cL_release 15 = .ok (.iconst 1, 1) := by decide +kernel
theorem dL_release_16 : decode cL_release 16 = .ok (.ireturn, 1) := by decide +kernel
theorem dL_release_17 : decode cL_release 17 = .ok (.astore 4, 2) := by decide +kernel
theorem dL_release_19 : decode cL_release 19 = .ok (.iconst 2, 1) := by decide +kernel
theorem dL_release_20 : decode cL_release 20 = .ok (.ireturn, 1) := by decide +kernel
theorem dL_release_21 : decode cL_release 21 = .ok (.iconst 0, 1) := by decide +kernel
theorem dL_release_22 : decode cL_release 22 = .ok (.ireturn, 1) := by decide +kernel
theorem dL_ill_0 : decode cL_ill 0 = .ok (.aload 4, 2) := by decide +kernel
theorem dL_ill_2 : decode cL_ill 2 = .ok (.iconst 0, 1) := by decide +kernel
theorem dL_ill_3 : decode cL_ill 3 = .ok (.aload_n 0, 1) := by decide +kernel
theorem dL_ill_4 : decode cL_ill 4 = .ok (.iload_n 1, 1) := by decide +kernel
theorem dL_ill_5 : decode cL_ill 5 = .ok (.iload_n 2, 1) := by decide +kernel
theorem dL_ill_6 : decode cL_ill 6 = .ok (.iload_n 3, 1) := by decide +kernel
theorem dL_ill_7 : decode cL_ill 7 = .ok (.invokevirtual 64, 3) := by decide +kernel
theorem dL_ill_10 : decode cL_ill 10 = .ok (.i2l, 1) := by decide +kernel
theorem dL_ill_11 : decode cL_ill 11 = .ok (.lastore, 1) := by decide +kernel
theorem dL_ill_12 : decode cL_ill 12 = .ok (.goto 7, 3) := by decide +kernel
theorem dL_ill_15 : decode cL_ill 15 = .ok (.astore 5, 2) := by decide +kernel
theorem dL_ill_17 : decode cL_ill 17 = .ok (.iconst 1, 1) := by decide +kernel
theorem dL_ill_18 : decode cL_ill 18 = .ok (.ireturn, 1) := by decide +kernel
theorem dL_ill_19 : decode cL_ill 19 = .ok (.iconst 0, 1) := by decide +kernel
theorem dL_ill_20 : decode cL_ill 20 = .ok (.ireturn, 1) := by decide +kernel
theorem dL_slip_0 : decode cL_slip 0 = .ok (.aload 5, 2) := by decide +kernel
theorem dL_slip_2 : decode cL_slip 2 = .ok (.iconst 0, 1) := by decide +kernel
theorem dL_slip_3 : decode cL_slip 3 = .ok (.aload_n 0, 1) := by decide +kernel
theorem dL_slip_4 : decode cL_slip 4 = .ok (.iload_n 1, 1) := by decide +kernel
theorem dL_slip_5 : decode cL_slip 5 = .ok (.iload_n 2, 1) := by decide +kernel
theorem dL_slip_6 : decode cL_slip 6 = .ok (.iload_n 3, 1) := by decide +kernel
theorem dL_slip_7 : decode cL_slip 7 = .ok (.iload 4, 2) := by decide +kernel
theorem dL_slip_9 : decode cL_slip 9 = .ok (.invokevirtual 68, 3) := by decide +kernel
theorem dL_slip_12 : decode cL_slip 12 = .ok (.i2l, 1) := by decide +kernel
theorem dL_slip_13 : decode cL_slip 13 = .ok (.lastore, 1) := by decide +kernel
theorem dL_slip_14 : decode cL_slip 14 = .ok (.goto 15, 3) := by decide +kernel
theorem dL_slip_17 : decode cL_slip 17 = .ok (.astore 6, 2) := by decide +kernel
theorem dL_slip_19 : decode cL_slip 19 = .ok (.iconst 1, 1) := by decide +kernel
theorem dL_slip_20 : decode cL_slip 20 = .ok (.ireturn, 1) := by decide +kernel
theorem dL_slip_21 : decode cL_slip 21 = .ok (.astore 6, 2) := by decide +kernel
theorem dL_slip_23 : decode cL_slip 23 = .ok (.iconst 2, 1) := by decide +kernel
theorem dL_slip_24 : decode cL_slip 24 = .ok (.ireturn, 1) := by decide +kernel
theorem dL_slip_25 : decode cL_slip 25 = .ok (.astore 6, 2) := by decide +kernel
theorem dL_slip_27 : decode cL_slip 27 = .ok (.iconst 3, 1) := by decide +kernel
theorem dL_slip_28 : decode cL_slip 28 = .ok (.ireturn, 1) := by decide +kernel
theorem dL_slip_29 : decode cL_slip 29 = .ok (.iconst 0, 1) := by decide +kernel
theorem dL_slip_30 : decode cL_slip 30 = .ok (.ireturn, 1) := by decide +kernel
theorem dL_lose_0 : decode cL_lose 0 = .ok (.aload_n 2, 1) := by decide +kernel
theorem dL_lose_1 : decode cL_lose 1 = .ok (.iconst 0, 1) := by decide +kernel
theorem dL_lose_2 : decode cL_lose 2 = .ok (.aload_n 0, 1) := by decide +kernel
theorem dL_lose_3 : decode cL_lose 3 = .ok (.iload_n 1, 1) := by decide +kernel
theorem dL_lose_4 : decode cL_lose 4 = .ok (.invokevirtual 72, 3) := by decide +kernel
theorem dL_lose_7 : decode cL_lose 7 = .ok (.i2l, 1) := by decide +kernel
theorem dL_lose_8 : decode cL_lose 8 = .ok (.lastore, 1) := by decide +kernel
theorem dL_lose_9 : decode cL_lose 9 = .ok (.goto 6, 3) := by decide +kernel
theorem dL_lose_12 : decode cL_lose 12 = .ok (.astore_n 3, 1) := by decide +kernel
theorem dL_lose_13 : decode cL_lose 13 = .ok (.iconst 1, 1) := by decide +kernel
theorem dL_lose_14 : decode cL_lose 14 = .ok (.ireturn, 1) := by decide +kernel
theorem dL_lose_15 : decode cL_lose 15 = .ok (.iconst 0, 1) := by decide +kernel
theorem dL_lose_16 : decode cL_lose 16 = .ok (.ireturn, 1) := by decide +kernel
theorem dL_set_0 : decode cL_set 0 = .ok (.aload_n 3, 1) := by decide +kernel
theorem dL_set_1 : decode cL_set 1 = .ok (.iconst 0, 1) := by decide +kernel
theorem dL_set_2 : decode cL_set 2 = .ok (.aload_n 0, 1) := by decide +kernel
theorem dL_set_3 : decode cL_set 3 = .ok (.iload_n 1, 1) := by decide +kernel
theorem dL_set_4 : decode cL_set 4 = .ok (.iload_n 2, 1) := by decide +kernel
theorem dL_set_5 : decode cL_set 5 = .ok (.invokevirtual 75, 3) := by decide +kernel
theorem dL_set_8 : decode cL_set 8 = .ok (.i2l, 1) := by decide +kernel
theorem dL_set_9 : decode cL_set 9 = .ok (.lastore, 1) := by decide +kernel
theorem dL_set_10 : decode cL_set 10 = .ok (.goto 7, 3) := by decide +kernel
theorem dL_set_13 : decode cL_set 13 = .ok (.astore 4, 2) := by decide +kernel
theorem dL_set_15 : decode cL_set 15 = .ok (.iconst 1, 1) := by decide +kernel
theorem dL_set_16 : decode cL_set 16 = .ok (.ireturn, 1) := by decide +kernel
theorem dL_set_17 : decode cL_set 17 = .ok (.iconst 0, 1) := by decide +kernel
theorem dL_set_18 : decode cL_set 18 = .ok (.ireturn, 1) := by decide +kernel
theorem dL_undo_0 : decode cL_undo 0 = .ok (.aload_n 1, 1) := by decide +kernel
theorem dL_undo_1 : decode cL_undo 1 = .ok (.iconst 0, 1) := by decide +kernel
theorem dL_undo_2 : decode cL_undo 2 = .ok (.aload_n 0, 1) := by decide +kernel
theorem dL_undo_3 : decode cL_undo 3 = .ok (.invokevirtual 78, 3) := by decide +kernel
theorem dL_undo_6 : decode cL_undo 6 = .ok (.i2l, 1) := by decide +kernel
theorem dL_undo_7 : decode cL_undo 7 = .ok (.lastore, 1) := by decide +kernel
theorem dL_undo_8 : decode cL_undo 8 = .ok (.goto 6, 3) := by decide +kernel
theorem dL_undo_11 : decode cL_undo 11 = .ok (.astore_n 2, 1) := by decide +kernel
theorem dL_undo_12 : decode cL_undo 12 = .ok (.iconst 1, 1) := by decide +kernel
theorem dL_undo_13 : decode cL_undo 13 = .ok (.ireturn, 1) := by decide +kernel
theorem dL_undo_14 : decode cL_undo 14 = .ok (.iconst 0, 1) := by decide +kernel
theorem dL_undo_15 : decode cL_undo 15 = .ok (.ireturn, 1) := by decide +kernel
theorem dL_find_0 : decode cL_find 0 = .ok (.aload 4, 2) := by decide +kernel
theorem dL_find_2 : decode cL_find 2 = .ok (.iconst 0, 1) := by decide +kernel
theorem dL_find_3 : decode cL_find 3 = .ok (.aload_n 0, 1) := by decide +kernel
theorem dL_find_4 : decode cL_find 4 = .ok (.iload_n 1, 1) := by decide +kernel
theorem dL_find_5 : decode cL_find 5 = .ok (.iload_n 2, 1) := by decide +kernel
theorem dL_find_6 : decode cL_find 6 = .ok (.iload_n 3, 1) := by decide +kernel
theorem dL_find_7 : decode cL_find 7 = .ok (.invokevirtual 81, 3) := by decide +kernel
theorem dL_find_10 : decode cL_find 10 = .ok (.i2l, 1) := by decide +kernel
theorem dL_find_11 : decode cL_find 11 = .ok (.lastore, 1) := by decide +kernel
theorem dL_find_12 : decode cL_find 12 = .ok (.goto 11, 3) := by decide +kernel
theorem dL_find_15 : decode cL_find 15 = .ok (.astore 5, 2) := by decide +kernel
theorem dL_find_17 : decode cL_find 17 = .ok (.iconst 1, 1) := by decide +kernel
theorem dL_find_18 : decode cL_find 18 = .ok (.ireturn, 1) := by decide +kernel
theorem dL_find_19 : decode cL_find 19 = .ok (.astore 5, 2) := by decide +kernel
theorem dL_find_21 : decode cL_find 21 = .ok (.iconst 2, 1) := by decide +kernel
theorem dL_find_22 : decode cL_find 22 = .ok (.ireturn, 1) := by decide +kernel
theorem dL_find_23 : decode cL_find 23 = .ok (.iconst 0, 1) := by decide +kernel
theorem dL_find_24 : decode cL_find 24 = .ok (.ireturn, 1) := by decide +kernel
theorem dL_together_0 : decode cL_together 0 = .ok (.aload_n 3, 1) := by decide +kernel
theorem dL_together_1 : decode cL_together 1 = .ok (.iconst 0, 1) := by decide +kernel
theorem dL_together_2 : decode cL_together 2 = .ok (.aload_n 0, 1) := by decide +kernel
theorem dL_together_3 : decode cL_together 3 = .ok (.iload_n 1, 1) := by decide +kernel
theorem dL_together_4 : decode cL_together 4 = .ok (.iload_n 2, 1) := by decide +kernel
theorem dL_together_5 : decode cL_together 5 = .ok (.invokevirtual 84, 3) := by decide +kernel
theorem dL_together_8 : decode cL_together 8 = .ok (.i2l, 1) := by decide +kernel
theorem dL_together_9 : decode cL_together 9 = .ok (.lastore, 1) := by decide +kernel
theorem dL_together_10 : decode cL_together 10 = .ok (.goto 7, 3) := by decide +kernel
theorem dL_together_13 : decode cL_together 13 = .ok (.astore 4, 2) := by decide +kernel
theorem dL_together_15 : decode cL_together 15 = .ok (.iconst 1, 1) := by decide +kernel
theorem dL_together_16 : decode cL_together 16 = .ok (.ireturn, 1) := by decide +kernel
theorem dL_together_17 : decode cL_together 17 = .ok (.iconst 0, 1) := by decide +kernel
theorem dL_together_18 : decode cL_together 18 = .ok (.ireturn, 1) := by decide +kernel
theorem dL_longest_0 : decode cL_longest 0 = .ok (.aload_n 3, 1) := by decide +kernel
theorem dL_longest_1 : decode cL_longest 1 = .ok (.iconst 0, 1) := by decide +kernel
theorem dL_longest_2 : decode cL_longest 2 = .ok (.aload_n 0, 1) := by decide +kernel
theorem dL_longest_3 : decode cL_longest 3 = .ok (.iload_n 1, 1) := by decide +kernel
theorem dL_longest_4 : decode cL_longest 4 = .ok (.iload_n 2, 1) := by decide +kernel
theorem dL_longest_5 : decode cL_longest 5 = .ok (.invokevirtual 87, 3) := by decide +kernel
theorem dL_longest_8 : decode cL_longest 8 = .ok (.i2l, 1) := by decide +kernel
theorem dL_longest_9 : decode cL_longest 9 = .ok (.lastore, 1) := by decide +kernel
theorem dL_longest_10 : decode cL_longest 10 = .ok (.goto 7, 3) := by decide +kernel
theorem dL_longest_13 : decode cL_longest 13 = .ok (.astore 4, 2) := by decide +kernel
theorem dL_longest_15 : decode cL_longest 15 = .ok (.iconst 1, 1) := by decide +kernel
theorem dL_longest_16 : decode cL_longest 16 = .ok (.ireturn, 1) := by decide +kernel
theorem dL_longest_17 : decode cL_longest 17 = .ok (.iconst 0, 1) := by decide +kernel
theorem dL_longest_18 : decode cL_longest 18 = .ok (.ireturn, 1) := by decide +kernel
theorem dL_ifIll_0 : decode cL_ifIll 0 = .ok (.aload 4, 2) := by decide +kernel
theorem dL_ifIll_2 : decode cL_ifIll 2 = .ok (.iconst 0, 1) := by decide +kernel
theorem dL_ifIll_3 : decode cL_ifIll 3 = .ok (.aload_n 0, 1) := by decide +kernel
theorem dL_ifIll_4 : decode cL_ifIll 4 = .ok (.iload_n 1, 1) := by decide +kernel
theorem dL_ifIll_5 : decode cL_ifIll 5 = .ok (.iload_n 2, 1) := by decide +kernel
theorem dL_ifIll_6 : decode cL_ifIll 6 = .ok (.iload_n 3, 1) := by decide +kernel
theorem dL_ifIll_7 : decode cL_ifIll 7 = .ok (.invokevirtual 90, 3) := by decide +kernel
theorem dL_ifIll_10 : decode cL_ifIll 10 = .ok (.i2l, 1) := by decide +kernel
theorem dL_ifIll_11 : decode cL_ifIll 11 = .ok (.lastore, 1) := by decide +kernel
theorem dL_ifIll_12 : decode cL_ifIll 12 = .ok (.goto 11, 3) := by decide +kernel
theorem dL_ifIll_15 : decode cL_ifIll 15 = .ok (.astore 5, 2) := by decide +kernel
theorem dL_ifIll_17 : decode cL_ifIll 17 = .ok (.iconst 1, 1) := by decide +kernel
theorem dL_ifIll_18 : decode cL_ifIll 18 = .ok (.ireturn, 1) := by decide +kernel
theorem dL_ifIll_19 : decode cL_ifIll 19 = .ok (.astore 5, 2) := by decide +kernel
theorem dL_ifIll_21 : decode cL_ifIll 21 = .ok (.iconst 2, 1) := by decide +kernel
theorem dL_ifIll_22 : decode cL_ifIll 22 = .ok (.ireturn, 1) := by decide +kernel
theorem dL_ifIll_23 : decode cL_ifIll 23 = .ok (.iconst 0, 1) := by decide +kernel
theorem dL_ifIll_24 : decode cL_ifIll 24 = .ok (.ireturn, 1) := by decide +kernel
theorem dL_bestUnderstudy_0 : decode cL_bestUnderstudy 0 = .ok (.aload_n 2, 1) := by decide +kernel
theorem dL_bestUnderstudy_1 : decode cL_bestUnderstudy 1 = .ok (.iconst 0, 1) := by decide +kernel
theorem dL_bestUnderstudy_2 : decode cL_bestUnderstudy 2 = .ok (.aload_n 0, 1) := by decide +kernel
theorem dL_bestUnderstudy_3 : decode cL_bestUnderstudy 3 = .ok (.iload_n 1, 1) := by decide +kernel
theorem dL_bestUnderstudy_4 : decode cL_bestUnderstudy 4 = .ok (.invokevirtual 93, 3) := by decide +kernel
theorem dL_bestUnderstudy_7 : decode cL_bestUnderstudy 7 = .ok (.i2l, 1) := by decide +kernel
theorem dL_bestUnderstudy_8 : decode cL_bestUnderstudy 8 = .ok (.lastore, 1) := by decide +kernel
theorem dL_bestUnderstudy_9 : decode cL_bestUnderstudy 9 = .ok (.goto 6, 3) := by decide +kernel
theorem dL_bestUnderstudy_12 : decode cL_bestUnderstudy 12 = .ok (.astore_n 3, 1) := by decide +kernel
theorem dL_bestUnderstudy_13 : decode cL_bestUnderstudy 13 = .ok (.iconst 1, 1) := by decide +kernel
theorem dL_bestUnderstudy_14 : decode cL_bestUnderstudy 14 = .ok (.ireturn, 1) := by decide +kernel
theorem dL_bestUnderstudy_15 : decode cL_bestUnderstudy 15 = .ok (.iconst 0, 1) := by decide +kernel
theorem dL_bestUnderstudy_16 : decode cL_bestUnderstudy 16 = .ok (.ireturn, 1) := by decide +kernel
theorem dL_runScript_0 : decode cL_runScript 0 = .ok (.aload 4, 2) := by decide +kernel
theorem dL_runScript_2 : decode cL_runScript 2 = .ok (.iconst 0, 1) := by decide +kernel
theorem dL_runScript_3 : decode cL_runScript 3 = .ok (.aload_n 0, 1) := by decide +kernel
theorem dL_runScript_4 : decode cL_runScript 4 = .ok (.iload_n 1, 1) := by decide +kernel
theorem dL_runScript_5 : decode cL_runScript 5 = .ok (.lload_n 2, 1) := by decide +kernel
theorem dL_runScript_6 : decode cL_runScript 6 = .ok (.invokevirtual 96, 3) := by decide +kernel
theorem dL_runScript_9 : decode cL_runScript 9 = .ok (.i2l, 1) := by decide +kernel
theorem dL_runScript_10 : decode cL_runScript 10 = .ok (.lastore, 1) := by decide +kernel
theorem dL_runScript_11 : decode cL_runScript 11 = .ok (.goto 7, 3) := by decide +kernel
theorem dL_runScript_14 : decode cL_runScript 14 = .ok (.astore 5, 2) := by decide +kernel
theorem dL_runScript_16 : decode cL_runScript 16 = .ok (.iconst 1, 1) := by decide +kernel
theorem dL_runScript_17 : decode cL_runScript 17 = .ok (.ireturn, 1) := by decide +kernel
theorem dL_runScript_18 : decode cL_runScript 18 = .ok (.iconst 0, 1) := by decide +kernel
theorem dL_runScript_19 : decode cL_runScript 19 = .ok (.ireturn, 1) := by decide +kernel
theorem dL_simulate_0 : decode cL_simulate 0 = .ok (.aload 4, 2) := by decide +kernel
theorem dL_simulate_2 : decode cL_simulate 2 = .ok (.iconst 0, 1) := by decide +kernel
theorem dL_simulate_3 : decode cL_simulate 3 = .ok (.aload_n 0, 1) := by decide +kernel
theorem dL_simulate_4 : decode cL_simulate 4 = .ok (.lload_n 1, 1) := by decide +kernel
theorem dL_simulate_5 : decode cL_simulate 5 = .ok (.iload_n 3, 1) := by decide +kernel
theorem dL_simulate_6 : decode cL_simulate 6 = .ok (.invokevirtual 100, 3) := by decide +kernel
theorem dL_simulate_9 : decode cL_simulate 9 = .ok (.i2l, 1) := by decide +kernel
theorem dL_simulate_10 : decode cL_simulate 10 = .ok (.lastore, 1) := by decide +kernel
theorem dL_simulate_11 : decode cL_simulate 11 = .ok (.goto 7, 3) := by decide +kernel
theorem dL_simulate_14 : decode cL_simulate 14 = .ok (.astore 5, 2) := by decide +kernel
theorem dL_simulate_16 : decode cL_simulate 16 = .ok (.iconst 1, 1) := by decide +kernel
theorem dL_simulate_17 : decode cL_simulate 17 = .ok (.ireturn, 1) := by decide +kernel
theorem dL_simulate_18 : decode cL_simulate 18 = .ok (.iconst 0, 1) := by decide +kernel
theorem dL_simulate_19 : decode cL_simulate 19 = .ok (.ireturn, 1) := by decide +kernel
theorem dL_save_0 : decode cL_save 0 = .ok (.aload_n 2, 1) := by decide +kernel
theorem dL_save_1 : decode cL_save 1 = .ok (.iconst 0, 1) := by decide +kernel
theorem dL_save_2 : decode cL_save 2 = .ok (.aload_n 0, 1) := by decide +kernel
theorem dL_save_3 : decode cL_save 3 = .ok (.iload_n 1, 1) := by decide +kernel
theorem dL_save_4 : decode cL_save 4 = .ok (.invokevirtual 104, 3) := by decide +kernel
theorem dL_save_7 : decode cL_save 7 = .ok (.i2l, 1) := by decide +kernel
theorem dL_save_8 : decode cL_save 8 = .ok (.lastore, 1) := by decide +kernel
theorem dL_save_9 : decode cL_save 9 = .ok (.goto 6, 3) := by decide +kernel
theorem dL_save_12 : decode cL_save 12 = .ok (.astore_n 3, 1) := by decide +kernel
theorem dL_save_13 : decode cL_save 13 = .ok (.iconst 1, 1) := by decide +kernel
theorem dL_save_14 : decode cL_save 14 = .ok (.ireturn, 1) := by decide +kernel
theorem dL_save_15 : decode cL_save 15 = .ok (.iconst 0, 1) := by decide +kernel
theorem dL_save_16 : decode cL_save 16 = .ok (.ireturn, 1) := by decide +kernel
theorem dL_restore_0 : decode cL_restore 0 = .ok (.aload_n 2, 1) := by decide +kernel
theorem dL_restore_1 : decode cL_restore 1 = .ok (.iconst 0, 1) := by decide +kernel
theorem dL_restore_2 : decode cL_restore 2 = .ok (.aload_n 0, 1) := by decide +kernel
theorem dL_restore_3 : decode cL_restore 3 = .ok (.iload_n 1, 1) := by decide +kernel
theorem dL_restore_4 : decode cL_restore 4 = .ok (.invokevirtual 107, 3) := by decide +kernel
theorem dL_restore_7 : decode cL_restore 7 = .ok (.i2l, 1) := by decide +kernel
theorem dL_restore_8 : decode cL_restore 8 = .ok (.lastore, 1) := by decide +kernel
theorem dL_restore_9 : decode cL_restore 9 = .ok (.goto 9, 3) := by decide +kernel
theorem dL_restore_12 : decode cL_restore 12 = .ok (.astore_n 3, 1) := by decide +kernel
theorem dL_restore_13 : decode cL_restore 13 = .ok (.iconst 1, 1) := by decide +kernel
theorem dL_restore_14 : decode cL_restore 14 = .ok (.ireturn, 1) := by decide +kernel
theorem dL_restore_15 : decode cL_restore 15 = .ok (.astore_n 3, 1) := by decide +kernel
theorem dL_restore_16 : decode cL_restore 16 = .ok (.iconst 2, 1) := by decide +kernel
theorem dL_restore_17 : decode cL_restore 17 = .ok (.ireturn, 1) := by decide +kernel
theorem dL_restore_18 : decode cL_restore 18 = .ok (.iconst 0, 1) := by decide +kernel
theorem dL_restore_19 : decode cL_restore 19 = .ok (.ireturn, 1) := by decide +kernel
theorem dL_law_0 : decode cL_law 0 = .ok (.new 8, 3) := by decide +kernel
theorem dL_law_3 : decode cL_law 3 = .ok (.dup, 1) := by decide +kernel
theorem dL_law_4 : decode cL_law 4 = .ok (.invokespecial 110, 3) := by decide +kernel
theorem dL_law_7 : decode cL_law 7 = .ok (.astore_n 1, 1) := by decide +kernel
theorem dL_law_8 : decode cL_law 8 = .ok (.new 111, 3) := by decide +kernel
theorem dL_law_11 : decode cL_law 11 = .ok (.dup, 1) := by decide +kernel
theorem dL_law_12 : decode cL_law 12 = .ok (.invokespecial 113, 3) := by decide +kernel
theorem dL_law_15 : decode cL_law 15 = .ok (.astore_n 2, 1) := by decide +kernel
theorem dL_law_16 : decode cL_law 16 = .ok (.iconst 1, 1) := by decide +kernel
