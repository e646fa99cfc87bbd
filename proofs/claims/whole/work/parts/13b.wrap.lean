theorem w_init_law : Cond.initialized "BillArchiveLaw" ∈ Tw := w_1_0
theorem lk_L_append : LkW yL_append method_3_code 4 (some FieldType.int) [(0, 9, 12, 13), (0, 9, 15, 15)] 3 := ⟨w_2_151, w_2_152, w_init_law, by decide +kernel⟩
theorem lk_L_load : LkW yL_load method_4_code 3 (some FieldType.int) [(0, 8, 11, 15)] 2 := ⟨w_3_11, w_3_12, w_init_law, by decide +kernel⟩
theorem lk_L_about : LkW yL_about method_5_code 4 (some FieldType.int) [(0, 9, 12, 13)] 3 := ⟨w_3_91, w_3_92, w_init_law, by decide +kernel⟩
theorem lk_L_played : LkW yL_played method_6_code 5 (some FieldType.int) [(0, 10, 13, 28)] 4 := ⟨w_3_142, w_3_143, w_init_law, by decide +kernel⟩
theorem lk_L_bill : LkW yL_bill method_7_code 6 (some FieldType.int) [(0, 12, 15, 28), (0, 12, 19, 13)] 5 := ⟨w_3_177, w_3_178, w_init_law, by decide +kernel⟩
theorem lk_L_night : LkW yL_night method_8_code 5 (some FieldType.int) [(0, 10, 13, 28), (0, 10, 17, 13)] 4 := ⟨w_3_196, w_3_197, w_init_law, by decide +kernel⟩
theorem lk_L_actor : LkW yL_actor method_9_code 5 (some FieldType.int) [(0, 10, 13, 28), (0, 10, 17, 13)] 4 := ⟨w_3_214, w_3_215, w_init_law, by decide +kernel⟩
theorem lk_L_ranked : LkW yL_ranked method_10_code 5 (some FieldType.int) [(0, 10, 13, 28), (0, 10, 17, 13)] 4 := ⟨w_4_15, w_4_16, w_init_law, by decide +kernel⟩
theorem lk_L_found : LkW yL_found method_11_code 5 (some FieldType.int) [(0, 10, 13, 28), (0, 10, 17, 13)] 4 := ⟨w_4_24, w_4_25, w_init_law, by decide +kernel⟩
theorem lk_L_setting : LkW yL_setting method_12_code 4 (some FieldType.int) [(0, 9, 12, 13)] 3 := ⟨w_4_45, w_4_46, w_init_law, by decide +kernel⟩
theorem lk_L_addActor : LkW yL_addActor method_13_code 4 (some FieldType.int) [(0, 9, 12, 13), (0, 9, 15, 15)] 3 := ⟨w_4_57, w_4_58, w_init_law, by decide +kernel⟩
theorem lk_L_addPart : LkW yL_addPart method_14_code 3 (some FieldType.int) [(0, 8, 11, 15)] 2 := ⟨w_4_78, w_4_79, w_init_law, by decide +kernel⟩
theorem lk_L_cast : LkW yL_cast method_15_code 6 (some FieldType.int) [(0, 12, 15, 28)] 5 := ⟨w_4_87, w_4_88, w_init_law, by decide +kernel⟩
theorem lk_L_understudy : LkW yL_understudy method_16_code 5 (some FieldType.int) [(0, 10, 13, 28), (0, 10, 17, 15)] 4 := ⟨w_4_96, w_4_97, w_init_law, by decide +kernel⟩
theorem lk_L_release : LkW yL_release method_17_code 5 (some FieldType.int) [(0, 10, 13, 28), (0, 10, 17, 15)] 4 := ⟨w_4_106, w_4_107, w_init_law, by decide +kernel⟩
theorem lk_L_ill : LkW yL_ill method_18_code 6 (some FieldType.int) [(0, 12, 15, 28)] 5 := ⟨w_4_119, w_4_120, w_init_law, by decide +kernel⟩
theorem lk_L_slip : LkW yL_slip method_19_code 7 (some FieldType.int) [(0, 14, 17, 28), (0, 14, 21, 13), (0, 14, 25, 15)] 6 := ⟨w_4_126, w_4_127, w_init_law, by decide +kernel⟩
theorem lk_L_lose : LkW yL_lose method_20_code 4 (some FieldType.int) [(0, 9, 12, 28)] 3 := ⟨w_4_136, w_4_137, w_init_law, by decide +kernel⟩
theorem lk_L_set : LkW yL_set method_21_code 5 (some FieldType.int) [(0, 10, 13, 13)] 4 := ⟨w_4_148, w_4_149, w_init_law, by decide +kernel⟩
theorem lk_L_undo : LkW yL_undo method_22_code 3 (some FieldType.int) [(0, 8, 11, 15)] 2 := ⟨w_4_160, w_4_161, w_init_law, by decide +kernel⟩
theorem lk_L_find : LkW yL_find method_23_code 6 (some FieldType.int) [(0, 12, 15, 28), (0, 12, 19, 13)] 5 := ⟨w_4_180, w_4_181, w_init_law, by decide +kernel⟩
theorem lk_L_together : LkW yL_together method_24_code 5 (some FieldType.int) [(0, 10, 13, 28)] 4 := ⟨w_4_192, w_4_193, w_init_law, by decide +kernel⟩
theorem lk_L_longest : LkW yL_longest method_25_code 5 (some FieldType.int) [(0, 10, 13, 28)] 4 := ⟨w_4_199, w_4_200, w_init_law, by decide +kernel⟩
theorem lk_L_ifIll : LkW yL_ifIll method_26_code 6 (some FieldType.int) [(0, 12, 15, 28), (0, 12, 19, 13)] 5 := ⟨w_4_209, w_4_210, w_init_law, by decide +kernel⟩
theorem lk_L_bestUnderstudy : LkW yL_bestUnderstudy method_27_code 4 (some FieldType.int) [(0, 9, 12, 28)] 3 := ⟨w_4_221, w_4_222, w_init_law, by decide +kernel⟩
theorem lk_L_runScript : LkW yL_runScript method_28_code 6 (some FieldType.int) [(0, 11, 14, 13)] 4 := ⟨w_4_232, w_4_233, w_init_law, by decide +kernel⟩
theorem lk_L_simulate : LkW yL_simulate method_29_code 6 (some FieldType.int) [(0, 11, 14, 13)] 4 := ⟨w_5_17, w_5_18, w_init_law, by decide +kernel⟩
theorem lk_L_save : LkW yL_save method_30_code 4 (some FieldType.int) [(0, 9, 12, 28)] 3 := ⟨w_5_32, w_5_33, w_init_law, by decide +kernel⟩
theorem lk_L_restore : LkW yL_restore method_31_code 4 (some FieldType.int) [(0, 9, 12, 28), (0, 9, 15, 15)] 3 := ⟨w_5_44, w_5_45, w_init_law, by decide +kernel⟩
set_option maxRecDepth 100000 in
theorem wo_append {l : Launch} {E : Ev} {b o : Nat} {v1 : Int32} {g : Nat → Int64} {wc : va_W} {fs : List Value} {post : Option Value → va_W → Prop} (hM : Ct l E yX5_append cX5_append 2 (some FieldType.int) 6 90 [.ref b, .int v1] wc post) (hq : PoR wc post) (hr : wc[0]? = some (b, .inr (5, fs))) : CtX l E yL_append method_3_code 4 (some FieldType.int) [(0, 9, 12, 13), (0, 9, 15, 15)] 7 111 [.ref b, .int v1, .ref o] ((o, .inl (eJ E, 1, .inr (.inl g))) :: wc) (WOk E o g post) := by
  refine ctx_of (by decide +kernel) (Nat.le_of_ble_eq_true rfl) (fun ω ω9 C C9 RT up TC => ?_)
  refine up _ _ _ _ ?_
  show ω9 _ [(0, .ref b), (1, .int v1), (2, .ref o)] [] 0
  refine r_aload_n C9 (i := 2) 2 dL_append_0 rfl rfl ?_
  refine r_iconst C9 dL_append_1 ki_0 ?_
  refine r_aload_n C9 (i := 0) 0 dL_append_2 rfl rfl ?_
  refine r_iload_n C9 (i := 1) 1 dL_append_3 rfl rfl ?_
  refine r_callV (rest := [.int (nI 0), .ref o]) C9 hM lk_X5_append w_2_155 (List.range' 1 wc.length) (ci := 5) rfl dL_append_4 rfl (cut1 _ _) (ndR _ _) hr ⟨by decide, by decide⟩ (Nat.le_of_ble_eq_true rfl) (fun v w hp => ?_)
  obtain ⟨⟨r, rfl⟩, hf⟩ := hq v w hp
  rw [mrg1 _ hf]
  show ω9 _ [(0, .ref b), (1, .int v1), (2, .ref o)] [.int r, .int (nI 0), .ref o] 7
  refine r_i2l (v := r.toInt64) C9 dL_append_7 rfl ?_
  refine r_last (j := 0) (ws' := (o, .inl (eJ E, 1, .inr (.inl (vp_updL g 0 r.toInt64)))) :: w) C9 0 rfl (by decide) (by decide) rfl dL_append_8 ?_
  refine r_goto C9 18 dL_append_9 (by decide) ?_
  refine r_iconst C9 dL_append_18 ki_0 ?_
  exact RT.1 _ _ _ _ _ dL_append_19 rfl rfl ⟨r, w, hp, rfl, rfl⟩ (by rw [List.map_cons, List.map_cons, hf])
set_option maxRecDepth 100000 in
theorem wn_append_A {l : Launch} {E : Ev} {b o : Nat} {v1 : Int32} {g : Nat → Int64} {wc : va_W} {fs : List Value} {pw : va_W → Prop} (hM : Th l E yX5_append cX5_append 2 (some FieldType.int) 6 90 [.ref b, .int v1] wc pw "java/lang/IllegalArgumentException") (hr : wc[0]? = some (b, .inr (5, fs))) : CtX l E yL_append method_3_code 4 (some FieldType.int) [(0, 9, 12, 13), (0, 9, 15, 15)] 7 111 [.ref b, .int v1, .ref o] ((o, .inl (eJ E, 1, .inr (.inl g))) :: wc) (WNo E o g pw 1) := by
  refine ctx_of (by decide +kernel) (Nat.le_of_ble_eq_true rfl) (fun ω ω9 C C9 RT up TC => ?_)
  show ω _ [(0, .ref b), (1, .int v1), (2, .ref o)] [] 0
  refine r_aload_n C (i := 2) 2 dL_append_0 rfl rfl ?_
  refine r_iconst C dL_append_1 ki_0 ?_
  refine r_aload_n C (i := 0) 0 dL_append_2 rfl rfl ?_
  refine r_iload_n C (i := 1) 1 dL_append_3 rfl rfl ?_
  refine TC "java/lang/IllegalArgumentException" [] (0, 9, 12, 13) [(0, 9, 15, 15)] rfl (fun _ h => absurd h List.not_mem_nil) (by decide) w_2_153 cs_A _ pw _ _ [.int (nI 0), .ref o] _ 4 _ _ _ _ _ 5 _ _ _ _ _ (List.range' 1 wc.length) _ _ hM lk_X5_append w_2_155 rfl dL_append_4 rfl (cut1 _ _) (ndR _ _) hr ⟨by decide, by decide⟩ (Nat.le_of_ble_eq_true rfl) ⟨by decide, by decide⟩ (fun w q hw hf => ?_)
  rw [mrg1 _ hf]
  show ω9 _ [(0, .ref b), (1, .int v1), (2, .ref o)] [.ref q] 12
  refine r_astore_n C9 (lv' := [(3, .ref q), (0, .ref b), (1, .int v1), (2, .ref o)]) dL_append_12 rfl (by decide) rfl ?_
  refine r_iconst C9 dL_append_13 ki_1 ?_
  exact RT.1 _ _ _ _ _ dL_append_14 rfl rfl ⟨w, hw, rfl, rfl⟩ (by rw [List.map_cons, List.map_cons, hf])
set_option maxRecDepth 100000 in
theorem wn_append_S {l : Launch} {E : Ev} {b o : Nat} {v1 : Int32} {g : Nat → Int64} {wc : va_W} {fs : List Value} {pw : va_W → Prop} (hM : Th l E yX5_append cX5_append 2 (some FieldType.int) 6 90 [.ref b, .int v1] wc pw "java/lang/IllegalStateException") (hr : wc[0]? = some (b, .inr (5, fs))) : CtX l E yL_append method_3_code 4 (some FieldType.int) [(0, 9, 12, 13), (0, 9, 15, 15)] 7 111 [.ref b, .int v1, .ref o] ((o, .inl (eJ E, 1, .inr (.inl g))) :: wc) (WNo E o g pw 2) := by
  refine ctx_of (by decide +kernel) (Nat.le_of_ble_eq_true rfl) (fun ω ω9 C C9 RT up TC => ?_)
  show ω _ [(0, .ref b), (1, .int v1), (2, .ref o)] [] 0
  refine r_aload_n C (i := 2) 2 dL_append_0 rfl rfl ?_
  refine r_iconst C dL_append_1 ki_0 ?_
  refine r_aload_n C (i := 0) 0 dL_append_2 rfl rfl ?_
  refine r_iload_n C (i := 1) 1 dL_append_3 rfl rfl ?_
  refine TC "java/lang/IllegalStateException" [(0, 9, 12, 13)] (0, 9, 15, 15) [] rfl (List.forall_mem_cons.mpr ⟨⟨by decide, "java/lang/IllegalArgumentException", w_2_153, nc_SA⟩, fun _ h => absurd h List.not_mem_nil⟩) (by decide) w_2_154 cs_S _ pw _ _ [.int (nI 0), .ref o] _ 4 _ _ _ _ _ 5 _ _ _ _ _ (List.range' 1 wc.length) _ _ hM lk_X5_append w_2_155 rfl dL_append_4 rfl (cut1 _ _) (ndR _ _) hr ⟨by decide, by decide⟩ (Nat.le_of_ble_eq_true rfl) ⟨by decide, by decide⟩ (fun w q hw hf => ?_)
  rw [mrg1 _ hf]
  show ω9 _ [(0, .ref b), (1, .int v1), (2, .ref o)] [.ref q] 15
  refine r_astore_n C9 (lv' := [(3, .ref q), (0, .ref b), (1, .int v1), (2, .ref o)]) dL_append_15 rfl (by decide) rfl ?_
  refine r_iconst C9 dL_append_16 ki_2 ?_
  exact RT.1 _ _ _ _ _ dL_append_17 rfl rfl ⟨w, hw, rfl, rfl⟩ (by rw [List.map_cons, List.map_cons, hf])
set_option maxRecDepth 100000 in
theorem wo_load {l : Launch} {E : Ev} {b o : Nat} {g : Nat → Int64} {wc : va_W} {fs : List Value} {post : Option Value → va_W → Prop} (hM : Ct l E yX5_load cX5_load 3 (some FieldType.int) 7 152 [.ref b] wc post) (hq : PoR wc post) (hr : wc[0]? = some (b, .inr (5, fs))) : CtX l E yL_load method_4_code 3 (some FieldType.int) [(0, 8, 11, 15)] 8 174 [.ref b, .ref o] ((o, .inl (eJ E, 1, .inr (.inl g))) :: wc) (WOk E o g post) := by
  refine ctx_of (by decide +kernel) (Nat.le_of_ble_eq_true rfl) (fun ω ω9 C C9 RT up TC => ?_)
  refine up _ _ _ _ ?_
  show ω9 _ [(0, .ref b), (1, .ref o)] [] 0
  refine r_aload_n C9 (i := 1) 1 dL_load_0 rfl rfl ?_
  refine r_iconst C9 dL_load_1 ki_0 ?_
  refine r_aload_n C9 (i := 0) 0 dL_load_2 rfl rfl ?_
  refine r_callV (rest := [.int (nI 0), .ref o]) C9 hM lk_X5_load w_3_13 (List.range' 1 wc.length) (ci := 5) rfl dL_load_3 rfl (cut1 _ _) (ndR _ _) hr ⟨by decide, by decide⟩ (Nat.le_of_ble_eq_true rfl) (fun v w hp => ?_)
  obtain ⟨⟨r, rfl⟩, hf⟩ := hq v w hp
  rw [mrg1 _ hf]
  show ω9 _ [(0, .ref b), (1, .ref o)] [.int r, .int (nI 0), .ref o] 6
  refine r_i2l (v := r.toInt64) C9 dL_load_6 rfl ?_
  refine r_last (j := 0) (ws' := (o, .inl (eJ E, 1, .inr (.inl (vp_updL g 0 r.toInt64)))) :: w) C9 0 rfl (by decide) (by decide) rfl dL_load_7 ?_
  refine r_goto C9 14 dL_load_8 (by decide) ?_
  refine r_iconst C9 dL_load_14 ki_0 ?_
  exact RT.1 _ _ _ _ _ dL_load_15 rfl rfl ⟨r, w, hp, rfl, rfl⟩ (by rw [List.map_cons, List.map_cons, hf])
set_option maxRecDepth 100000 in
theorem wn_load_S {l : Launch} {E : Ev} {b o : Nat} {g : Nat → Int64} {wc : va_W} {fs : List Value} {pw : va_W → Prop} (hM : Th l E yX5_load cX5_load 3 (some FieldType.int) 7 152 [.ref b] wc pw "java/lang/IllegalStateException") (hr : wc[0]? = some (b, .inr (5, fs))) : CtX l E yL_load method_4_code 3 (some FieldType.int) [(0, 8, 11, 15)] 8 174 [.ref b, .ref o] ((o, .inl (eJ E, 1, .inr (.inl g))) :: wc) (WNo E o g pw 1) := by
  refine ctx_of (by decide +kernel) (Nat.le_of_ble_eq_true rfl) (fun ω ω9 C C9 RT up TC => ?_)
  show ω _ [(0, .ref b), (1, .ref o)] [] 0
  refine r_aload_n C (i := 1) 1 dL_load_0 rfl rfl ?_
  refine r_iconst C dL_load_1 ki_0 ?_
  refine r_aload_n C (i := 0) 0 dL_load_2 rfl rfl ?_
  refine TC "java/lang/IllegalStateException" [] (0, 8, 11, 15) [] rfl (fun _ h => absurd h List.not_mem_nil) (by decide) w_2_154 cs_S _ pw _ _ [.int (nI 0), .ref o] _ 3 _ _ _ _ _ 5 _ _ _ _ _ (List.range' 1 wc.length) _ _ hM lk_X5_load w_3_13 rfl dL_load_3 rfl (cut1 _ _) (ndR _ _) hr ⟨by decide, by decide⟩ (Nat.le_of_ble_eq_true rfl) ⟨by decide, by decide⟩ (fun w q hw hf => ?_)
  rw [mrg1 _ hf]
  show ω9 _ [(0, .ref b), (1, .ref o)] [.ref q] 11
  refine r_astore_n C9 (lv' := [(2, .ref q), (0, .ref b), (1, .ref o)]) dL_load_11 rfl (by decide) rfl ?_
  refine r_iconst C9 dL_load_12 ki_1 ?_
  exact RT.1 _ _ _ _ _ dL_load_13 rfl rfl ⟨w, hw, rfl, rfl⟩ (by rw [List.map_cons, List.map_cons, hf])
set_option maxRecDepth 100000 in
theorem wo_about {l : Launch} {E : Ev} {b o : Nat} {v1 : Int32} {g : Nat → Int64} {wc : va_W} {fs : List Value} {post : Option Value → va_W → Prop} (hM : Ct l E yX5_about cX5_about 2 (some FieldType.int) 6 117 [.ref b, .int v1] wc post) (hq : PoR wc post) (hr : wc[0]? = some (b, .inr (5, fs))) : CtX l E yL_about method_5_code 4 (some FieldType.int) [(0, 9, 12, 13)] 7 138 [.ref b, .int v1, .ref o] ((o, .inl (eJ E, 1, .inr (.inl g))) :: wc) (WOk E o g post) := by
  refine ctx_of (by decide +kernel) (Nat.le_of_ble_eq_true rfl) (fun ω ω9 C C9 RT up TC => ?_)
  refine up _ _ _ _ ?_
  show ω9 _ [(0, .ref b), (1, .int v1), (2, .ref o)] [] 0
  refine r_aload_n C9 (i := 2) 2 dL_about_0 rfl rfl ?_
  refine r_iconst C9 dL_about_1 ki_0 ?_
  refine r_aload_n C9 (i := 0) 0 dL_about_2 rfl rfl ?_
  refine r_iload_n C9 (i := 1) 1 dL_about_3 rfl rfl ?_
  refine r_callV (rest := [.int (nI 0), .ref o]) C9 hM lk_X5_about w_3_93 (List.range' 1 wc.length) (ci := 5) rfl dL_about_4 rfl (cut1 _ _) (ndR _ _) hr ⟨by decide, by decide⟩ (Nat.le_of_ble_eq_true rfl) (fun v w hp => ?_)
  obtain ⟨⟨r, rfl⟩, hf⟩ := hq v w hp
  rw [mrg1 _ hf]
  show ω9 _ [(0, .ref b), (1, .int v1), (2, .ref o)] [.int r, .int (nI 0), .ref o] 7
  refine r_i2l (v := r.toInt64) C9 dL_about_7 rfl ?_
  refine r_last (j := 0) (ws' := (o, .inl (eJ E, 1, .inr (.inl (vp_updL g 0 r.toInt64)))) :: w) C9 0 rfl (by decide) (by decide) rfl dL_about_8 ?_
  refine r_goto C9 15 dL_about_9 (by decide) ?_
  refine r_iconst C9 dL_about_15 ki_0 ?_
  exact RT.1 _ _ _ _ _ dL_about_16 rfl rfl ⟨r, w, hp, rfl, rfl⟩ (by rw [List.map_cons, List.map_cons, hf])
set_option maxRecDepth 100000 in
theorem wn_about_A {l : Launch} {E : Ev} {b o : Nat} {v1 : Int32} {g : Nat → Int64} {wc : va_W} {fs : List Value} {pw : va_W → Prop} (hM : Th l E yX5_about cX5_about 2 (some FieldType.int) 6 117 [.ref b, .int v1] wc pw "java/lang/IllegalArgumentException") (hr : wc[0]? = some (b, .inr (5, fs))) : CtX l E yL_about method_5_code 4 (some FieldType.int) [(0, 9, 12, 13)] 7 138 [.ref b, .int v1, .ref o] ((o, .inl (eJ E, 1, .inr (.inl g))) :: wc) (WNo E o g pw 1) := by
  refine ctx_of (by decide +kernel) (Nat.le_of_ble_eq_true rfl) (fun ω ω9 C C9 RT up TC => ?_)
  show ω _ [(0, .ref b), (1, .int v1), (2, .ref o)] [] 0
  refine r_aload_n C (i := 2) 2 dL_about_0 rfl rfl ?_
  refine r_iconst C dL_about_1 ki_0 ?_
  refine r_aload_n C (i := 0) 0 dL_about_2 rfl rfl ?_
  refine r_iload_n C (i := 1) 1 dL_about_3 rfl rfl ?_
  refine TC "java/lang/IllegalArgumentException" [] (0, 9, 12, 13) [] rfl (fun _ h => absurd h List.not_mem_nil) (by decide) w_2_153 cs_A _ pw _ _ [.int (nI 0), .ref o] _ 4 _ _ _ _ _ 5 _ _ _ _ _ (List.range' 1 wc.length) _ _ hM lk_X5_about w_3_93 rfl dL_about_4 rfl (cut1 _ _) (ndR _ _) hr ⟨by decide, by decide⟩ (Nat.le_of_ble_eq_true rfl) ⟨by decide, by decide⟩ (fun w q hw hf => ?_)
  rw [mrg1 _ hf]
  show ω9 _ [(0, .ref b), (1, .int v1), (2, .ref o)] [.ref q] 12
  refine r_astore_n C9 (lv' := [(3, .ref q), (0, .ref b), (1, .int v1), (2, .ref o)]) dL_about_12 rfl (by decide) rfl ?_
  refine r_iconst C9 dL_about_13 ki_1 ?_
  exact RT.1 _ _ _ _ _ dL_about_14 rfl rfl ⟨w, hw, rfl, rfl⟩ (by rw [List.map_cons, List.map_cons, hf])
set_option maxRecDepth 100000 in
theorem wo_played {l : Launch} {E : Ev} {b o : Nat} {v1 : Int32} {v2 : Int32} {g : Nat → Int64} {wc : va_W} {fs : List Value} {post : Option Value → va_W → Prop} (hM : Ct l E yX5_played cX5_played 3 (some FieldType.int) 7 111 [.ref b, .int v1, .int v2] wc post) (hq : PoR wc post) (hr : wc[0]? = some (b, .inr (5, fs))) : CtX l E yL_played method_6_code 5 (some FieldType.int) [(0, 10, 13, 28)] 8 133 [.ref b, .int v1, .int v2, .ref o] ((o, .inl (eJ E, 1, .inr (.inl g))) :: wc) (WOk E o g post) := by
  refine ctx_of (by decide +kernel) (Nat.le_of_ble_eq_true rfl) (fun ω ω9 C C9 RT up TC => ?_)
  refine up _ _ _ _ ?_
  show ω9 _ [(0, .ref b), (1, .int v1), (2, .int v2), (3, .ref o)] [] 0
  refine r_aload_n C9 (i := 3) 3 dL_played_0 rfl rfl ?_
  refine r_iconst C9 dL_played_1 ki_0 ?_
  refine r_aload_n C9 (i := 0) 0 dL_played_2 rfl rfl ?_
  refine r_iload_n C9 (i := 1) 1 dL_played_3 rfl rfl ?_
  refine r_iload_n C9 (i := 2) 2 dL_played_4 rfl rfl ?_
  refine r_callV (rest := [.int (nI 0), .ref o]) C9 hM lk_X5_played w_3_145 (List.range' 1 wc.length) (ci := 5) rfl dL_played_5 rfl (cut1 _ _) (ndR _ _) hr ⟨by decide, by decide⟩ (Nat.le_of_ble_eq_true rfl) (fun v w hp => ?_)
  obtain ⟨⟨r, rfl⟩, hf⟩ := hq v w hp
  rw [mrg1 _ hf]
  show ω9 _ [(0, .ref b), (1, .int v1), (2, .int v2), (3, .ref o)] [.int r, .int (nI 0), .ref o] 8
  refine r_i2l (v := r.toInt64) C9 dL_played_8 rfl ?_
  refine r_last (j := 0) (ws' := (o, .inl (eJ E, 1, .inr (.inl (vp_updL g 0 r.toInt64)))) :: w) C9 0 rfl (by decide) (by decide) rfl dL_played_9 ?_
  refine r_goto C9 17 dL_played_10 (by decide) ?_
  refine r_iconst C9 dL_played_17 ki_0 ?_
  exact RT.1 _ _ _ _ _ dL_played_18 rfl rfl ⟨r, w, hp, rfl, rfl⟩ (by rw [List.map_cons, List.map_cons, hf])
set_option maxRecDepth 100000 in
theorem wn_played_B {l : Launch} {E : Ev} {b o : Nat} {v1 : Int32} {v2 : Int32} {g : Nat → Int64} {wc : va_W} {fs : List Value} {pw : va_W → Prop} (hM : Th l E yX5_played cX5_played 3 (some FieldType.int) 7 111 [.ref b, .int v1, .int v2] wc pw "java/lang/IndexOutOfBoundsException") (hr : wc[0]? = some (b, .inr (5, fs))) : CtX l E yL_played method_6_code 5 (some FieldType.int) [(0, 10, 13, 28)] 8 133 [.ref b, .int v1, .int v2, .ref o] ((o, .inl (eJ E, 1, .inr (.inl g))) :: wc) (WNo E o g pw 1) := by
  refine ctx_of (by decide +kernel) (Nat.le_of_ble_eq_true rfl) (fun ω ω9 C C9 RT up TC => ?_)
  show ω _ [(0, .ref b), (1, .int v1), (2, .int v2), (3, .ref o)] [] 0
  refine r_aload_n C (i := 3) 3 dL_played_0 rfl rfl ?_
  refine r_iconst C dL_played_1 ki_0 ?_
  refine r_aload_n C (i := 0) 0 dL_played_2 rfl rfl ?_
  refine r_iload_n C (i := 1) 1 dL_played_3 rfl rfl ?_
  refine r_iload_n C (i := 2) 2 dL_played_4 rfl rfl ?_
  refine TC "java/lang/IndexOutOfBoundsException" [] (0, 10, 13, 28) [] rfl (fun _ h => absurd h List.not_mem_nil) (by decide) w_3_144 cs_B _ pw _ _ [.int (nI 0), .ref o] _ 5 _ _ _ _ _ 5 _ _ _ _ _ (List.range' 1 wc.length) _ _ hM lk_X5_played w_3_145 rfl dL_played_5 rfl (cut1 _ _) (ndR _ _) hr ⟨by decide, by decide⟩ (Nat.le_of_ble_eq_true rfl) ⟨by decide, by decide⟩ (fun w q hw hf => ?_)
  rw [mrg1 _ hf]
  show ω9 _ [(0, .ref b), (1, .int v1), (2, .int v2), (3, .ref o)] [.ref q] 13
  refine r_astore C9 (lv' := [(4, .ref q), (0, .ref b), (1, .int v1), (2, .int v2), (3, .ref o)]) dL_played_13 (by decide) rfl ?_
  refine r_iconst C9 dL_played_15 ki_1 ?_
  exact RT.1 _ _ _ _ _ dL_played_16 rfl rfl ⟨w, hw, rfl, rfl⟩ (by rw [List.map_cons, List.map_cons, hf])
set_option maxRecDepth 100000 in
theorem wo_bill {l : Launch} {E : Ev} {b o : Nat} {v1 : Int32} {v2 : Int32} {v3 : Int32} {g : Nat → Int64} {wc : va_W} {fs : List Value} {post : Option Value → va_W → Prop} (hM : Ct l E yX5_bill cX5_bill 4 (some FieldType.int) 7 111 [.ref b, .int v1, .int v2, .int v3] wc post) (hq : PoR wc post) (hr : wc[0]? = some (b, .inr (5, fs))) : CtX l E yL_bill method_7_code 6 (some FieldType.int) [(0, 12, 15, 28), (0, 12, 19, 13)] 8 134 [.ref b, .int v1, .int v2, .int v3, .ref o] ((o, .inl (eJ E, 1, .inr (.inl g))) :: wc) (WOk E o g post) := by
  refine ctx_of (by decide +kernel) (Nat.le_of_ble_eq_true rfl) (fun ω ω9 C C9 RT up TC => ?_)
  refine up _ _ _ _ ?_
  show ω9 _ [(0, .ref b), (1, .int v1), (2, .int v2), (3, .int v3), (4, .ref o)] [] 0
  refine r_aload C9 (i := 4) 4 dL_bill_0 rfl ?_
  refine r_iconst C9 dL_bill_2 ki_0 ?_
  refine r_aload_n C9 (i := 0) 0 dL_bill_3 rfl rfl ?_
  refine r_iload_n C9 (i := 1) 1 dL_bill_4 rfl rfl ?_
  refine r_iload_n C9 (i := 2) 2 dL_bill_5 rfl rfl ?_
  refine r_iload_n C9 (i := 3) 3 dL_bill_6 rfl rfl ?_
  refine r_callV (rest := [.int (nI 0), .ref o]) C9 hM lk_X5_bill w_3_179 (List.range' 1 wc.length) (ci := 5) rfl dL_bill_7 rfl (cut1 _ _) (ndR _ _) hr ⟨by decide, by decide⟩ (Nat.le_of_ble_eq_true rfl) (fun v w hp => ?_)
  obtain ⟨⟨r, rfl⟩, hf⟩ := hq v w hp
  rw [mrg1 _ hf]
  show ω9 _ [(0, .ref b), (1, .int v1), (2, .int v2), (3, .int v3), (4, .ref o)] [.int r, .int (nI 0), .ref o] 10
  refine r_i2l (v := r.toInt64) C9 dL_bill_10 rfl ?_
  refine r_last (j := 0) (ws' := (o, .inl (eJ E, 1, .inr (.inl (vp_updL g 0 r.toInt64)))) :: w) C9 0 rfl (by decide) (by decide) rfl dL_bill_11 ?_
  refine r_goto C9 23 dL_bill_12 (by decide) ?_
  refine r_iconst C9 dL_bill_23 ki_0 ?_
  exact RT.1 _ _ _ _ _ dL_bill_24 rfl rfl ⟨r, w, hp, rfl, rfl⟩ (by rw [List.map_cons, List.map_cons, hf])
set_option maxRecDepth 100000 in
theorem wn_bill_B {l : Launch} {E : Ev} {b o : Nat} {v1 : Int32} {v2 : Int32} {v3 : Int32} {g : Nat → Int64} {wc : va_W} {fs : List Value} {pw : va_W → Prop} (hM : Th l E yX5_bill cX5_bill 4 (some FieldType.int) 7 111 [.ref b, .int v1, .int v2, .int v3] wc pw "java/lang/IndexOutOfBoundsException") (hr : wc[0]? = some (b, .inr (5, fs))) : CtX l E yL_bill method_7_code 6 (some FieldType.int) [(0, 12, 15, 28), (0, 12, 19, 13)] 8 134 [.ref b, .int v1, .int v2, .int v3, .ref o] ((o, .inl (eJ E, 1, .inr (.inl g))) :: wc) (WNo E o g pw 1) := by
  refine ctx_of (by decide +kernel) (Nat.le_of_ble_eq_true rfl) (fun ω ω9 C C9 RT up TC => ?_)
  show ω _ [(0, .ref b), (1, .int v1), (2, .int v2), (3, .int v3), (4, .ref o)] [] 0
  refine r_aload C (i := 4) 4 dL_bill_0 rfl ?_
  refine r_iconst C dL_bill_2 ki_0 ?_
  refine r_aload_n C (i := 0) 0 dL_bill_3 rfl rfl ?_
  refine r_iload_n C (i := 1) 1 dL_bill_4 rfl rfl ?_
  refine r_iload_n C (i := 2) 2 dL_bill_5 rfl rfl ?_
  refine r_iload_n C (i := 3) 3 dL_bill_6 rfl rfl ?_
  refine TC "java/lang/IndexOutOfBoundsException" [] (0, 12, 15, 28) [(0, 12, 19, 13)] rfl (fun _ h => absurd h List.not_mem_nil) (by decide) w_3_144 cs_B _ pw _ _ [.int (nI 0), .ref o] _ 7 _ _ _ _ _ 5 _ _ _ _ _ (List.range' 1 wc.length) _ _ hM lk_X5_bill w_3_179 rfl dL_bill_7 rfl (cut1 _ _) (ndR _ _) hr ⟨by decide, by decide⟩ (Nat.le_of_ble_eq_true rfl) ⟨by decide, by decide⟩ (fun w q hw hf => ?_)
  rw [mrg1 _ hf]
  show ω9 _ [(0, .ref b), (1, .int v1), (2, .int v2), (3, .int v3), (4, .ref o)] [.ref q] 15
  refine r_astore C9 (lv' := [(5, .ref q), (0, .ref b), (1, .int v1), (2, .int v2), (3, .int v3), (4, .ref o)]) dL_bill_15 (by decide) rfl ?_
  refine r_iconst C9 dL_bill_17 ki_1 ?_
  exact RT.1 _ _ _ _ _ dL_bill_18 rfl rfl ⟨w, hw, rfl, rfl⟩ (by rw [List.map_cons, List.map_cons, hf])
set_option maxRecDepth 100000 in
theorem wn_bill_A {l : Launch} {E : Ev} {b o : Nat} {v1 : Int32} {v2 : Int32} {v3 : Int32} {g : Nat → Int64} {wc : va_W} {fs : List Value} {pw : va_W → Prop} (hM : Th l E yX5_bill cX5_bill 4 (some FieldType.int) 7 111 [.ref b, .int v1, .int v2, .int v3] wc pw "java/lang/IllegalArgumentException") (hr : wc[0]? = some (b, .inr (5, fs))) : CtX l E yL_bill method_7_code 6 (some FieldType.int) [(0, 12, 15, 28), (0, 12, 19, 13)] 8 134 [.ref b, .int v1, .int v2, .int v3, .ref o] ((o, .inl (eJ E, 1, .inr (.inl g))) :: wc) (WNo E o g pw 2) := by
  refine ctx_of (by decide +kernel) (Nat.le_of_ble_eq_true rfl) (fun ω ω9 C C9 RT up TC => ?_)
  show ω _ [(0, .ref b), (1, .int v1), (2, .int v2), (3, .int v3), (4, .ref o)] [] 0
  refine r_aload C (i := 4) 4 dL_bill_0 rfl ?_
  refine r_iconst C dL_bill_2 ki_0 ?_
  refine r_aload_n C (i := 0) 0 dL_bill_3 rfl rfl ?_
  refine r_iload_n C (i := 1) 1 dL_bill_4 rfl rfl ?_
  refine r_iload_n C (i := 2) 2 dL_bill_5 rfl rfl ?_
  refine r_iload_n C (i := 3) 3 dL_bill_6 rfl rfl ?_
  refine TC "java/lang/IllegalArgumentException" [(0, 12, 15, 28)] (0, 12, 19, 13) [] rfl (List.forall_mem_cons.mpr ⟨⟨by decide, "java/lang/IndexOutOfBoundsException", w_3_144, nc_AB⟩, fun _ h => absurd h List.not_mem_nil⟩) (by decide) w_2_153 cs_A _ pw _ _ [.int (nI 0), .ref o] _ 7 _ _ _ _ _ 5 _ _ _ _ _ (List.range' 1 wc.length) _ _ hM lk_X5_bill w_3_179 rfl dL_bill_7 rfl (cut1 _ _) (ndR _ _) hr ⟨by decide, by decide⟩ (Nat.le_of_ble_eq_true rfl) ⟨by decide, by decide⟩ (fun w q hw hf => ?_)
  rw [mrg1 _ hf]
  show ω9 _ [(0, .ref b), (1, .int v1), (2, .int v2), (3, .int v3), (4, .ref o)] [.ref q] 19
  refine r_astore C9 (lv' := [(5, .ref q), (0, .ref b), (1, .int v1), (2, .int v2), (3, .int v3), (4, .ref o)]) dL_bill_19 (by decide) rfl ?_
  refine r_iconst C9 dL_bill_21 ki_2 ?_
  exact RT.1 _ _ _ _ _ dL_bill_22 rfl rfl ⟨w, hw, rfl, rfl⟩ (by rw [List.map_cons, List.map_cons, hf])
set_option maxRecDepth 100000 in
theorem wo_night {l : Launch} {E : Ev} {b o : Nat} {v1 : Int32} {v2 : Int32} {g : Nat → Int64} {wc : va_W} {fs : List Value} {post : Option Value → va_W → Prop} (hM : Ct l E yX5_night cX5_night 3 (some FieldType.int) 7 110 [.ref b, .int v1, .int v2] wc post) (hq : PoR wc post) (hr : wc[0]? = some (b, .inr (5, fs))) : CtX l E yL_night method_8_code 5 (some FieldType.int) [(0, 10, 13, 28), (0, 10, 17, 13)] 8 132 [.ref b, .int v1, .int v2, .ref o] ((o, .inl (eJ E, 1, .inr (.inl g))) :: wc) (WOk E o g post) := by
  refine ctx_of (by decide +kernel) (Nat.le_of_ble_eq_true rfl) (fun ω ω9 C C9 RT up TC => ?_)
  refine up _ _ _ _ ?_
  show ω9 _ [(0, .ref b), (1, .int v1), (2, .int v2), (3, .ref o)] [] 0
  refine r_aload_n C9 (i := 3) 3 dL_night_0 rfl rfl ?_
  refine r_iconst C9 dL_night_1 ki_0 ?_
  refine r_aload_n C9 (i := 0) 0 dL_night_2 rfl rfl ?_
  refine r_iload_n C9 (i := 1) 1 dL_night_3 rfl rfl ?_
  refine r_iload_n C9 (i := 2) 2 dL_night_4 rfl rfl ?_
  refine r_callV (rest := [.int (nI 0), .ref o]) C9 hM lk_X5_night w_3_198 (List.range' 1 wc.length) (ci := 5) rfl dL_night_5 rfl (cut1 _ _) (ndR _ _) hr ⟨by decide, by decide⟩ (Nat.le_of_ble_eq_true rfl) (fun v w hp => ?_)
  obtain ⟨⟨r, rfl⟩, hf⟩ := hq v w hp
  rw [mrg1 _ hf]
  show ω9 _ [(0, .ref b), (1, .int v1), (2, .int v2), (3, .ref o)] [.int r, .int (nI 0), .ref o] 8
  refine r_i2l (v := r.toInt64) C9 dL_night_8 rfl ?_
  refine r_last (j := 0) (ws' := (o, .inl (eJ E, 1, .inr (.inl (vp_updL g 0 r.toInt64)))) :: w) C9 0 rfl (by decide) (by decide) rfl dL_night_9 ?_
  refine r_goto C9 21 dL_night_10 (by decide) ?_
  refine r_iconst C9 dL_night_21 ki_0 ?_
  exact RT.1 _ _ _ _ _ dL_night_22 rfl rfl ⟨r, w, hp, rfl, rfl⟩ (by rw [List.map_cons, List.map_cons, hf])
set_option maxRecDepth 100000 in
theorem wn_night_B {l : Launch} {E : Ev} {b o : Nat} {v1 : Int32} {v2 : Int32} {g : Nat → Int64} {wc : va_W} {fs : List Value} {pw : va_W → Prop} (hM : Th l E yX5_night cX5_night 3 (some FieldType.int) 7 110 [.ref b, .int v1, .int v2] wc pw "java/lang/IndexOutOfBoundsException") (hr : wc[0]? = some (b, .inr (5, fs))) : CtX l E yL_night method_8_code 5 (some FieldType.int) [(0, 10, 13, 28), (0, 10, 17, 13)] 8 132 [.ref b, .int v1, .int v2, .ref o] ((o, .inl (eJ E, 1, .inr (.inl g))) :: wc) (WNo E o g pw 1) := by
  refine ctx_of (by decide +kernel) (Nat.le_of_ble_eq_true rfl) (fun ω ω9 C C9 RT up TC => ?_)
  show ω _ [(0, .ref b), (1, .int v1), (2, .int v2), (3, .ref o)] [] 0
  refine r_aload_n C (i := 3) 3 dL_night_0 rfl rfl ?_
  refine r_iconst C dL_night_1 ki_0 ?_
  refine r_aload_n C (i := 0) 0 dL_night_2 rfl rfl ?_
  refine r_iload_n C (i := 1) 1 dL_night_3 rfl rfl ?_
  refine r_iload_n C (i := 2) 2 dL_night_4 rfl rfl ?_
  refine TC "java/lang/IndexOutOfBoundsException" [] (0, 10, 13, 28) [(0, 10, 17, 13)] rfl (fun _ h => absurd h List.not_mem_nil) (by decide) w_3_144 cs_B _ pw _ _ [.int (nI 0), .ref o] _ 5 _ _ _ _ _ 5 _ _ _ _ _ (List.range' 1 wc.length) _ _ hM lk_X5_night w_3_198 rfl dL_night_5 rfl (cut1 _ _) (ndR _ _) hr ⟨by decide, by decide⟩ (Nat.le_of_ble_eq_true rfl) ⟨by decide, by decide⟩ (fun w q hw hf => ?_)
  rw [mrg1 _ hf]
  show ω9 _ [(0, .ref b), (1, .int v1), (2, .int v2), (3, .ref o)] [.ref q] 13
  refine r_astore C9 (lv' := [(4, .ref q), (0, .ref b), (1, .int v1), (2, .int v2), (3, .ref o)]) dL_night_13 (by decide) rfl ?_
  refine r_iconst C9 dL_night_15 ki_1 ?_
  exact RT.1 _ _ _ _ _ dL_night_16 rfl rfl ⟨w, hw, rfl, rfl⟩ (by rw [List.map_cons, List.map_cons, hf])
set_option maxRecDepth 100000 in
theorem wn_night_A {l : Launch} {E : Ev} {b o : Nat} {v1 : Int32} {v2 : Int32} {g : Nat → Int64} {wc : va_W} {fs : List Value} {pw : va_W → Prop} (hM : Th l E yX5_night cX5_night 3 (some FieldType.int) 7 110 [.ref b, .int v1, .int v2] wc pw "java/lang/IllegalArgumentException") (hr : wc[0]? = some (b, .inr (5, fs))) : CtX l E yL_night method_8_code 5 (some FieldType.int) [(0, 10, 13, 28), (0, 10, 17, 13)] 8 132 [.ref b, .int v1, .int v2, .ref o] ((o, .inl (eJ E, 1, .inr (.inl g))) :: wc) (WNo E o g pw 2) := by
  refine ctx_of (by decide +kernel) (Nat.le_of_ble_eq_true rfl) (fun ω ω9 C C9 RT up TC => ?_)
  show ω _ [(0, .ref b), (1, .int v1), (2, .int v2), (3, .ref o)] [] 0
  refine r_aload_n C (i := 3) 3 dL_night_0 rfl rfl ?_
  refine r_iconst C dL_night_1 ki_0 ?_
  refine r_aload_n C (i := 0) 0 dL_night_2 rfl rfl ?_
  refine r_iload_n C (i := 1) 1 dL_night_3 rfl rfl ?_
  refine r_iload_n C (i := 2) 2 dL_night_4 rfl rfl ?_
  refine TC "java/lang/IllegalArgumentException" [(0, 10, 13, 28)] (0, 10, 17, 13) [] rfl (List.forall_mem_cons.mpr ⟨⟨by decide, "java/lang/IndexOutOfBoundsException", w_3_144, nc_AB⟩, fun _ h => absurd h List.not_mem_nil⟩) (by decide) w_2_153 cs_A _ pw _ _ [.int (nI 0), .ref o] _ 5 _ _ _ _ _ 5 _ _ _ _ _ (List.range' 1 wc.length) _ _ hM lk_X5_night w_3_198 rfl dL_night_5 rfl (cut1 _ _) (ndR _ _) hr ⟨by decide, by decide⟩ (Nat.le_of_ble_eq_true rfl) ⟨by decide, by decide⟩ (fun w q hw hf => ?_)
  rw [mrg1 _ hf]
  show ω9 _ [(0, .ref b), (1, .int v1), (2, .int v2), (3, .ref o)] [.ref q] 17
  refine r_astore C9 (lv' := [(4, .ref q), (0, .ref b), (1, .int v1), (2, .int v2), (3, .ref o)]) dL_night_17 (by decide) rfl ?_
  refine r_iconst C9 dL_night_19 ki_2 ?_
  exact RT.1 _ _ _ _ _ dL_night_20 rfl rfl ⟨w, hw, rfl, rfl⟩ (by rw [List.map_cons, List.map_cons, hf])
set_option maxRecDepth 100000 in
theorem wo_actor {l : Launch} {E : Ev} {b o : Nat} {v1 : Int32} {v2 : Int32} {g : Nat → Int64} {wc : va_W} {fs : List Value} {post : Option Value → va_W → Prop} (hM : Ct l E yX5_actor cX5_actor 3 (some FieldType.int) 7 119 [.ref b, .int v1, .int v2] wc post) (hq : PoR wc post) (hr : wc[0]? = some (b, .inr (5, fs))) : CtX l E yL_actor method_9_code 5 (some FieldType.int) [(0, 10, 13, 28), (0, 10, 17, 13)] 8 141 [.ref b, .int v1, .int v2, .ref o] ((o, .inl (eJ E, 1, .inr (.inl g))) :: wc) (WOk E o g post) := by
  refine ctx_of (by decide +kernel) (Nat.le_of_ble_eq_true rfl) (fun ω ω9 C C9 RT up TC => ?_)
  refine up _ _ _ _ ?_
  show ω9 _ [(0, .ref b), (1, .int v1), (2, .int v2), (3, .ref o)] [] 0
  refine r_aload_n C9 (i := 3) 3 dL_actor_0 rfl rfl ?_
  refine r_iconst C9 dL_actor_1 ki_0 ?_
  refine r_aload_n C9 (i := 0) 0 dL_actor_2 rfl rfl ?_
  refine r_iload_n C9 (i := 1) 1 dL_actor_3 rfl rfl ?_
  refine r_iload_n C9 (i := 2) 2 dL_actor_4 rfl rfl ?_
  refine r_callV (rest := [.int (nI 0), .ref o]) C9 hM lk_X5_actor w_3_216 (List.range' 1 wc.length) (ci := 5) rfl dL_actor_5 rfl (cut1 _ _) (ndR _ _) hr ⟨by decide, by decide⟩ (Nat.le_of_ble_eq_true rfl) (fun v w hp => ?_)
  obtain ⟨⟨r, rfl⟩, hf⟩ := hq v w hp
  rw [mrg1 _ hf]
  show ω9 _ [(0, .ref b), (1, .int v1), (2, .int v2), (3, .ref o)] [.int r, .int (nI 0), .ref o] 8
  refine r_i2l (v := r.toInt64) C9 dL_actor_8 rfl ?_
  refine r_last (j := 0) (ws' := (o, .inl (eJ E, 1, .inr (.inl (vp_updL g 0 r.toInt64)))) :: w) C9 0 rfl (by decide) (by decide) rfl dL_actor_9 ?_
  refine r_goto C9 21 dL_actor_10 (by decide) ?_
  refine r_iconst C9 dL_actor_21 ki_0 ?_
  exact RT.1 _ _ _ _ _ dL_actor_22 rfl rfl ⟨r, w, hp, rfl, rfl⟩ (by rw [List.map_cons, List.map_cons, hf])
set_option maxRecDepth 100000 in
theorem wn_actor_B {l : Launch} {E : Ev} {b o : Nat} {v1 : Int32} {v2 : Int32} {g : Nat → Int64} {wc : va_W} {fs : List Value} {pw : va_W → Prop} (hM : Th l E yX5_actor cX5_actor 3 (some FieldType.int) 7 119 [.ref b, .int v1, .int v2] wc pw "java/lang/IndexOutOfBoundsException") (hr : wc[0]? = some (b, .inr (5, fs))) : CtX l E yL_actor method_9_code 5 (some FieldType.int) [(0, 10, 13, 28), (0, 10, 17, 13)] 8 141 [.ref b, .int v1, .int v2, .ref o] ((o, .inl (eJ E, 1, .inr (.inl g))) :: wc) (WNo E o g pw 1) := by
  refine ctx_of (by decide +kernel) (Nat.le_of_ble_eq_true rfl) (fun ω ω9 C C9 RT up TC => ?_)
  show ω _ [(0, .ref b), (1, .int v1), (2, .int v2), (3, .ref o)] [] 0
  refine r_aload_n C (i := 3) 3 dL_actor_0 rfl rfl ?_
  refine r_iconst C dL_actor_1 ki_0 ?_
  refine r_aload_n C (i := 0) 0 dL_actor_2 rfl rfl ?_
  refine r_iload_n C (i := 1) 1 dL_actor_3 rfl rfl ?_
  refine r_iload_n C (i := 2) 2 dL_actor_4 rfl rfl ?_
  refine TC "java/lang/IndexOutOfBoundsException" [] (0, 10, 13, 28) [(0, 10, 17, 13)] rfl (fun _ h => absurd h List.not_mem_nil) (by decide) w_3_144 cs_B _ pw _ _ [.int (nI 0), .ref o] _ 5 _ _ _ _ _ 5 _ _ _ _ _ (List.range' 1 wc.length) _ _ hM lk_X5_actor w_3_216 rfl dL_actor_5 rfl (cut1 _ _) (ndR _ _) hr ⟨by decide, by decide⟩ (Nat.le_of_ble_eq_true rfl) ⟨by decide, by decide⟩ (fun w q hw hf => ?_)
  rw [mrg1 _ hf]
  show ω9 _ [(0, .ref b), (1, .int v1), (2, .int v2), (3, .ref o)] [.ref q] 13
  refine r_astore C9 (lv' := [(4, .ref q), (0, .ref b), (1, .int v1), (2, .int v2), (3, .ref o)]) dL_actor_13 (by decide) rfl ?_
  refine r_iconst C9 dL_actor_15 ki_1 ?_
  exact RT.1 _ _ _ _ _ dL_actor_16 rfl rfl ⟨w, hw, rfl, rfl⟩ (by rw [List.map_cons, List.map_cons, hf])
set_option maxRecDepth 100000 in
theorem wn_actor_A {l : Launch} {E : Ev} {b o : Nat} {v1 : Int32} {v2 : Int32} {g : Nat → Int64} {wc : va_W} {fs : List Value} {pw : va_W → Prop} (hM : Th l E yX5_actor cX5_actor 3 (some FieldType.int) 7 119 [.ref b, .int v1, .int v2] wc pw "java/lang/IllegalArgumentException") (hr : wc[0]? = some (b, .inr (5, fs))) : CtX l E yL_actor method_9_code 5 (some FieldType.int) [(0, 10, 13, 28), (0, 10, 17, 13)] 8 141 [.ref b, .int v1, .int v2, .ref o] ((o, .inl (eJ E, 1, .inr (.inl g))) :: wc) (WNo E o g pw 2) := by
  refine ctx_of (by decide +kernel) (Nat.le_of_ble_eq_true rfl) (fun ω ω9 C C9 RT up TC => ?_)
  show ω _ [(0, .ref b), (1, .int v1), (2, .int v2), (3, .ref o)] [] 0
  refine r_aload_n C (i := 3) 3 dL_actor_0 rfl rfl ?_
  refine r_iconst C dL_actor_1 ki_0 ?_
  refine r_aload_n C (i := 0) 0 dL_actor_2 rfl rfl ?_
  refine r_iload_n C (i := 1) 1 dL_actor_3 rfl rfl ?_
  refine r_iload_n C (i := 2) 2 dL_actor_4 rfl rfl ?_
  refine TC "java/lang/IllegalArgumentException" [(0, 10, 13, 28)] (0, 10, 17, 13) [] rfl (List.forall_mem_cons.mpr ⟨⟨by decide, "java/lang/IndexOutOfBoundsException", w_3_144, nc_AB⟩, fun _ h => absurd h List.not_mem_nil⟩) (by decide) w_2_153 cs_A _ pw _ _ [.int (nI 0), .ref o] _ 5 _ _ _ _ _ 5 _ _ _ _ _ (List.range' 1 wc.length) _ _ hM lk_X5_actor w_3_216 rfl dL_actor_5 rfl (cut1 _ _) (ndR _ _) hr ⟨by decide, by decide⟩ (Nat.le_of_ble_eq_true rfl) ⟨by decide, by decide⟩ (fun w q hw hf => ?_)
  rw [mrg1 _ hf]
  show ω9 _ [(0, .ref b), (1, .int v1), (2, .int v2), (3, .ref o)] [.ref q] 17
  refine r_astore C9 (lv' := [(4, .ref q), (0, .ref b), (1, .int v1), (2, .int v2), (3, .ref o)]) dL_actor_17 (by decide) rfl ?_
  refine r_iconst C9 dL_actor_19 ki_2 ?_
  exact RT.1 _ _ _ _ _ dL_actor_20 rfl rfl ⟨w, hw, rfl, rfl⟩ (by rw [List.map_cons, List.map_cons, hf])
set_option maxRecDepth 100000 in
theorem wo_ranked {l : Launch} {E : Ev} {b o : Nat} {v1 : Int32} {v2 : Int32} {g : Nat → Int64} {wc : va_W} {fs : List Value} {post : Option Value → va_W → Prop} (hM : Ct l E yX5_ranked cX5_ranked 3 (some FieldType.int) 7 111 [.ref b, .int v1, .int v2] wc post) (hq : PoR wc post) (hr : wc[0]? = some (b, .inr (5, fs))) : CtX l E yL_ranked method_10_code 5 (some FieldType.int) [(0, 10, 13, 28), (0, 10, 17, 13)] 8 133 [.ref b, .int v1, .int v2, .ref o] ((o, .inl (eJ E, 1, .inr (.inl g))) :: wc) (WOk E o g post) := by
  refine ctx_of (by decide +kernel) (Nat.le_of_ble_eq_true rfl) (fun ω ω9 C C9 RT up TC => ?_)
  refine up _ _ _ _ ?_
  show ω9 _ [(0, .ref b), (1, .int v1), (2, .int v2), (3, .ref o)] [] 0
  refine r_aload_n C9 (i := 3) 3 dL_ranked_0 rfl rfl ?_
  refine r_iconst C9 dL_ranked_1 ki_0 ?_
  refine r_aload_n C9 (i := 0) 0 dL_ranked_2 rfl rfl ?_
  refine r_iload_n C9 (i := 1) 1 dL_ranked_3 rfl rfl ?_
  refine r_iload_n C9 (i := 2) 2 dL_ranked_4 rfl rfl ?_
  refine r_callV (rest := [.int (nI 0), .ref o]) C9 hM lk_X5_ranked w_4_17 (List.range' 1 wc.length) (ci := 5) rfl dL_ranked_5 rfl (cut1 _ _) (ndR _ _) hr ⟨by decide, by decide⟩ (Nat.le_of_ble_eq_true rfl) (fun v w hp => ?_)
  obtain ⟨⟨r, rfl⟩, hf⟩ := hq v w hp
  rw [mrg1 _ hf]
  show ω9 _ [(0, .ref b), (1, .int v1), (2, .int v2), (3, .ref o)] [.int r, .int (nI 0), .ref o] 8
  refine r_i2l (v := r.toInt64) C9 dL_ranked_8 rfl ?_
  refine r_last (j := 0) (ws' := (o, .inl (eJ E, 1, .inr (.inl (vp_updL g 0 r.toInt64)))) :: w) C9 0 rfl (by decide) (by decide) rfl dL_ranked_9 ?_
  refine r_goto C9 21 dL_ranked_10 (by decide) ?_
  refine r_iconst C9 dL_ranked_21 ki_0 ?_
  exact RT.1 _ _ _ _ _ dL_ranked_22 rfl rfl ⟨r, w, hp, rfl, rfl⟩ (by rw [List.map_cons, List.map_cons, hf])
set_option maxRecDepth 100000 in
theorem wn_ranked_B {l : Launch} {E : Ev} {b o : Nat} {v1 : Int32} {v2 : Int32} {g : Nat → Int64} {wc : va_W} {fs : List Value} {pw : va_W → Prop} (hM : Th l E yX5_ranked cX5_ranked 3 (some FieldType.int) 7 111 [.ref b, .int v1, .int v2] wc pw "java/lang/IndexOutOfBoundsException") (hr : wc[0]? = some (b, .inr (5, fs))) : CtX l E yL_ranked method_10_code 5 (some FieldType.int) [(0, 10, 13, 28), (0, 10, 17, 13)] 8 133 [.ref b, .int v1, .int v2, .ref o] ((o, .inl (eJ E, 1, .inr (.inl g))) :: wc) (WNo E o g pw 1) := by
  refine ctx_of (by decide +kernel) (Nat.le_of_ble_eq_true rfl) (fun ω ω9 C C9 RT up TC => ?_)
  show ω _ [(0, .ref b), (1, .int v1), (2, .int v2), (3, .ref o)] [] 0
  refine r_aload_n C (i := 3) 3 dL_ranked_0 rfl rfl ?_
  refine r_iconst C dL_ranked_1 ki_0 ?_
  refine r_aload_n C (i := 0) 0 dL_ranked_2 rfl rfl ?_
  refine r_iload_n C (i := 1) 1 dL_ranked_3 rfl rfl ?_
  refine r_iload_n C (i := 2) 2 dL_ranked_4 rfl rfl ?_
  refine TC "java/lang/IndexOutOfBoundsException" [] (0, 10, 13, 28) [(0, 10, 17, 13)] rfl (fun _ h => absurd h List.not_mem_nil) (by decide) w_3_144 cs_B _ pw _ _ [.int (nI 0), .ref o] _ 5 _ _ _ _ _ 5 _ _ _ _ _ (List.range' 1 wc.length) _ _ hM lk_X5_ranked w_4_17 rfl dL_ranked_5 rfl (cut1 _ _) (ndR _ _) hr ⟨by decide, by decide⟩ (Nat.le_of_ble_eq_true rfl) ⟨by decide, by decide⟩ (fun w q hw hf => ?_)
  rw [mrg1 _ hf]
  show ω9 _ [(0, .ref b), (1, .int v1), (2, .int v2), (3, .ref o)] [.ref q] 13
  refine r_astore C9 (lv' := [(4, .ref q), (0, .ref b), (1, .int v1), (2, .int v2), (3, .ref o)]) dL_ranked_13 (by decide) rfl ?_
  refine r_iconst C9 dL_ranked_15 ki_1 ?_
  exact RT.1 _ _ _ _ _ dL_ranked_16 rfl rfl ⟨w, hw, rfl, rfl⟩ (by rw [List.map_cons, List.map_cons, hf])
set_option maxRecDepth 100000 in
theorem wn_ranked_A {l : Launch} {E : Ev} {b o : Nat} {v1 : Int32} {v2 : Int32} {g : Nat → Int64} {wc : va_W} {fs : List Value} {pw : va_W → Prop} (hM : Th l E yX5_ranked cX5_ranked 3 (some FieldType.int) 7 111 [.ref b, .int v1, .int v2] wc pw "java/lang/IllegalArgumentException") (hr : wc[0]? = some (b, .inr (5, fs))) : CtX l E yL_ranked method_10_code 5 (some FieldType.int) [(0, 10, 13, 28), (0, 10, 17, 13)] 8 133 [.ref b, .int v1, .int v2, .ref o] ((o, .inl (eJ E, 1, .inr (.inl g))) :: wc) (WNo E o g pw 2) := by
  refine ctx_of (by decide +kernel) (Nat.le_of_ble_eq_true rfl) (fun ω ω9 C C9 RT up TC => ?_)
  show ω _ [(0, .ref b), (1, .int v1), (2, .int v2), (3, .ref o)] [] 0
  refine r_aload_n C (i := 3) 3 dL_ranked_0 rfl rfl ?_
  refine r_iconst C dL_ranked_1 ki_0 ?_
  refine r_aload_n C (i := 0) 0 dL_ranked_2 rfl rfl ?_
  refine r_iload_n C (i := 1) 1 dL_ranked_3 rfl rfl ?_
  refine r_iload_n C (i := 2) 2 dL_ranked_4 rfl rfl ?_
  refine TC "java/lang/IllegalArgumentException" [(0, 10, 13, 28)] (0, 10, 17, 13) [] rfl (List.forall_mem_cons.mpr ⟨⟨by decide, "java/lang/IndexOutOfBoundsException", w_3_144, nc_AB⟩, fun _ h => absurd h List.not_mem_nil⟩) (by decide) w_2_153 cs_A _ pw _ _ [.int (nI 0), .ref o] _ 5 _ _ _ _ _ 5 _ _ _ _ _ (List.range' 1 wc.length) _ _ hM lk_X5_ranked w_4_17 rfl dL_ranked_5 rfl (cut1 _ _) (ndR _ _) hr ⟨by decide, by decide⟩ (Nat.le_of_ble_eq_true rfl) ⟨by decide, by decide⟩ (fun w q hw hf => ?_)
  rw [mrg1 _ hf]
  show ω9 _ [(0, .ref b), (1, .int v1), (2, .int v2), (3, .ref o)] [.ref q] 17
  refine r_astore C9 (lv' := [(4, .ref q), (0, .ref b), (1, .int v1), (2, .int v2), (3, .ref o)]) dL_ranked_17 (by decide) rfl ?_
  refine r_iconst C9 dL_ranked_19 ki_2 ?_
  exact RT.1 _ _ _ _ _ dL_ranked_20 rfl rfl ⟨w, hw, rfl, rfl⟩ (by rw [List.map_cons, List.map_cons, hf])
set_option maxRecDepth 100000 in
theorem wo_found {l : Launch} {E : Ev} {b o : Nat} {v1 : Int32} {v2 : Int32} {g : Nat → Int64} {wc : va_W} {fs : List Value} {post : Option Value → va_W → Prop} (hM : Ct l E yX5_found cX5_found 3 (some FieldType.int) 7 111 [.ref b, .int v1, .int v2] wc post) (hq : PoR wc post) (hr : wc[0]? = some (b, .inr (5, fs))) : CtX l E yL_found method_11_code 5 (some FieldType.int) [(0, 10, 13, 28), (0, 10, 17, 13)] 8 133 [.ref b, .int v1, .int v2, .ref o] ((o, .inl (eJ E, 1, .inr (.inl g))) :: wc) (WOk E o g post) := by
  refine ctx_of (by decide +kernel) (Nat.le_of_ble_eq_true rfl) (fun ω ω9 C C9 RT up TC => ?_)
  refine up _ _ _ _ ?_
  show ω9 _ [(0, .ref b), (1, .int v1), (2, .int v2), (3, .ref o)] [] 0
  refine r_aload_n C9 (i := 3) 3 dL_found_0 rfl rfl ?_
  refine r_iconst C9 dL_found_1 ki_0 ?_
  refine r_aload_n C9 (i := 0) 0 dL_found_2 rfl rfl ?_
  refine r_iload_n C9 (i := 1) 1 dL_found_3 rfl rfl ?_
  refine r_iload_n C9 (i := 2) 2 dL_found_4 rfl rfl ?_
  refine r_callV (rest := [.int (nI 0), .ref o]) C9 hM lk_X5_found w_4_26 (List.range' 1 wc.length) (ci := 5) rfl dL_found_5 rfl (cut1 _ _) (ndR _ _) hr ⟨by decide, by decide⟩ (Nat.le_of_ble_eq_true rfl) (fun v w hp => ?_)
  obtain ⟨⟨r, rfl⟩, hf⟩ := hq v w hp
  rw [mrg1 _ hf]
  show ω9 _ [(0, .ref b), (1, .int v1), (2, .int v2), (3, .ref o)] [.int r, .int (nI 0), .ref o] 8
  refine r_i2l (v := r.toInt64) C9 dL_found_8 rfl ?_
  refine r_last (j := 0) (ws' := (o, .inl (eJ E, 1, .inr (.inl (vp_updL g 0 r.toInt64)))) :: w) C9 0 rfl (by decide) (by decide) rfl dL_found_9 ?_
  refine r_goto C9 21 dL_found_10 (by decide) ?_
  refine r_iconst C9 dL_found_21 ki_0 ?_
  exact RT.1 _ _ _ _ _ dL_found_22 rfl rfl ⟨r, w, hp, rfl, rfl⟩ (by rw [List.map_cons, List.map_cons, hf])
set_option maxRecDepth 100000 in
theorem wn_found_B {l : Launch} {E : Ev} {b o : Nat} {v1 : Int32} {v2 : Int32} {g : Nat → Int64} {wc : va_W} {fs : List Value} {pw : va_W → Prop} (hM : Th l E yX5_found cX5_found 3 (some FieldType.int) 7 111 [.ref b, .int v1, .int v2] wc pw "java/lang/IndexOutOfBoundsException") (hr : wc[0]? = some (b, .inr (5, fs))) : CtX l E yL_found method_11_code 5 (some FieldType.int) [(0, 10, 13, 28), (0, 10, 17, 13)] 8 133 [.ref b, .int v1, .int v2, .ref o] ((o, .inl (eJ E, 1, .inr (.inl g))) :: wc) (WNo E o g pw 1) := by
  refine ctx_of (by decide +kernel) (Nat.le_of_ble_eq_true rfl) (fun ω ω9 C C9 RT up TC => ?_)
  show ω _ [(0, .ref b), (1, .int v1), (2, .int v2), (3, .ref o)] [] 0
  refine r_aload_n C (i := 3) 3 dL_found_0 rfl rfl ?_
  refine r_iconst C dL_found_1 ki_0 ?_
  refine r_aload_n C (i := 0) 0 dL_found_2 rfl rfl ?_
  refine r_iload_n C (i := 1) 1 dL_found_3 rfl rfl ?_
  refine r_iload_n C (i := 2) 2 dL_found_4 rfl rfl ?_
  refine TC "java/lang/IndexOutOfBoundsException" [] (0, 10, 13, 28) [(0, 10, 17, 13)] rfl (fun _ h => absurd h List.not_mem_nil) (by decide) w_3_144 cs_B _ pw _ _ [.int (nI 0), .ref o] _ 5 _ _ _ _ _ 5 _ _ _ _ _ (List.range' 1 wc.length) _ _ hM lk_X5_found w_4_26 rfl dL_found_5 rfl (cut1 _ _) (ndR _ _) hr ⟨by decide, by decide⟩ (Nat.le_of_ble_eq_true rfl) ⟨by decide, by decide⟩ (fun w q hw hf => ?_)
  rw [mrg1 _ hf]
  show ω9 _ [(0, .ref b), (1, .int v1), (2, .int v2), (3, .ref o)] [.ref q] 13
  refine r_astore C9 (lv' := [(4, .ref q), (0, .ref b), (1, .int v1), (2, .int v2), (3, .ref o)]) dL_found_13 (by decide) rfl ?_
  refine r_iconst C9 dL_found_15 ki_1 ?_
  exact RT.1 _ _ _ _ _ dL_found_16 rfl rfl ⟨w, hw, rfl, rfl⟩ (by rw [List.map_cons, List.map_cons, hf])
set_option maxRecDepth 100000 in
theorem wn_found_A {l : Launch} {E : Ev} {b o : Nat} {v1 : Int32} {v2 : Int32} {g : Nat → Int64} {wc : va_W} {fs : List Value} {pw : va_W → Prop} (hM : Th l E yX5_found cX5_found 3 (some FieldType.int) 7 111 [.ref b, .int v1, .int v2] wc pw "java/lang/IllegalArgumentException") (hr : wc[0]? = some (b, .inr (5, fs))) : CtX l E yL_found method_11_code 5 (some FieldType.int) [(0, 10, 13, 28), (0, 10, 17, 13)] 8 133 [.ref b, .int v1, .int v2, .ref o] ((o, .inl (eJ E, 1, .inr (.inl g))) :: wc) (WNo E o g pw 2) := by
  refine ctx_of (by decide +kernel) (Nat.le_of_ble_eq_true rfl) (fun ω ω9 C C9 RT up TC => ?_)
  show ω _ [(0, .ref b), (1, .int v1), (2, .int v2), (3, .ref o)] [] 0
  refine r_aload_n C (i := 3) 3 dL_found_0 rfl rfl ?_
  refine r_iconst C dL_found_1 ki_0 ?_
  refine r_aload_n C (i := 0) 0 dL_found_2 rfl rfl ?_
  refine r_iload_n C (i := 1) 1 dL_found_3 rfl rfl ?_
  refine r_iload_n C (i := 2) 2 dL_found_4 rfl rfl ?_
  refine TC "java/lang/IllegalArgumentException" [(0, 10, 13, 28)] (0, 10, 17, 13) [] rfl (List.forall_mem_cons.mpr ⟨⟨by decide, "java/lang/IndexOutOfBoundsException", w_3_144, nc_AB⟩, fun _ h => absurd h List.not_mem_nil⟩) (by decide) w_2_153 cs_A _ pw _ _ [.int (nI 0), .ref o] _ 5 _ _ _ _ _ 5 _ _ _ _ _ (List.range' 1 wc.length) _ _ hM lk_X5_found w_4_26 rfl dL_found_5 rfl (cut1 _ _) (ndR _ _) hr ⟨by decide, by decide⟩ (Nat.le_of_ble_eq_true rfl) ⟨by decide, by decide⟩ (fun w q hw hf => ?_)
  rw [mrg1 _ hf]
  show ω9 _ [(0, .ref b), (1, .int v1), (2, .int v2), (3, .ref o)] [.ref q] 17
  refine r_astore C9 (lv' := [(4, .ref q), (0, .ref b), (1, .int v1), (2, .int v2), (3, .ref o)]) dL_found_17 (by decide) rfl ?_
  refine r_iconst C9 dL_found_19 ki_2 ?_
  exact RT.1 _ _ _ _ _ dL_found_20 rfl rfl ⟨w, hw, rfl, rfl⟩ (by rw [List.map_cons, List.map_cons, hf])
set_option maxRecDepth 100000 in
theorem wo_setting {l : Launch} {E : Ev} {b o : Nat} {v1 : Int32} {g : Nat → Int64} {wc : va_W} {fs : List Value} {post : Option Value → va_W → Prop} (hM : Ct l E yX5_setting cX5_setting 2 (some FieldType.int) 7 110 [.ref b, .int v1] wc post) (hq : PoR wc post) (hr : wc[0]? = some (b, .inr (5, fs))) : CtX l E yL_setting method_12_code 4 (some FieldType.int) [(0, 9, 12, 13)] 8 131 [.ref b, .int v1, .ref o] ((o, .inl (eJ E, 1, .inr (.inl g))) :: wc) (WOk E o g post) := by
  refine ctx_of (by decide +kernel) (Nat.le_of_ble_eq_true rfl) (fun ω ω9 C C9 RT up TC => ?_)
  refine up _ _ _ _ ?_
  show ω9 _ [(0, .ref b), (1, .int v1), (2, .ref o)] [] 0
  refine r_aload_n C9 (i := 2) 2 dL_setting_0 rfl rfl ?_
  refine r_iconst C9 dL_setting_1 ki_0 ?_
  refine r_aload_n C9 (i := 0) 0 dL_setting_2 rfl rfl ?_
  refine r_iload_n C9 (i := 1) 1 dL_setting_3 rfl rfl ?_
  refine r_callV (rest := [.int (nI 0), .ref o]) C9 hM lk_X5_setting w_4_47 (List.range' 1 wc.length) (ci := 5) rfl dL_setting_4 rfl (cut1 _ _) (ndR _ _) hr ⟨by decide, by decide⟩ (Nat.le_of_ble_eq_true rfl) (fun v w hp => ?_)
  obtain ⟨⟨r, rfl⟩, hf⟩ := hq v w hp
  rw [mrg1 _ hf]
  show ω9 _ [(0, .ref b), (1, .int v1), (2, .ref o)] [.int r, .int (nI 0), .ref o] 7
  refine r_i2l (v := r.toInt64) C9 dL_setting_7 rfl ?_
  refine r_last (j := 0) (ws' := (o, .inl (eJ E, 1, .inr (.inl (vp_updL g 0 r.toInt64)))) :: w) C9 0 rfl (by decide) (by decide) rfl dL_setting_8 ?_
  refine r_goto C9 15 dL_setting_9 (by decide) ?_
  refine r_iconst C9 dL_setting_15 ki_0 ?_
  exact RT.1 _ _ _ _ _ dL_setting_16 rfl rfl ⟨r, w, hp, rfl, rfl⟩ (by rw [List.map_cons, List.map_cons, hf])
set_option maxRecDepth 100000 in
theorem wn_setting_A {l : Launch} {E : Ev} {b o : Nat} {v1 : Int32} {g : Nat → Int64} {wc : va_W} {fs : List Value} {pw : va_W → Prop} (hM : Th l E yX5_setting cX5_setting 2 (some FieldType.int) 7 110 [.ref b, .int v1] wc pw "java/lang/IllegalArgumentException") (hr : wc[0]? = some (b, .inr (5, fs))) : CtX l E yL_setting method_12_code 4 (some FieldType.int) [(0, 9, 12, 13)] 8 131 [.ref b, .int v1, .ref o] ((o, .inl (eJ E, 1, .inr (.inl g))) :: wc) (WNo E o g pw 1) := by
  refine ctx_of (by decide +kernel) (Nat.le_of_ble_eq_true rfl) (fun ω ω9 C C9 RT up TC => ?_)
  show ω _ [(0, .ref b), (1, .int v1), (2, .ref o)] [] 0
  refine r_aload_n C (i := 2) 2 dL_setting_0 rfl rfl ?_
  refine r_iconst C dL_setting_1 ki_0 ?_
  refine r_aload_n C (i := 0) 0 dL_setting_2 rfl rfl ?_
  refine r_iload_n C (i := 1) 1 dL_setting_3 rfl rfl ?_
  refine TC "java/lang/IllegalArgumentException" [] (0, 9, 12, 13) [] rfl (fun _ h => absurd h List.not_mem_nil) (by decide) w_2_153 cs_A _ pw _ _ [.int (nI 0), .ref o] _ 4 _ _ _ _ _ 5 _ _ _ _ _ (List.range' 1 wc.length) _ _ hM lk_X5_setting w_4_47 rfl dL_setting_4 rfl (cut1 _ _) (ndR _ _) hr ⟨by decide, by decide⟩ (Nat.le_of_ble_eq_true rfl) ⟨by decide, by decide⟩ (fun w q hw hf => ?_)
  rw [mrg1 _ hf]
  show ω9 _ [(0, .ref b), (1, .int v1), (2, .ref o)] [.ref q] 12
  refine r_astore_n C9 (lv' := [(3, .ref q), (0, .ref b), (1, .int v1), (2, .ref o)]) dL_setting_12 rfl (by decide) rfl ?_
  refine r_iconst C9 dL_setting_13 ki_1 ?_
  exact RT.1 _ _ _ _ _ dL_setting_14 rfl rfl ⟨w, hw, rfl, rfl⟩ (by rw [List.map_cons, List.map_cons, hf])
set_option maxRecDepth 100000 in
theorem wo_addActor {l : Launch} {E : Ev} {b o : Nat} {v1 : Int32} {g : Nat → Int64} {wc : va_W} {fs : List Value} {post : Option Value → va_W → Prop} (hM : Ct l E yX5_addActor cX5_addActor 3 (some FieldType.int) 6 90 [.ref b, .int v1] wc post) (hq : PoR wc post) (hr : wc[0]? = some (b, .inr (5, fs))) : CtX l E yL_addActor method_13_code 4 (some FieldType.int) [(0, 9, 12, 13), (0, 9, 15, 15)] 7 112 [.ref b, .int v1, .ref o] ((o, .inl (eJ E, 1, .inr (.inl g))) :: wc) (WOk E o g post) := by
  refine ctx_of (by decide +kernel) (Nat.le_of_ble_eq_true rfl) (fun ω ω9 C C9 RT up TC => ?_)
  refine up _ _ _ _ ?_
  show ω9 _ [(0, .ref b), (1, .int v1), (2, .ref o)] [] 0
  refine r_aload_n C9 (i := 2) 2 dL_addActor_0 rfl rfl ?_
  refine r_iconst C9 dL_addActor_1 ki_0 ?_
  refine r_aload_n C9 (i := 0) 0 dL_addActor_2 rfl rfl ?_
  refine r_iload_n C9 (i := 1) 1 dL_addActor_3 rfl rfl ?_
  refine r_callV (rest := [.int (nI 0), .ref o]) C9 hM lk_X5_addActor w_4_59 (List.range' 1 wc.length) (ci := 5) rfl dL_addActor_4 rfl (cut1 _ _) (ndR _ _) hr ⟨by decide, by decide⟩ (Nat.le_of_ble_eq_true rfl) (fun v w hp => ?_)
  obtain ⟨⟨r, rfl⟩, hf⟩ := hq v w hp
  rw [mrg1 _ hf]
  show ω9 _ [(0, .ref b), (1, .int v1), (2, .ref o)] [.int r, .int (nI 0), .ref o] 7
  refine r_i2l (v := r.toInt64) C9 dL_addActor_7 rfl ?_
  refine r_last (j := 0) (ws' := (o, .inl (eJ E, 1, .inr (.inl (vp_updL g 0 r.toInt64)))) :: w) C9 0 rfl (by decide) (by decide) rfl dL_addActor_8 ?_
  refine r_goto C9 18 dL_addActor_9 (by decide) ?_
  refine r_iconst C9 dL_addActor_18 ki_0 ?_
  exact RT.1 _ _ _ _ _ dL_addActor_19 rfl rfl ⟨r, w, hp, rfl, rfl⟩ (by rw [List.map_cons, List.map_cons, hf])
set_option maxRecDepth 100000 in
theorem wn_addActor_A {l : Launch} {E : Ev} {b o : Nat} {v1 : Int32} {g : Nat → Int64} {wc : va_W} {fs : List Value} {pw : va_W → Prop} (hM : Th l E yX5_addActor cX5_addActor 3 (some FieldType.int) 6 90 [.ref b, .int v1] wc pw "java/lang/IllegalArgumentException") (hr : wc[0]? = some (b, .inr (5, fs))) : CtX l E yL_addActor method_13_code 4 (some FieldType.int) [(0, 9, 12, 13), (0, 9, 15, 15)] 7 112 [.ref b, .int v1, .ref o] ((o, .inl (eJ E, 1, .inr (.inl g))) :: wc) (WNo E o g pw 1) := by
  refine ctx_of (by decide +kernel) (Nat.le_of_ble_eq_true rfl) (fun ω ω9 C C9 RT up TC => ?_)
  show ω _ [(0, .ref b), (1, .int v1), (2, .ref o)] [] 0
  refine r_aload_n C (i := 2) 2 dL_addActor_0 rfl rfl ?_
  refine r_iconst C dL_addActor_1 ki_0 ?_
  refine r_aload_n C (i := 0) 0 dL_addActor_2 rfl rfl ?_
  refine r_iload_n C (i := 1) 1 dL_addActor_3 rfl rfl ?_
  refine TC "java/lang/IllegalArgumentException" [] (0, 9, 12, 13) [(0, 9, 15, 15)] rfl (fun _ h => absurd h List.not_mem_nil) (by decide) w_2_153 cs_A _ pw _ _ [.int (nI 0), .ref o] _ 4 _ _ _ _ _ 5 _ _ _ _ _ (List.range' 1 wc.length) _ _ hM lk_X5_addActor w_4_59 rfl dL_addActor_4 rfl (cut1 _ _) (ndR _ _) hr ⟨by decide, by decide⟩ (Nat.le_of_ble_eq_true rfl) ⟨by decide, by decide⟩ (fun w q hw hf => ?_)
  rw [mrg1 _ hf]
  show ω9 _ [(0, .ref b), (1, .int v1), (2, .ref o)] [.ref q] 12
  refine r_astore_n C9 (lv' := [(3, .ref q), (0, .ref b), (1, .int v1), (2, .ref o)]) dL_addActor_12 rfl (by decide) rfl ?_
  refine r_iconst C9 dL_addActor_13 ki_1 ?_
  exact RT.1 _ _ _ _ _ dL_addActor_14 rfl rfl ⟨w, hw, rfl, rfl⟩ (by rw [List.map_cons, List.map_cons, hf])
set_option maxRecDepth 100000 in
theorem wn_addActor_S {l : Launch} {E : Ev} {b o : Nat} {v1 : Int32} {g : Nat → Int64} {wc : va_W} {fs : List Value} {pw : va_W → Prop} (hM : Th l E yX5_addActor cX5_addActor 3 (some FieldType.int) 6 90 [.ref b, .int v1] wc pw "java/lang/IllegalStateException") (hr : wc[0]? = some (b, .inr (5, fs))) : CtX l E yL_addActor method_13_code 4 (some FieldType.int) [(0, 9, 12, 13), (0, 9, 15, 15)] 7 112 [.ref b, .int v1, .ref o] ((o, .inl (eJ E, 1, .inr (.inl g))) :: wc) (WNo E o g pw 2) := by
  refine ctx_of (by decide +kernel) (Nat.le_of_ble_eq_true rfl) (fun ω ω9 C C9 RT up TC => ?_)
  show ω _ [(0, .ref b), (1, .int v1), (2, .ref o)] [] 0
  refine r_aload_n C (i := 2) 2 dL_addActor_0 rfl rfl ?_
  refine r_iconst C dL_addActor_1 ki_0 ?_
  refine r_aload_n C (i := 0) 0 dL_addActor_2 rfl rfl ?_
  refine r_iload_n C (i := 1) 1 dL_addActor_3 rfl rfl ?_
  refine TC "java/lang/IllegalStateException" [(0, 9, 12, 13)] (0, 9, 15, 15) [] rfl (List.forall_mem_cons.mpr ⟨⟨by decide, "java/lang/IllegalArgumentException", w_2_153, nc_SA⟩, fun _ h => absurd h List.not_mem_nil⟩) (by decide) w_2_154 cs_S _ pw _ _ [.int (nI 0), .ref o] _ 4 _ _ _ _ _ 5 _ _ _ _ _ (List.range' 1 wc.length) _ _ hM lk_X5_addActor w_4_59 rfl dL_addActor_4 rfl (cut1 _ _) (ndR _ _) hr ⟨by decide, by decide⟩ (Nat.le_of_ble_eq_true rfl) ⟨by decide, by decide⟩ (fun w q hw hf => ?_)
  rw [mrg1 _ hf]
  show ω9 _ [(0, .ref b), (1, .int v1), (2, .ref o)] [.ref q] 15
  refine r_astore_n C9 (lv' := [(3, .ref q), (0, .ref b), (1, .int v1), (2, .ref o)]) dL_addActor_15 rfl (by decide) rfl ?_
  refine r_iconst C9 dL_addActor_16 ki_2 ?_
  exact RT.1 _ _ _ _ _ dL_addActor_17 rfl rfl ⟨w, hw, rfl, rfl⟩ (by rw [List.map_cons, List.map_cons, hf])
set_option maxRecDepth 100000 in
theorem wo_addPart {l : Launch} {E : Ev} {b o : Nat} {g : Nat → Int64} {wc : va_W} {fs : List Value} {post : Option Value → va_W → Prop} (hM : Ct l E yX5_addPart cX5_addPart 2 (some FieldType.int) 6 109 [.ref b] wc post) (hq : PoR wc post) (hr : wc[0]? = some (b, .inr (5, fs))) : CtX l E yL_addPart method_14_code 3 (some FieldType.int) [(0, 8, 11, 15)] 7 130 [.ref b, .ref o] ((o, .inl (eJ E, 1, .inr (.inl g))) :: wc) (WOk E o g post) := by
  refine ctx_of (by decide +kernel) (Nat.le_of_ble_eq_true rfl) (fun ω ω9 C C9 RT up TC => ?_)
  refine up _ _ _ _ ?_
  show ω9 _ [(0, .ref b), (1, .ref o)] [] 0
  refine r_aload_n C9 (i := 1) 1 dL_addPart_0 rfl rfl ?_
  refine r_iconst C9 dL_addPart_1 ki_0 ?_
  refine r_aload_n C9 (i := 0) 0 dL_addPart_2 rfl rfl ?_
  refine r_callV (rest := [.int (nI 0), .ref o]) C9 hM lk_X5_addPart w_4_80 (List.range' 1 wc.length) (ci := 5) rfl dL_addPart_3 rfl (cut1 _ _) (ndR _ _) hr ⟨by decide, by decide⟩ (Nat.le_of_ble_eq_true rfl) (fun v w hp => ?_)
  obtain ⟨⟨r, rfl⟩, hf⟩ := hq v w hp
  rw [mrg1 _ hf]
  show ω9 _ [(0, .ref b), (1, .ref o)] [.int r, .int (nI 0), .ref o] 6
  refine r_i2l (v := r.toInt64) C9 dL_addPart_6 rfl ?_
  refine r_last (j := 0) (ws' := (o, .inl (eJ E, 1, .inr (.inl (vp_updL g 0 r.toInt64)))) :: w) C9 0 rfl (by decide) (by decide) rfl dL_addPart_7 ?_
  refine r_goto C9 14 dL_addPart_8 (by decide) ?_
  refine r_iconst C9 dL_addPart_14 ki_0 ?_
  exact RT.1 _ _ _ _ _ dL_addPart_15 rfl rfl ⟨r, w, hp, rfl, rfl⟩ (by rw [List.map_cons, List.map_cons, hf])
set_option maxRecDepth 100000 in
theorem wn_addPart_S {l : Launch} {E : Ev} {b o : Nat} {g : Nat → Int64} {wc : va_W} {fs : List Value} {pw : va_W → Prop} (hM : Th l E yX5_addPart cX5_addPart 2 (some FieldType.int) 6 109 [.ref b] wc pw "java/lang/IllegalStateException") (hr : wc[0]? = some (b, .inr (5, fs))) : CtX l E yL_addPart method_14_code 3 (some FieldType.int) [(0, 8, 11, 15)] 7 130 [.ref b, .ref o] ((o, .inl (eJ E, 1, .inr (.inl g))) :: wc) (WNo E o g pw 1) := by
  refine ctx_of (by decide +kernel) (Nat.le_of_ble_eq_true rfl) (fun ω ω9 C C9 RT up TC => ?_)
  show ω _ [(0, .ref b), (1, .ref o)] [] 0
  refine r_aload_n C (i := 1) 1 dL_addPart_0 rfl rfl ?_
  refine r_iconst C dL_addPart_1 ki_0 ?_
  refine r_aload_n C (i := 0) 0 dL_addPart_2 rfl rfl ?_
  refine TC "java/lang/IllegalStateException" [] (0, 8, 11, 15) [] rfl (fun _ h => absurd h List.not_mem_nil) (by decide) w_2_154 cs_S _ pw _ _ [.int (nI 0), .ref o] _ 3 _ _ _ _ _ 5 _ _ _ _ _ (List.range' 1 wc.length) _ _ hM lk_X5_addPart w_4_80 rfl dL_addPart_3 rfl (cut1 _ _) (ndR _ _) hr ⟨by decide, by decide⟩ (Nat.le_of_ble_eq_true rfl) ⟨by decide, by decide⟩ (fun w q hw hf => ?_)
  rw [mrg1 _ hf]
  show ω9 _ [(0, .ref b), (1, .ref o)] [.ref q] 11
  refine r_astore_n C9 (lv' := [(2, .ref q), (0, .ref b), (1, .ref o)]) dL_addPart_11 rfl (by decide) rfl ?_
  refine r_iconst C9 dL_addPart_12 ki_1 ?_
  exact RT.1 _ _ _ _ _ dL_addPart_13 rfl rfl ⟨w, hw, rfl, rfl⟩ (by rw [List.map_cons, List.map_cons, hf])
set_option maxRecDepth 100000 in
theorem wo_cast {l : Launch} {E : Ev} {b o : Nat} {v1 : Int32} {v2 : Int32} {v3 : Int32} {g : Nat → Int64} {wc : va_W} {fs : List Value} {post : Option Value → va_W → Prop} (hM : Ct l E yX5_cast cX5_cast 5 (some FieldType.int) 6 90 [.ref b, .int v1, .int v2, .int v3] wc post) (hq : PoR wc post) (hr : wc[0]? = some (b, .inr (5, fs))) : CtX l E yL_cast method_15_code 6 (some FieldType.int) [(0, 12, 15, 28)] 7 114 [.ref b, .int v1, .int v2, .int v3, .ref o] ((o, .inl (eJ E, 1, .inr (.inl g))) :: wc) (WOk E o g post) := by
  refine ctx_of (by decide +kernel) (Nat.le_of_ble_eq_true rfl) (fun ω ω9 C C9 RT up TC => ?_)
  refine up _ _ _ _ ?_
  show ω9 _ [(0, .ref b), (1, .int v1), (2, .int v2), (3, .int v3), (4, .ref o)] [] 0
  refine r_aload C9 (i := 4) 4 dL_cast_0 rfl ?_
  refine r_iconst C9 dL_cast_2 ki_0 ?_
  refine r_aload_n C9 (i := 0) 0 dL_cast_3 rfl rfl ?_
  refine r_iload_n C9 (i := 1) 1 dL_cast_4 rfl rfl ?_
  refine r_iload_n C9 (i := 2) 2 dL_cast_5 rfl rfl ?_
  refine r_iload_n C9 (i := 3) 3 dL_cast_6 rfl rfl ?_
  refine r_callV (rest := [.int (nI 0), .ref o]) C9 hM lk_X5_cast w_4_89 (List.range' 1 wc.length) (ci := 5) rfl dL_cast_7 rfl (cut1 _ _) (ndR _ _) hr ⟨by decide, by decide⟩ (Nat.le_of_ble_eq_true rfl) (fun v w hp => ?_)
  obtain ⟨⟨r, rfl⟩, hf⟩ := hq v w hp
  rw [mrg1 _ hf]
  show ω9 _ [(0, .ref b), (1, .int v1), (2, .int v2), (3, .int v3), (4, .ref o)] [.int r, .int (nI 0), .ref o] 10
  refine r_i2l (v := r.toInt64) C9 dL_cast_10 rfl ?_
  refine r_last (j := 0) (ws' := (o, .inl (eJ E, 1, .inr (.inl (vp_updL g 0 r.toInt64)))) :: w) C9 0 rfl (by decide) (by decide) rfl dL_cast_11 ?_
  refine r_goto C9 19 dL_cast_12 (by decide) ?_
  refine r_iconst C9 dL_cast_19 ki_0 ?_
  exact RT.1 _ _ _ _ _ dL_cast_20 rfl rfl ⟨r, w, hp, rfl, rfl⟩ (by rw [List.map_cons, List.map_cons, hf])
set_option maxRecDepth 100000 in
theorem wn_cast_B {l : Launch} {E : Ev} {b o : Nat} {v1 : Int32} {v2 : Int32} {v3 : Int32} {g : Nat → Int64} {wc : va_W} {fs : List Value} {pw : va_W → Prop} (hM : Th l E yX5_cast cX5_cast 5 (some FieldType.int) 6 90 [.ref b, .int v1, .int v2, .int v3] wc pw "java/lang/IndexOutOfBoundsException") (hr : wc[0]? = some (b, .inr (5, fs))) : CtX l E yL_cast method_15_code 6 (some FieldType.int) [(0, 12, 15, 28)] 7 114 [.ref b, .int v1, .int v2, .int v3, .ref o] ((o, .inl (eJ E, 1, .inr (.inl g))) :: wc) (WNo E o g pw 1) := by
  refine ctx_of (by decide +kernel) (Nat.le_of_ble_eq_true rfl) (fun ω ω9 C C9 RT up TC => ?_)
  show ω _ [(0, .ref b), (1, .int v1), (2, .int v2), (3, .int v3), (4, .ref o)] [] 0
  refine r_aload C (i := 4) 4 dL_cast_0 rfl ?_
  refine r_iconst C dL_cast_2 ki_0 ?_
  refine r_aload_n C (i := 0) 0 dL_cast_3 rfl rfl ?_
  refine r_iload_n C (i := 1) 1 dL_cast_4 rfl rfl ?_
  refine r_iload_n C (i := 2) 2 dL_cast_5 rfl rfl ?_
  refine r_iload_n C (i := 3) 3 dL_cast_6 rfl rfl ?_
  refine TC "java/lang/IndexOutOfBoundsException" [] (0, 12, 15, 28) [] rfl (fun _ h => absurd h List.not_mem_nil) (by decide) w_3_144 cs_B _ pw _ _ [.int (nI 0), .ref o] _ 7 _ _ _ _ _ 5 _ _ _ _ _ (List.range' 1 wc.length) _ _ hM lk_X5_cast w_4_89 rfl dL_cast_7 rfl (cut1 _ _) (ndR _ _) hr ⟨by decide, by decide⟩ (Nat.le_of_ble_eq_true rfl) ⟨by decide, by decide⟩ (fun w q hw hf => ?_)
  rw [mrg1 _ hf]
  show ω9 _ [(0, .ref b), (1, .int v1), (2, .int v2), (3, .int v3), (4, .ref o)] [.ref q] 15
  refine r_astore C9 (lv' := [(5, .ref q), (0, .ref b), (1, .int v1), (2, .int v2), (3, .int v3), (4, .ref o)]) dL_cast_15 (by decide) rfl ?_
  refine r_iconst C9 dL_cast_17 ki_1 ?_
  exact RT.1 _ _ _ _ _ dL_cast_18 rfl rfl ⟨w, hw, rfl, rfl⟩ (by rw [List.map_cons, List.map_cons, hf])
set_option maxRecDepth 100000 in
theorem wo_understudy {l : Launch} {E : Ev} {b o : Nat} {v1 : Int32} {v2 : Int32} {g : Nat → Int64} {wc : va_W} {fs : List Value} {post : Option Value → va_W → Prop} (hM : Ct l E yX5_understudy cX5_understudy 3 (some FieldType.int) 7 111 [.ref b, .int v1, .int v2] wc post) (hq : PoR wc post) (hr : wc[0]? = some (b, .inr (5, fs))) : CtX l E yL_understudy method_16_code 5 (some FieldType.int) [(0, 10, 13, 28), (0, 10, 17, 15)] 8 133 [.ref b, .int v1, .int v2, .ref o] ((o, .inl (eJ E, 1, .inr (.inl g))) :: wc) (WOk E o g post) := by
  refine ctx_of (by decide +kernel) (Nat.le_of_ble_eq_true rfl) (fun ω ω9 C C9 RT up TC => ?_)
  refine up _ _ _ _ ?_
  show ω9 _ [(0, .ref b), (1, .int v1), (2, .int v2), (3, .ref o)] [] 0
  refine r_aload_n C9 (i := 3) 3 dL_understudy_0 rfl rfl ?_
  refine r_iconst C9 dL_understudy_1 ki_0 ?_
  refine r_aload_n C9 (i := 0) 0 dL_understudy_2 rfl rfl ?_
  refine r_iload_n C9 (i := 1) 1 dL_understudy_3 rfl rfl ?_
  refine r_iload_n C9 (i := 2) 2 dL_understudy_4 rfl rfl ?_
  refine r_callV (rest := [.int (nI 0), .ref o]) C9 hM lk_X5_understudy w_4_98 (List.range' 1 wc.length) (ci := 5) rfl dL_understudy_5 rfl (cut1 _ _) (ndR _ _) hr ⟨by decide, by decide⟩ (Nat.le_of_ble_eq_true rfl) (fun v w hp => ?_)
  obtain ⟨⟨r, rfl⟩, hf⟩ := hq v w hp
  rw [mrg1 _ hf]
  show ω9 _ [(0, .ref b), (1, .int v1), (2, .int v2), (3, .ref o)] [.int r, .int (nI 0), .ref o] 8
  refine r_i2l (v := r.toInt64) C9 dL_understudy_8 rfl ?_
  refine r_last (j := 0) (ws' := (o, .inl (eJ E, 1, .inr (.inl (vp_updL g 0 r.toInt64)))) :: w) C9 0 rfl (by decide) (by decide) rfl dL_understudy_9 ?_
  refine r_goto C9 21 dL_understudy_10 (by decide) ?_
  refine r_iconst C9 dL_understudy_21 ki_0 ?_
  exact RT.1 _ _ _ _ _ dL_understudy_22 rfl rfl ⟨r, w, hp, rfl, rfl⟩ (by rw [List.map_cons, List.map_cons, hf])
set_option maxRecDepth 100000 in
theorem wn_understudy_B {l : Launch} {E : Ev} {b o : Nat} {v1 : Int32} {v2 : Int32} {g : Nat → Int64} {wc : va_W} {fs : List Value} {pw : va_W → Prop} (hM : Th l E yX5_understudy cX5_understudy 3 (some FieldType.int) 7 111 [.ref b, .int v1, .int v2] wc pw "java/lang/IndexOutOfBoundsException") (hr : wc[0]? = some (b, .inr (5, fs))) : CtX l E yL_understudy method_16_code 5 (some FieldType.int) [(0, 10, 13, 28), (0, 10, 17, 15)] 8 133 [.ref b, .int v1, .int v2, .ref o] ((o, .inl (eJ E, 1, .inr (.inl g))) :: wc) (WNo E o g pw 1) := by
  refine ctx_of (by decide +kernel) (Nat.le_of_ble_eq_true rfl) (fun ω ω9 C C9 RT up TC => ?_)
  show ω _ [(0, .ref b), (1, .int v1), (2, .int v2), (3, .ref o)] [] 0
  refine r_aload_n C (i := 3) 3 dL_understudy_0 rfl rfl ?_
  refine r_iconst C dL_understudy_1 ki_0 ?_
  refine r_aload_n C (i := 0) 0 dL_understudy_2 rfl rfl ?_
  refine r_iload_n C (i := 1) 1 dL_understudy_3 rfl rfl ?_
  refine r_iload_n C (i := 2) 2 dL_understudy_4 rfl rfl ?_
  refine TC "java/lang/IndexOutOfBoundsException" [] (0, 10, 13, 28) [(0, 10, 17, 15)] rfl (fun _ h => absurd h List.not_mem_nil) (by decide) w_3_144 cs_B _ pw _ _ [.int (nI 0), .ref o] _ 5 _ _ _ _ _ 5 _ _ _ _ _ (List.range' 1 wc.length) _ _ hM lk_X5_understudy w_4_98 rfl dL_understudy_5 rfl (cut1 _ _) (ndR _ _) hr ⟨by decide, by decide⟩ (Nat.le_of_ble_eq_true rfl) ⟨by decide, by decide⟩ (fun w q hw hf => ?_)
  rw [mrg1 _ hf]
  show ω9 _ [(0, .ref b), (1, .int v1), (2, .int v2), (3, .ref o)] [.ref q] 13
  refine r_astore C9 (lv' := [(4, .ref q), (0, .ref b), (1, .int v1), (2, .int v2), (3, .ref o)]) dL_understudy_13 (by decide) rfl ?_
  refine r_iconst C9 dL_understudy_15 ki_1 ?_
  exact RT.1 _ _ _ _ _ dL_understudy_16 rfl rfl ⟨w, hw, rfl, rfl⟩ (by rw [List.map_cons, List.map_cons, hf])
set_option maxRecDepth 100000 in
theorem wn_understudy_S {l : Launch} {E : Ev} {b o : Nat} {v1 : Int32} {v2 : Int32} {g : Nat → Int64} {wc : va_W} {fs : List Value} {pw : va_W → Prop} (hM : Th l E yX5_understudy cX5_understudy 3 (some FieldType.int) 7 111 [.ref b, .int v1, .int v2] wc pw "java/lang/IllegalStateException") (hr : wc[0]? = some (b, .inr (5, fs))) : CtX l E yL_understudy method_16_code 5 (some FieldType.int) [(0, 10, 13, 28), (0, 10, 17, 15)] 8 133 [.ref b, .int v1, .int v2, .ref o] ((o, .inl (eJ E, 1, .inr (.inl g))) :: wc) (WNo E o g pw 2) := by
  refine ctx_of (by decide +kernel) (Nat.le_of_ble_eq_true rfl) (fun ω ω9 C C9 RT up TC => ?_)
  show ω _ [(0, .ref b), (1, .int v1), (2, .int v2), (3, .ref o)] [] 0
  refine r_aload_n C (i := 3) 3 dL_understudy_0 rfl rfl ?_
  refine r_iconst C dL_understudy_1 ki_0 ?_
  refine r_aload_n C (i := 0) 0 dL_understudy_2 rfl rfl ?_
  refine r_iload_n C (i := 1) 1 dL_understudy_3 rfl rfl ?_
  refine r_iload_n C (i := 2) 2 dL_understudy_4 rfl rfl ?_
  refine TC "java/lang/IllegalStateException" [(0, 10, 13, 28)] (0, 10, 17, 15) [] rfl (List.forall_mem_cons.mpr ⟨⟨by decide, "java/lang/IndexOutOfBoundsException", w_3_144, nc_SB⟩, fun _ h => absurd h List.not_mem_nil⟩) (by decide) w_2_154 cs_S _ pw _ _ [.int (nI 0), .ref o] _ 5 _ _ _ _ _ 5 _ _ _ _ _ (List.range' 1 wc.length) _ _ hM lk_X5_understudy w_4_98 rfl dL_understudy_5 rfl (cut1 _ _) (ndR _ _) hr ⟨by decide, by decide⟩ (Nat.le_of_ble_eq_true rfl) ⟨by decide, by decide⟩ (fun w q hw hf => ?_)
  rw [mrg1 _ hf]
  show ω9 _ [(0, .ref b), (1, .int v1), (2, .int v2), (3, .ref o)] [.ref q] 17
  refine r_astore C9 (lv' := [(4, .ref q), (0, .ref b), (1, .int v1), (2, .int v2), (3, .ref o)]) dL_understudy_17 (by decide) rfl ?_
  refine r_iconst C9 dL_understudy_19 ki_2 ?_
  exact RT.1 _ _ _ _ _ dL_understudy_20 rfl rfl ⟨w, hw, rfl, rfl⟩ (by rw [List.map_cons, List.map_cons, hf])
set_option maxRecDepth 100000 in
theorem wo_release {l : Launch} {E : Ev} {b o : Nat} {v1 : Int32} {v2 : Int32} {g : Nat → Int64} {wc : va_W} {fs : List Value} {post : Option Value → va_W → Prop} (hM : Ct l E yX5_release cX5_release 4 (some FieldType.int) 7 111 [.ref b, .int v1, .int v2] wc post) (hq : PoR wc post) (hr : wc[0]? = some (b, .inr (5, fs))) : CtX l E yL_release method_17_code 5 (some FieldType.int) [(0, 10, 13, 28), (0, 10, 17, 15)] 8 134 [.ref b, .int v1, .int v2, .ref o] ((o, .inl (eJ E, 1, .inr (.inl g))) :: wc) (WOk E o g post) := by
  refine ctx_of (by decide +kernel) (Nat.le_of_ble_eq_true rfl) (fun ω ω9 C C9 RT up TC => ?_)
  refine up _ _ _ _ ?_
  show ω9 _ [(0, .ref b), (1, .int v1), (2, .int v2), (3, .ref o)] [] 0
  refine r_aload_n C9 (i := 3) 3 dL_release_0 rfl rfl ?_
  refine r_iconst C9 dL_release_1 ki_0 ?_
  refine r_aload_n C9 (i := 0) 0 dL_release_2 rfl rfl ?_
  refine r_iload_n C9 (i := 1) 1 dL_release_3 rfl rfl ?_
  refine r_iload_n C9 (i := 2) 2 dL_release_4 rfl rfl ?_
  refine r_callV (rest := [.int (nI 0), .ref o]) C9 hM lk_X5_release w_4_108 (List.range' 1 wc.length) (ci := 5) rfl dL_release_5 rfl (cut1 _ _) (ndR _ _) hr ⟨by decide, by decide⟩ (Nat.le_of_ble_eq_true rfl) (fun v w hp => ?_)
  obtain ⟨⟨r, rfl⟩, hf⟩ := hq v w hp
  rw [mrg1 _ hf]
  show ω9 _ [(0, .ref b), (1, .int v1), (2, .int v2), (3, .ref o)] [.int r, .int (nI 0), .ref o] 8
  refine r_i2l (v := r.toInt64) C9 dL_release_8 rfl ?_
  refine r_last (j := 0) (ws' := (o, .inl (eJ E, 1, .inr (.inl (vp_updL g 0 r.toInt64)))) :: w) C9 0 rfl (by decide) (by decide) rfl dL_release_9 ?_
  refine r_goto C9 21 dL_release_10 (by decide) ?_
  refine r_iconst C9 dL_release_21 ki_0 ?_
  exact RT.1 _ _ _ _ _ dL_release_22 rfl rfl ⟨r, w, hp, rfl, rfl⟩ (by rw [List.map_cons, List.map_cons, hf])
set_option maxRecDepth 100000 in
theorem wn_release_B {l : Launch} {E : Ev} {b o : Nat} {v1 : Int32} {v2 : Int32} {g : Nat → Int64} {wc : va_W} {fs : List Value} {pw : va_W → Prop} (hM : Th l E yX5_release cX5_release 4 (some FieldType.int) 7 111 [.ref b, .int v1, .int v2] wc pw "java/lang/IndexOutOfBoundsException") (hr : wc[0]? = some (b, .inr (5, fs))) : CtX l E yL_release method_17_code 5 (some FieldType.int) [(0, 10, 13, 28), (0, 10, 17, 15)] 8 134 [.ref b, .int v1, .int v2, .ref o] ((o, .inl (eJ E, 1, .inr (.inl g))) :: wc) (WNo E o g pw 1) := by
  refine ctx_of (by decide +kernel) (Nat.le_of_ble_eq_true rfl) (fun ω ω9 C C9 RT up TC => ?_)
  show ω _ [(0, .ref b), (1, .int v1), (2, .int v2), (3, .ref o)] [] 0
  refine r_aload_n C (i := 3) 3 dL_release_0 rfl rfl ?_
  refine r_iconst C dL_release_1 ki_0 ?_
  refine r_aload_n C (i := 0) 0 dL_release_2 rfl rfl ?_
  refine r_iload_n C (i := 1) 1 dL_release_3 rfl rfl ?_
  refine r_iload_n C (i := 2) 2 dL_release_4 rfl rfl ?_
  refine TC "java/lang/IndexOutOfBoundsException" [] (0, 10, 13, 28) [(0, 10, 17, 15)] rfl (fun _ h => absurd h List.not_mem_nil) (by decide) w_3_144 cs_B _ pw _ _ [.int (nI 0), .ref o] _ 5 _ _ _ _ _ 5 _ _ _ _ _ (List.range' 1 wc.length) _ _ hM lk_X5_release w_4_108 rfl dL_release_5 rfl (cut1 _ _) (ndR _ _) hr ⟨by decide, by decide⟩ (Nat.le_of_ble_eq_true rfl) ⟨by decide, by decide⟩ (fun w q hw hf => ?_)
  rw [mrg1 _ hf]
  show ω9 _ [(0, .ref b), (1, .int v1), (2, .int v2), (3, .ref o)] [.ref q] 13
  refine r_astore C9 (lv' := [(4, .ref q), (0, .ref b), (1, .int v1), (2, .int v2), (3, .ref o)]) dL_release_13 (by decide) rfl ?_
  refine r_iconst C9 dL_release_15 ki_1 ?_
  exact RT.1 _ _ _ _ _ dL_release_16 rfl rfl ⟨w, hw, rfl, rfl⟩ (by rw [List.map_cons, List.map_cons, hf])
set_option maxRecDepth 100000 in
theorem wn_release_S {l : Launch} {E : Ev} {b o : Nat} {v1 : Int32} {v2 : Int32} {g : Nat → Int64} {wc : va_W} {fs : List Value} {pw : va_W → Prop} (hM : Th l E yX5_release cX5_release 4 (some FieldType.int) 7 111 [.ref b, .int v1, .int v2] wc pw "java/lang/IllegalStateException") (hr : wc[0]? = some (b, .inr (5, fs))) : CtX l E yL_release method_17_code 5 (some FieldType.int) [(0, 10, 13, 28), (0, 10, 17, 15)] 8 134 [.ref b, .int v1, .int v2, .ref o] ((o, .inl (eJ E, 1, .inr (.inl g))) :: wc) (WNo E o g pw 2) := by
  refine ctx_of (by decide +kernel) (Nat.le_of_ble_eq_true rfl) (fun ω ω9 C C9 RT up TC => ?_)
  show ω _ [(0, .ref b), (1, .int v1), (2, .int v2), (3, .ref o)] [] 0
  refine r_aload_n C (i := 3) 3 dL_release_0 rfl rfl ?_
  refine r_iconst C dL_release_1 ki_0 ?_
  refine r_aload_n C (i := 0) 0 dL_release_2 rfl rfl ?_
  refine r_iload_n C (i := 1) 1 dL_release_3 rfl rfl ?_
  refine r_iload_n C (i := 2) 2 dL_release_4 rfl rfl ?_
  refine TC "java/lang/IllegalStateException" [(0, 10, 13, 28)] (0, 10, 17, 15) [] rfl (List.forall_mem_cons.mpr ⟨⟨by decide, "java/lang/IndexOutOfBoundsException", w_3_144, nc_SB⟩, fun _ h => absurd h List.not_mem_nil⟩) (by decide) w_2_154 cs_S _ pw _ _ [.int (nI 0), .ref o] _ 5 _ _ _ _ _ 5 _ _ _ _ _ (List.range' 1 wc.length) _ _ hM lk_X5_release w_4_108 rfl dL_release_5 rfl (cut1 _ _) (ndR _ _) hr ⟨by decide, by decide⟩ (Nat.le_of_ble_eq_true rfl) ⟨by decide, by decide⟩ (fun w q hw hf => ?_)
  rw [mrg1 _ hf]
  show ω9 _ [(0, .ref b), (1, .int v1), (2, .int v2), (3, .ref o)] [.ref q] 17
  refine r_astore C9 (lv' := [(4, .ref q), (0, .ref b), (1, .int v1), (2, .int v2), (3, .ref o)]) dL_release_17 (by decide) rfl ?_
  refine r_iconst C9 dL_release_19 ki_2 ?_
  exact RT.1 _ _ _ _ _ dL_release_20 rfl rfl ⟨w, hw, rfl, rfl⟩ (by rw [List.map_cons, List.map_cons, hf])
set_option maxRecDepth 100000 in
theorem wo_ill {l : Launch} {E : Ev} {b o : Nat} {v1 : Int32} {v2 : Int32} {v3 : Int32} {g : Nat → Int64} {wc : va_W} {fs : List Value} {post : Option Value → va_W → Prop} (hM : Ct l E yX5_ill cX5_ill 4 (some FieldType.int) 7 111 [.ref b, .int v1, .int v2, .int v3] wc post) (hq : PoR wc post) (hr : wc[0]? = some (b, .inr (5, fs))) : CtX l E yL_ill method_18_code 6 (some FieldType.int) [(0, 12, 15, 28)] 8 134 [.ref b, .int v1, .int v2, .int v3, .ref o] ((o, .inl (eJ E, 1, .inr (.inl g))) :: wc) (WOk E o g post) := by
  refine ctx_of (by decide +kernel) (Nat.le_of_ble_eq_true rfl) (fun ω ω9 C C9 RT up TC => ?_)
  refine up _ _ _ _ ?_
  show ω9 _ [(0, .ref b), (1, .int v1), (2, .int v2), (3, .int v3), (4, .ref o)] [] 0
  refine r_aload C9 (i := 4) 4 dL_ill_0 rfl ?_
  refine r_iconst C9 dL_ill_2 ki_0 ?_
  refine r_aload_n C9 (i := 0) 0 dL_ill_3 rfl rfl ?_
  refine r_iload_n C9 (i := 1) 1 dL_ill_4 rfl rfl ?_
  refine r_iload_n C9 (i := 2) 2 dL_ill_5 rfl rfl ?_
  refine r_iload_n C9 (i := 3) 3 dL_ill_6 rfl rfl ?_
  refine r_callV (rest := [.int (nI 0), .ref o]) C9 hM lk_X5_ill w_4_121 (List.range' 1 wc.length) (ci := 5) rfl dL_ill_7 rfl (cut1 _ _) (ndR _ _) hr ⟨by decide, by decide⟩ (Nat.le_of_ble_eq_true rfl) (fun v w hp => ?_)
  obtain ⟨⟨r, rfl⟩, hf⟩ := hq v w hp
  rw [mrg1 _ hf]
  show ω9 _ [(0, .ref b), (1, .int v1), (2, .int v2), (3, .int v3), (4, .ref o)] [.int r, .int (nI 0), .ref o] 10
  refine r_i2l (v := r.toInt64) C9 dL_ill_10 rfl ?_
  refine r_last (j := 0) (ws' := (o, .inl (eJ E, 1, .inr (.inl (vp_updL g 0 r.toInt64)))) :: w) C9 0 rfl (by decide) (by decide) rfl dL_ill_11 ?_
  refine r_goto C9 19 dL_ill_12 (by decide) ?_
  refine r_iconst C9 dL_ill_19 ki_0 ?_
  exact RT.1 _ _ _ _ _ dL_ill_20 rfl rfl ⟨r, w, hp, rfl, rfl⟩ (by rw [List.map_cons, List.map_cons, hf])
set_option maxRecDepth 100000 in
theorem wn_ill_B {l : Launch} {E : Ev} {b o : Nat} {v1 : Int32} {v2 : Int32} {v3 : Int32} {g : Nat → Int64} {wc : va_W} {fs : List Value} {pw : va_W → Prop} (hM : Th l E yX5_ill cX5_ill 4 (some FieldType.int) 7 111 [.ref b, .int v1, .int v2, .int v3] wc pw "java/lang/IndexOutOfBoundsException") (hr : wc[0]? = some (b, .inr (5, fs))) : CtX l E yL_ill method_18_code 6 (some FieldType.int) [(0, 12, 15, 28)] 8 134 [.ref b, .int v1, .int v2, .int v3, .ref o] ((o, .inl (eJ E, 1, .inr (.inl g))) :: wc) (WNo E o g pw 1) := by
  refine ctx_of (by decide +kernel) (Nat.le_of_ble_eq_true rfl) (fun ω ω9 C C9 RT up TC => ?_)
  show ω _ [(0, .ref b), (1, .int v1), (2, .int v2), (3, .int v3), (4, .ref o)] [] 0
  refine r_aload C (i := 4) 4 dL_ill_0 rfl ?_
  refine r_iconst C dL_ill_2 ki_0 ?_
  refine r_aload_n C (i := 0) 0 dL_ill_3 rfl rfl ?_
  refine r_iload_n C (i := 1) 1 dL_ill_4 rfl rfl ?_
  refine r_iload_n C (i := 2) 2 dL_ill_5 rfl rfl ?_
  refine r_iload_n C (i := 3) 3 dL_ill_6 rfl rfl ?_
  refine TC "java/lang/IndexOutOfBoundsException" [] (0, 12, 15, 28) [] rfl (fun _ h => absurd h List.not_mem_nil) (by decide) w_3_144 cs_B _ pw _ _ [.int (nI 0), .ref o] _ 7 _ _ _ _ _ 5 _ _ _ _ _ (List.range' 1 wc.length) _ _ hM lk_X5_ill w_4_121 rfl dL_ill_7 rfl (cut1 _ _) (ndR _ _) hr ⟨by decide, by decide⟩ (Nat.le_of_ble_eq_true rfl) ⟨by decide, by decide⟩ (fun w q hw hf => ?_)
  rw [mrg1 _ hf]
  show ω9 _ [(0, .ref b), (1, .int v1), (2, .int v2), (3, .int v3), (4, .ref o)] [.ref q] 15
  refine r_astore C9 (lv' := [(5, .ref q), (0, .ref b), (1, .int v1), (2, .int v2), (3, .int v3), (4, .ref o)]) dL_ill_15 (by decide) rfl ?_
  refine r_iconst C9 dL_ill_17 ki_1 ?_
  exact RT.1 _ _ _ _ _ dL_ill_18 rfl rfl ⟨w, hw, rfl, rfl⟩ (by rw [List.map_cons, List.map_cons, hf])
set_option maxRecDepth 100000 in
theorem wo_slip {l : Launch} {E : Ev} {b o : Nat} {v1 : Int32} {v2 : Int32} {v3 : Int32} {v4 : Int32} {g : Nat → Int64} {wc : va_W} {fs : List Value} {post : Option Value → va_W → Prop} (hM : Ct l E yX5_slip cX5_slip 6 (some FieldType.int) 7 111 [.ref b, .int v1, .int v2, .int v3, .int v4] wc post) (hq : PoR wc post) (hr : wc[0]? = some (b, .inr (5, fs))) : CtX l E yL_slip method_19_code 7 (some FieldType.int) [(0, 14, 17, 28), (0, 14, 21, 13), (0, 14, 25, 15)] 8 136 [.ref b, .int v1, .int v2, .int v3, .int v4, .ref o] ((o, .inl (eJ E, 1, .inr (.inl g))) :: wc) (WOk E o g post) := by
  refine ctx_of (by decide +kernel) (Nat.le_of_ble_eq_true rfl) (fun ω ω9 C C9 RT up TC => ?_)
  refine up _ _ _ _ ?_
  show ω9 _ [(0, .ref b), (1, .int v1), (2, .int v2), (3, .int v3), (4, .int v4), (5, .ref o)] [] 0
  refine r_aload C9 (i := 5) 5 dL_slip_0 rfl ?_
  refine r_iconst C9 dL_slip_2 ki_0 ?_
  refine r_aload_n C9 (i := 0) 0 dL_slip_3 rfl rfl ?_
  refine r_iload_n C9 (i := 1) 1 dL_slip_4 rfl rfl ?_
  refine r_iload_n C9 (i := 2) 2 dL_slip_5 rfl rfl ?_
  refine r_iload_n C9 (i := 3) 3 dL_slip_6 rfl rfl ?_
  refine r_iload C9 (i := 4) 4 dL_slip_7 rfl ?_
  refine r_callV (rest := [.int (nI 0), .ref o]) C9 hM lk_X5_slip w_4_128 (List.range' 1 wc.length) (ci := 5) rfl dL_slip_9 rfl (cut1 _ _) (ndR _ _) hr ⟨by decide, by decide⟩ (Nat.le_of_ble_eq_true rfl) (fun v w hp => ?_)
  obtain ⟨⟨r, rfl⟩, hf⟩ := hq v w hp
  rw [mrg1 _ hf]
  show ω9 _ [(0, .ref b), (1, .int v1), (2, .int v2), (3, .int v3), (4, .int v4), (5, .ref o)] [.int r, .int (nI 0), .ref o] 12
  refine r_i2l (v := r.toInt64) C9 dL_slip_12 rfl ?_
  refine r_last (j := 0) (ws' := (o, .inl (eJ E, 1, .inr (.inl (vp_updL g 0 r.toInt64)))) :: w) C9 0 rfl (by decide) (by decide) rfl dL_slip_13 ?_
  refine r_goto C9 29 dL_slip_14 (by decide) ?_
  refine r_iconst C9 dL_slip_29 ki_0 ?_
  exact RT.1 _ _ _ _ _ dL_slip_30 rfl rfl ⟨r, w, hp, rfl, rfl⟩ (by rw [List.map_cons, List.map_cons, hf])
set_option maxRecDepth 100000 in
theorem wn_slip_B {l : Launch} {E : Ev} {b o : Nat} {v1 : Int32} {v2 : Int32} {v3 : Int32} {v4 : Int32} {g : Nat → Int64} {wc : va_W} {fs : List Value} {pw : va_W → Prop} (hM : Th l E yX5_slip cX5_slip 6 (some FieldType.int) 7 111 [.ref b, .int v1, .int v2, .int v3, .int v4] wc pw "java/lang/IndexOutOfBoundsException") (hr : wc[0]? = some (b, .inr (5, fs))) : CtX l E yL_slip method_19_code 7 (some FieldType.int) [(0, 14, 17, 28), (0, 14, 21, 13), (0, 14, 25, 15)] 8 136 [.ref b, .int v1, .int v2, .int v3, .int v4, .ref o] ((o, .inl (eJ E, 1, .inr (.inl g))) :: wc) (WNo E o g pw 1) := by
  refine ctx_of (by decide +kernel) (Nat.le_of_ble_eq_true rfl) (fun ω ω9 C C9 RT up TC => ?_)
  show ω _ [(0, .ref b), (1, .int v1), (2, .int v2), (3, .int v3), (4, .int v4), (5, .ref o)] [] 0
  refine r_aload C (i := 5) 5 dL_slip_0 rfl ?_
  refine r_iconst C dL_slip_2 ki_0 ?_
  refine r_aload_n C (i := 0) 0 dL_slip_3 rfl rfl ?_
  refine r_iload_n C (i := 1) 1 dL_slip_4 rfl rfl ?_
  refine r_iload_n C (i := 2) 2 dL_slip_5 rfl rfl ?_
  refine r_iload_n C (i := 3) 3 dL_slip_6 rfl rfl ?_
  refine r_iload C (i := 4) 4 dL_slip_7 rfl ?_
  refine TC "java/lang/IndexOutOfBoundsException" [] (0, 14, 17, 28) [(0, 14, 21, 13), (0, 14, 25, 15)] rfl (fun _ h => absurd h List.not_mem_nil) (by decide) w_3_144 cs_B _ pw _ _ [.int (nI 0), .ref o] _ 9 _ _ _ _ _ 5 _ _ _ _ _ (List.range' 1 wc.length) _ _ hM lk_X5_slip w_4_128 rfl dL_slip_9 rfl (cut1 _ _) (ndR _ _) hr ⟨by decide, by decide⟩ (Nat.le_of_ble_eq_true rfl) ⟨by decide, by decide⟩ (fun w q hw hf => ?_)
  rw [mrg1 _ hf]
  show ω9 _ [(0, .ref b), (1, .int v1), (2, .int v2), (3, .int v3), (4, .int v4), (5, .ref o)] [.ref q] 17
  refine r_astore C9 (lv' := [(6, .ref q), (0, .ref b), (1, .int v1), (2, .int v2), (3, .int v3), (4, .int v4), (5, .ref o)]) dL_slip_17 (by decide) rfl ?_
  refine r_iconst C9 dL_slip_19 ki_1 ?_
  exact RT.1 _ _ _ _ _ dL_slip_20 rfl rfl ⟨w, hw, rfl, rfl⟩ (by rw [List.map_cons, List.map_cons, hf])
set_option maxRecDepth 100000 in
theorem wn_slip_A {l : Launch} {E : Ev} {b o : Nat} {v1 : Int32} {v2 : Int32} {v3 : Int32} {v4 : Int32} {g : Nat → Int64} {wc : va_W} {fs : List Value} {pw : va_W → Prop} (hM : Th l E yX5_slip cX5_slip 6 (some FieldType.int) 7 111 [.ref b, .int v1, .int v2, .int v3, .int v4] wc pw "java/lang/IllegalArgumentException") (hr : wc[0]? = some (b, .inr (5, fs))) : CtX l E yL_slip method_19_code 7 (some FieldType.int) [(0, 14, 17, 28), (0, 14, 21, 13), (0, 14, 25, 15)] 8 136 [.ref b, .int v1, .int v2, .int v3, .int v4, .ref o] ((o, .inl (eJ E, 1, .inr (.inl g))) :: wc) (WNo E o g pw 2) := by
  refine ctx_of (by decide +kernel) (Nat.le_of_ble_eq_true rfl) (fun ω ω9 C C9 RT up TC => ?_)
  show ω _ [(0, .ref b), (1, .int v1), (2, .int v2), (3, .int v3), (4, .int v4), (5, .ref o)] [] 0
  refine r_aload C (i := 5) 5 dL_slip_0 rfl ?_
  refine r_iconst C dL_slip_2 ki_0 ?_
  refine r_aload_n C (i := 0) 0 dL_slip_3 rfl rfl ?_
  refine r_iload_n C (i := 1) 1 dL_slip_4 rfl rfl ?_
  refine r_iload_n C (i := 2) 2 dL_slip_5 rfl rfl ?_
  refine r_iload_n C (i := 3) 3 dL_slip_6 rfl rfl ?_
  refine r_iload C (i := 4) 4 dL_slip_7 rfl ?_
  refine TC "java/lang/IllegalArgumentException" [(0, 14, 17, 28)] (0, 14, 21, 13) [(0, 14, 25, 15)] rfl (List.forall_mem_cons.mpr ⟨⟨by decide, "java/lang/IndexOutOfBoundsException", w_3_144, nc_AB⟩, fun _ h => absurd h List.not_mem_nil⟩) (by decide) w_2_153 cs_A _ pw _ _ [.int (nI 0), .ref o] _ 9 _ _ _ _ _ 5 _ _ _ _ _ (List.range' 1 wc.length) _ _ hM lk_X5_slip w_4_128 rfl dL_slip_9 rfl (cut1 _ _) (ndR _ _) hr ⟨by decide, by decide⟩ (Nat.le_of_ble_eq_true rfl) ⟨by decide, by decide⟩ (fun w q hw hf => ?_)
  rw [mrg1 _ hf]
  show ω9 _ [(0, .ref b), (1, .int v1), (2, .int v2), (3, .int v3), (4, .int v4), (5, .ref o)] [.ref q] 21
  refine r_astore C9 (lv' := [(6, .ref q), (0, .ref b), (1, .int v1), (2, .int v2), (3, .int v3), (4, .int v4), (5, .ref o)]) dL_slip_21 (by decide) rfl ?_
  refine r_iconst C9 dL_slip_23 ki_2 ?_
  exact RT.1 _ _ _ _ _ dL_slip_24 rfl rfl ⟨w, hw, rfl, rfl⟩ (by rw [List.map_cons, List.map_cons, hf])
set_option maxRecDepth 100000 in
theorem wn_slip_S {l : Launch} {E : Ev} {b o : Nat} {v1 : Int32} {v2 : Int32} {v3 : Int32} {v4 : Int32} {g : Nat → Int64} {wc : va_W} {fs : List Value} {pw : va_W → Prop} (hM : Th l E yX5_slip cX5_slip 6 (some FieldType.int) 7 111 [.ref b, .int v1, .int v2, .int v3, .int v4] wc pw "java/lang/IllegalStateException") (hr : wc[0]? = some (b, .inr (5, fs))) : CtX l E yL_slip method_19_code 7 (some FieldType.int) [(0, 14, 17, 28), (0, 14, 21, 13), (0, 14, 25, 15)] 8 136 [.ref b, .int v1, .int v2, .int v3, .int v4, .ref o] ((o, .inl (eJ E, 1, .inr (.inl g))) :: wc) (WNo E o g pw 3) := by
  refine ctx_of (by decide +kernel) (Nat.le_of_ble_eq_true rfl) (fun ω ω9 C C9 RT up TC => ?_)
  show ω _ [(0, .ref b), (1, .int v1), (2, .int v2), (3, .int v3), (4, .int v4), (5, .ref o)] [] 0
  refine r_aload C (i := 5) 5 dL_slip_0 rfl ?_
  refine r_iconst C dL_slip_2 ki_0 ?_
  refine r_aload_n C (i := 0) 0 dL_slip_3 rfl rfl ?_
  refine r_iload_n C (i := 1) 1 dL_slip_4 rfl rfl ?_
  refine r_iload_n C (i := 2) 2 dL_slip_5 rfl rfl ?_
  refine r_iload_n C (i := 3) 3 dL_slip_6 rfl rfl ?_
  refine r_iload C (i := 4) 4 dL_slip_7 rfl ?_
  refine TC "java/lang/IllegalStateException" [(0, 14, 17, 28), (0, 14, 21, 13)] (0, 14, 25, 15) [] rfl (List.forall_mem_cons.mpr ⟨⟨by decide, "java/lang/IndexOutOfBoundsException", w_3_144, nc_SB⟩, List.forall_mem_cons.mpr ⟨⟨by decide, "java/lang/IllegalArgumentException", w_2_153, nc_SA⟩, fun _ h => absurd h List.not_mem_nil⟩⟩) (by decide) w_2_154 cs_S _ pw _ _ [.int (nI 0), .ref o] _ 9 _ _ _ _ _ 5 _ _ _ _ _ (List.range' 1 wc.length) _ _ hM lk_X5_slip w_4_128 rfl dL_slip_9 rfl (cut1 _ _) (ndR _ _) hr ⟨by decide, by decide⟩ (Nat.le_of_ble_eq_true rfl) ⟨by decide, by decide⟩ (fun w q hw hf => ?_)
  rw [mrg1 _ hf]
  show ω9 _ [(0, .ref b), (1, .int v1), (2, .int v2), (3, .int v3), (4, .int v4), (5, .ref o)] [.ref q] 25
  refine r_astore C9 (lv' := [(6, .ref q), (0, .ref b), (1, .int v1), (2, .int v2), (3, .int v3), (4, .int v4), (5, .ref o)]) dL_slip_25 (by decide) rfl ?_
  refine r_iconst C9 dL_slip_27 ki_3 ?_
  exact RT.1 _ _ _ _ _ dL_slip_28 rfl rfl ⟨w, hw, rfl, rfl⟩ (by rw [List.map_cons, List.map_cons, hf])
set_option maxRecDepth 100000 in
theorem wo_lose {l : Launch} {E : Ev} {b o : Nat} {v1 : Int32} {g : Nat → Int64} {wc : va_W} {fs : List Value} {post : Option Value → va_W → Prop} (hM : Ct l E yX5_lose cX5_lose 2 (some FieldType.int) 7 111 [.ref b, .int v1] wc post) (hq : PoR wc post) (hr : wc[0]? = some (b, .inr (5, fs))) : CtX l E yL_lose method_20_code 4 (some FieldType.int) [(0, 9, 12, 28)] 8 132 [.ref b, .int v1, .ref o] ((o, .inl (eJ E, 1, .inr (.inl g))) :: wc) (WOk E o g post) := by
  refine ctx_of (by decide +kernel) (Nat.le_of_ble_eq_true rfl) (fun ω ω9 C C9 RT up TC => ?_)
  refine up _ _ _ _ ?_
  show ω9 _ [(0, .ref b), (1, .int v1), (2, .ref o)] [] 0
  refine r_aload_n C9 (i := 2) 2 dL_lose_0 rfl rfl ?_
  refine r_iconst C9 dL_lose_1 ki_0 ?_
  refine r_aload_n C9 (i := 0) 0 dL_lose_2 rfl rfl ?_
  refine r_iload_n C9 (i := 1) 1 dL_lose_3 rfl rfl ?_
  refine r_callV (rest := [.int (nI 0), .ref o]) C9 hM lk_X5_lose w_4_138 (List.range' 1 wc.length) (ci := 5) rfl dL_lose_4 rfl (cut1 _ _) (ndR _ _) hr ⟨by decide, by decide⟩ (Nat.le_of_ble_eq_true rfl) (fun v w hp => ?_)
  obtain ⟨⟨r, rfl⟩, hf⟩ := hq v w hp
  rw [mrg1 _ hf]
  show ω9 _ [(0, .ref b), (1, .int v1), (2, .ref o)] [.int r, .int (nI 0), .ref o] 7
  refine r_i2l (v := r.toInt64) C9 dL_lose_7 rfl ?_
  refine r_last (j := 0) (ws' := (o, .inl (eJ E, 1, .inr (.inl (vp_updL g 0 r.toInt64)))) :: w) C9 0 rfl (by decide) (by decide) rfl dL_lose_8 ?_
  refine r_goto C9 15 dL_lose_9 (by decide) ?_
  refine r_iconst C9 dL_lose_15 ki_0 ?_
  exact RT.1 _ _ _ _ _ dL_lose_16 rfl rfl ⟨r, w, hp, rfl, rfl⟩ (by rw [List.map_cons, List.map_cons, hf])
set_option maxRecDepth 100000 in
theorem wn_lose_B {l : Launch} {E : Ev} {b o : Nat} {v1 : Int32} {g : Nat → Int64} {wc : va_W} {fs : List Value} {pw : va_W → Prop} (hM : Th l E yX5_lose cX5_lose 2 (some FieldType.int) 7 111 [.ref b, .int v1] wc pw "java/lang/IndexOutOfBoundsException") (hr : wc[0]? = some (b, .inr (5, fs))) : CtX l E yL_lose method_20_code 4 (some FieldType.int) [(0, 9, 12, 28)] 8 132 [.ref b, .int v1, .ref o] ((o, .inl (eJ E, 1, .inr (.inl g))) :: wc) (WNo E o g pw 1) := by
  refine ctx_of (by decide +kernel) (Nat.le_of_ble_eq_true rfl) (fun ω ω9 C C9 RT up TC => ?_)
  show ω _ [(0, .ref b), (1, .int v1), (2, .ref o)] [] 0
  refine r_aload_n C (i := 2) 2 dL_lose_0 rfl rfl ?_
  refine r_iconst C dL_lose_1 ki_0 ?_
  refine r_aload_n C (i := 0) 0 dL_lose_2 rfl rfl ?_
  refine r_iload_n C (i := 1) 1 dL_lose_3 rfl rfl ?_
  refine TC "java/lang/IndexOutOfBoundsException" [] (0, 9, 12, 28) [] rfl (fun _ h => absurd h List.not_mem_nil) (by decide) w_3_144 cs_B _ pw _ _ [.int (nI 0), .ref o] _ 4 _ _ _ _ _ 5 _ _ _ _ _ (List.range' 1 wc.length) _ _ hM lk_X5_lose w_4_138 rfl dL_lose_4 rfl (cut1 _ _) (ndR _ _) hr ⟨by decide, by decide⟩ (Nat.le_of_ble_eq_true rfl) ⟨by decide, by decide⟩ (fun w q hw hf => ?_)
  rw [mrg1 _ hf]
  show ω9 _ [(0, .ref b), (1, .int v1), (2, .ref o)] [.ref q] 12
  refine r_astore_n C9 (lv' := [(3, .ref q), (0, .ref b), (1, .int v1), (2, .ref o)]) dL_lose_12 rfl (by decide) rfl ?_
  refine r_iconst C9 dL_lose_13 ki_1 ?_
  exact RT.1 _ _ _ _ _ dL_lose_14 rfl rfl ⟨w, hw, rfl, rfl⟩ (by rw [List.map_cons, List.map_cons, hf])
set_option maxRecDepth 100000 in
theorem wo_set {l : Launch} {E : Ev} {b o : Nat} {v1 : Int32} {v2 : Int32} {g : Nat → Int64} {wc : va_W} {fs : List Value} {post : Option Value → va_W → Prop} (hM : Ct l E yX5_set cX5_set 4 (some FieldType.int) 7 110 [.ref b, .int v1, .int v2] wc post) (hq : PoR wc post) (hr : wc[0]? = some (b, .inr (5, fs))) : CtX l E yL_set method_21_code 5 (some FieldType.int) [(0, 10, 13, 13)] 8 133 [.ref b, .int v1, .int v2, .ref o] ((o, .inl (eJ E, 1, .inr (.inl g))) :: wc) (WOk E o g post) := by
  refine ctx_of (by decide +kernel) (Nat.le_of_ble_eq_true rfl) (fun ω ω9 C C9 RT up TC => ?_)
  refine up _ _ _ _ ?_
  show ω9 _ [(0, .ref b), (1, .int v1), (2, .int v2), (3, .ref o)] [] 0
  refine r_aload_n C9 (i := 3) 3 dL_set_0 rfl rfl ?_
  refine r_iconst C9 dL_set_1 ki_0 ?_
  refine r_aload_n C9 (i := 0) 0 dL_set_2 rfl rfl ?_
  refine r_iload_n C9 (i := 1) 1 dL_set_3 rfl rfl ?_
  refine r_iload_n C9 (i := 2) 2 dL_set_4 rfl rfl ?_
  refine r_callV (rest := [.int (nI 0), .ref o]) C9 hM lk_X5_set w_4_150 (List.range' 1 wc.length) (ci := 5) rfl dL_set_5 rfl (cut1 _ _) (ndR _ _) hr ⟨by decide, by decide⟩ (Nat.le_of_ble_eq_true rfl) (fun v w hp => ?_)
  obtain ⟨⟨r, rfl⟩, hf⟩ := hq v w hp
  rw [mrg1 _ hf]
  show ω9 _ [(0, .ref b), (1, .int v1), (2, .int v2), (3, .ref o)] [.int r, .int (nI 0), .ref o] 8
  refine r_i2l (v := r.toInt64) C9 dL_set_8 rfl ?_
  refine r_last (j := 0) (ws' := (o, .inl (eJ E, 1, .inr (.inl (vp_updL g 0 r.toInt64)))) :: w) C9 0 rfl (by decide) (by decide) rfl dL_set_9 ?_
  refine r_goto C9 17 dL_set_10 (by decide) ?_
  refine r_iconst C9 dL_set_17 ki_0 ?_
  exact RT.1 _ _ _ _ _ dL_set_18 rfl rfl ⟨r, w, hp, rfl, rfl⟩ (by rw [List.map_cons, List.map_cons, hf])
set_option maxRecDepth 100000 in
theorem wn_set_A {l : Launch} {E : Ev} {b o : Nat} {v1 : Int32} {v2 : Int32} {g : Nat → Int64} {wc : va_W} {fs : List Value} {pw : va_W → Prop} (hM : Th l E yX5_set cX5_set 4 (some FieldType.int) 7 110 [.ref b, .int v1, .int v2] wc pw "java/lang/IllegalArgumentException") (hr : wc[0]? = some (b, .inr (5, fs))) : CtX l E yL_set method_21_code 5 (some FieldType.int) [(0, 10, 13, 13)] 8 133 [.ref b, .int v1, .int v2, .ref o] ((o, .inl (eJ E, 1, .inr (.inl g))) :: wc) (WNo E o g pw 1) := by
  refine ctx_of (by decide +kernel) (Nat.le_of_ble_eq_true rfl) (fun ω ω9 C C9 RT up TC => ?_)
  show ω _ [(0, .ref b), (1, .int v1), (2, .int v2), (3, .ref o)] [] 0
  refine r_aload_n C (i := 3) 3 dL_set_0 rfl rfl ?_
  refine r_iconst C dL_set_1 ki_0 ?_
  refine r_aload_n C (i := 0) 0 dL_set_2 rfl rfl ?_
  refine r_iload_n C (i := 1) 1 dL_set_3 rfl rfl ?_
  refine r_iload_n C (i := 2) 2 dL_set_4 rfl rfl ?_
  refine TC "java/lang/IllegalArgumentException" [] (0, 10, 13, 13) [] rfl (fun _ h => absurd h List.not_mem_nil) (by decide) w_2_153 cs_A _ pw _ _ [.int (nI 0), .ref o] _ 5 _ _ _ _ _ 5 _ _ _ _ _ (List.range' 1 wc.length) _ _ hM lk_X5_set w_4_150 rfl dL_set_5 rfl (cut1 _ _) (ndR _ _) hr ⟨by decide, by decide⟩ (Nat.le_of_ble_eq_true rfl) ⟨by decide, by decide⟩ (fun w q hw hf => ?_)
  rw [mrg1 _ hf]
  show ω9 _ [(0, .ref b), (1, .int v1), (2, .int v2), (3, .ref o)] [.ref q] 13
  refine r_astore C9 (lv' := [(4, .ref q), (0, .ref b), (1, .int v1), (2, .int v2), (3, .ref o)]) dL_set_13 (by decide) rfl ?_
  refine r_iconst C9 dL_set_15 ki_1 ?_
  exact RT.1 _ _ _ _ _ dL_set_16 rfl rfl ⟨w, hw, rfl, rfl⟩ (by rw [List.map_cons, List.map_cons, hf])
set_option maxRecDepth 100000 in
theorem wo_undo {l : Launch} {E : Ev} {b o : Nat} {g : Nat → Int64} {wc : va_W} {fs : List Value} {post : Option Value → va_W → Prop} (hM : Ct l E yX5_undo cX5_undo 1 (some FieldType.int) 6 90 [.ref b] wc post) (hq : PoR wc post) (hr : wc[0]? = some (b, .inr (5, fs))) : CtX l E yL_undo method_22_code 3 (some FieldType.int) [(0, 8, 11, 15)] 7 110 [.ref b, .ref o] ((o, .inl (eJ E, 1, .inr (.inl g))) :: wc) (WOk E o g post) := by
  refine ctx_of (by decide +kernel) (Nat.le_of_ble_eq_true rfl) (fun ω ω9 C C9 RT up TC => ?_)
  refine up _ _ _ _ ?_
  show ω9 _ [(0, .ref b), (1, .ref o)] [] 0
  refine r_aload_n C9 (i := 1) 1 dL_undo_0 rfl rfl ?_
  refine r_iconst C9 dL_undo_1 ki_0 ?_
  refine r_aload_n C9 (i := 0) 0 dL_undo_2 rfl rfl ?_
  refine r_callV (rest := [.int (nI 0), .ref o]) C9 hM lk_X5_undo w_4_162 (List.range' 1 wc.length) (ci := 5) rfl dL_undo_3 rfl (cut1 _ _) (ndR _ _) hr ⟨by decide, by decide⟩ (Nat.le_of_ble_eq_true rfl) (fun v w hp => ?_)
  obtain ⟨⟨r, rfl⟩, hf⟩ := hq v w hp
  rw [mrg1 _ hf]
  show ω9 _ [(0, .ref b), (1, .ref o)] [.int r, .int (nI 0), .ref o] 6
  refine r_i2l (v := r.toInt64) C9 dL_undo_6 rfl ?_
  refine r_last (j := 0) (ws' := (o, .inl (eJ E, 1, .inr (.inl (vp_updL g 0 r.toInt64)))) :: w) C9 0 rfl (by decide) (by decide) rfl dL_undo_7 ?_
  refine r_goto C9 14 dL_undo_8 (by decide) ?_
  refine r_iconst C9 dL_undo_14 ki_0 ?_
  exact RT.1 _ _ _ _ _ dL_undo_15 rfl rfl ⟨r, w, hp, rfl, rfl⟩ (by rw [List.map_cons, List.map_cons, hf])
set_option maxRecDepth 100000 in
theorem wn_undo_S {l : Launch} {E : Ev} {b o : Nat} {g : Nat → Int64} {wc : va_W} {fs : List Value} {pw : va_W → Prop} (hM : Th l E yX5_undo cX5_undo 1 (some FieldType.int) 6 90 [.ref b] wc pw "java/lang/IllegalStateException") (hr : wc[0]? = some (b, .inr (5, fs))) : CtX l E yL_undo method_22_code 3 (some FieldType.int) [(0, 8, 11, 15)] 7 110 [.ref b, .ref o] ((o, .inl (eJ E, 1, .inr (.inl g))) :: wc) (WNo E o g pw 1) := by
  refine ctx_of (by decide +kernel) (Nat.le_of_ble_eq_true rfl) (fun ω ω9 C C9 RT up TC => ?_)
  show ω _ [(0, .ref b), (1, .ref o)] [] 0
  refine r_aload_n C (i := 1) 1 dL_undo_0 rfl rfl ?_
  refine r_iconst C dL_undo_1 ki_0 ?_
  refine r_aload_n C (i := 0) 0 dL_undo_2 rfl rfl ?_
  refine TC "java/lang/IllegalStateException" [] (0, 8, 11, 15) [] rfl (fun _ h => absurd h List.not_mem_nil) (by decide) w_2_154 cs_S _ pw _ _ [.int (nI 0), .ref o] _ 3 _ _ _ _ _ 5 _ _ _ _ _ (List.range' 1 wc.length) _ _ hM lk_X5_undo w_4_162 rfl dL_undo_3 rfl (cut1 _ _) (ndR _ _) hr ⟨by decide, by decide⟩ (Nat.le_of_ble_eq_true rfl) ⟨by decide, by decide⟩ (fun w q hw hf => ?_)
  rw [mrg1 _ hf]
  show ω9 _ [(0, .ref b), (1, .ref o)] [.ref q] 11
  refine r_astore_n C9 (lv' := [(2, .ref q), (0, .ref b), (1, .ref o)]) dL_undo_11 rfl (by decide) rfl ?_
  refine r_iconst C9 dL_undo_12 ki_1 ?_
  exact RT.1 _ _ _ _ _ dL_undo_13 rfl rfl ⟨w, hw, rfl, rfl⟩ (by rw [List.map_cons, List.map_cons, hf])
set_option maxRecDepth 100000 in
theorem wo_find {l : Launch} {E : Ev} {b o : Nat} {v1 : Int32} {v2 : Int32} {v3 : Int32} {g : Nat → Int64} {wc : va_W} {fs : List Value} {post : Option Value → va_W → Prop} (hM : Ct l E yX5_find cX5_find 7 (some FieldType.int) 7 119 [.ref b, .int v1, .int v2, .int v3] wc post) (hq : PoR wc post) (hr : wc[0]? = some (b, .inr (5, fs))) : CtX l E yL_find method_23_code 6 (some FieldType.int) [(0, 12, 15, 28), (0, 12, 19, 13)] 8 145 [.ref b, .int v1, .int v2, .int v3, .ref o] ((o, .inl (eJ E, 1, .inr (.inl g))) :: wc) (WOk E o g post) := by
  refine ctx_of (by decide +kernel) (Nat.le_of_ble_eq_true rfl) (fun ω ω9 C C9 RT up TC => ?_)
  refine up _ _ _ _ ?_
  show ω9 _ [(0, .ref b), (1, .int v1), (2, .int v2), (3, .int v3), (4, .ref o)] [] 0
  refine r_aload C9 (i := 4) 4 dL_find_0 rfl ?_
  refine r_iconst C9 dL_find_2 ki_0 ?_
  refine r_aload_n C9 (i := 0) 0 dL_find_3 rfl rfl ?_
  refine r_iload_n C9 (i := 1) 1 dL_find_4 rfl rfl ?_
  refine r_iload_n C9 (i := 2) 2 dL_find_5 rfl rfl ?_
  refine r_iload_n C9 (i := 3) 3 dL_find_6 rfl rfl ?_
  refine r_callV (rest := [.int (nI 0), .ref o]) C9 hM lk_X5_find w_4_182 (List.range' 1 wc.length) (ci := 5) rfl dL_find_7 rfl (cut1 _ _) (ndR _ _) hr ⟨by decide, by decide⟩ (Nat.le_of_ble_eq_true rfl) (fun v w hp => ?_)
  obtain ⟨⟨r, rfl⟩, hf⟩ := hq v w hp
  rw [mrg1 _ hf]
  show ω9 _ [(0, .ref b), (1, .int v1), (2, .int v2), (3, .int v3), (4, .ref o)] [.int r, .int (nI 0), .ref o] 10
  refine r_i2l (v := r.toInt64) C9 dL_find_10 rfl ?_
  refine r_last (j := 0) (ws' := (o, .inl (eJ E, 1, .inr (.inl (vp_updL g 0 r.toInt64)))) :: w) C9 0 rfl (by decide) (by decide) rfl dL_find_11 ?_
  refine r_goto C9 23 dL_find_12 (by decide) ?_
  refine r_iconst C9 dL_find_23 ki_0 ?_
  exact RT.1 _ _ _ _ _ dL_find_24 rfl rfl ⟨r, w, hp, rfl, rfl⟩ (by rw [List.map_cons, List.map_cons, hf])
set_option maxRecDepth 100000 in
theorem wn_find_B {l : Launch} {E : Ev} {b o : Nat} {v1 : Int32} {v2 : Int32} {v3 : Int32} {g : Nat → Int64} {wc : va_W} {fs : List Value} {pw : va_W → Prop} (hM : Th l E yX5_find cX5_find 7 (some FieldType.int) 7 119 [.ref b, .int v1, .int v2, .int v3] wc pw "java/lang/IndexOutOfBoundsException") (hr : wc[0]? = some (b, .inr (5, fs))) : CtX l E yL_find method_23_code 6 (some FieldType.int) [(0, 12, 15, 28), (0, 12, 19, 13)] 8 145 [.ref b, .int v1, .int v2, .int v3, .ref o] ((o, .inl (eJ E, 1, .inr (.inl g))) :: wc) (WNo E o g pw 1) := by
  refine ctx_of (by decide +kernel) (Nat.le_of_ble_eq_true rfl) (fun ω ω9 C C9 RT up TC => ?_)
  show ω _ [(0, .ref b), (1, .int v1), (2, .int v2), (3, .int v3), (4, .ref o)] [] 0
  refine r_aload C (i := 4) 4 dL_find_0 rfl ?_
  refine r_iconst C dL_find_2 ki_0 ?_
  refine r_aload_n C (i := 0) 0 dL_find_3 rfl rfl ?_
  refine r_iload_n C (i := 1) 1 dL_find_4 rfl rfl ?_
  refine r_iload_n C (i := 2) 2 dL_find_5 rfl rfl ?_
  refine r_iload_n C (i := 3) 3 dL_find_6 rfl rfl ?_
  refine TC "java/lang/IndexOutOfBoundsException" [] (0, 12, 15, 28) [(0, 12, 19, 13)] rfl (fun _ h => absurd h List.not_mem_nil) (by decide) w_3_144 cs_B _ pw _ _ [.int (nI 0), .ref o] _ 7 _ _ _ _ _ 5 _ _ _ _ _ (List.range' 1 wc.length) _ _ hM lk_X5_find w_4_182 rfl dL_find_7 rfl (cut1 _ _) (ndR _ _) hr ⟨by decide, by decide⟩ (Nat.le_of_ble_eq_true rfl) ⟨by decide, by decide⟩ (fun w q hw hf => ?_)
  rw [mrg1 _ hf]
  show ω9 _ [(0, .ref b), (1, .int v1), (2, .int v2), (3, .int v3), (4, .ref o)] [.ref q] 15
  refine r_astore C9 (lv' := [(5, .ref q), (0, .ref b), (1, .int v1), (2, .int v2), (3, .int v3), (4, .ref o)]) dL_find_15 (by decide) rfl ?_
  refine r_iconst C9 dL_find_17 ki_1 ?_
  exact RT.1 _ _ _ _ _ dL_find_18 rfl rfl ⟨w, hw, rfl, rfl⟩ (by rw [List.map_cons, List.map_cons, hf])
set_option maxRecDepth 100000 in
theorem wn_find_A {l : Launch} {E : Ev} {b o : Nat} {v1 : Int32} {v2 : Int32} {v3 : Int32} {g : Nat → Int64} {wc : va_W} {fs : List Value} {pw : va_W → Prop} (hM : Th l E yX5_find cX5_find 7 (some FieldType.int) 7 119 [.ref b, .int v1, .int v2, .int v3] wc pw "java/lang/IllegalArgumentException") (hr : wc[0]? = some (b, .inr (5, fs))) : CtX l E yL_find method_23_code 6 (some FieldType.int) [(0, 12, 15, 28), (0, 12, 19, 13)] 8 145 [.ref b, .int v1, .int v2, .int v3, .ref o] ((o, .inl (eJ E, 1, .inr (.inl g))) :: wc) (WNo E o g pw 2) := by
  refine ctx_of (by decide +kernel) (Nat.le_of_ble_eq_true rfl) (fun ω ω9 C C9 RT up TC => ?_)
  show ω _ [(0, .ref b), (1, .int v1), (2, .int v2), (3, .int v3), (4, .ref o)] [] 0
  refine r_aload C (i := 4) 4 dL_find_0 rfl ?_
  refine r_iconst C dL_find_2 ki_0 ?_
  refine r_aload_n C (i := 0) 0 dL_find_3 rfl rfl ?_
  refine r_iload_n C (i := 1) 1 dL_find_4 rfl rfl ?_
  refine r_iload_n C (i := 2) 2 dL_find_5 rfl rfl ?_
  refine r_iload_n C (i := 3) 3 dL_find_6 rfl rfl ?_
  refine TC "java/lang/IllegalArgumentException" [(0, 12, 15, 28)] (0, 12, 19, 13) [] rfl (List.forall_mem_cons.mpr ⟨⟨by decide, "java/lang/IndexOutOfBoundsException", w_3_144, nc_AB⟩, fun _ h => absurd h List.not_mem_nil⟩) (by decide) w_2_153 cs_A _ pw _ _ [.int (nI 0), .ref o] _ 7 _ _ _ _ _ 5 _ _ _ _ _ (List.range' 1 wc.length) _ _ hM lk_X5_find w_4_182 rfl dL_find_7 rfl (cut1 _ _) (ndR _ _) hr ⟨by decide, by decide⟩ (Nat.le_of_ble_eq_true rfl) ⟨by decide, by decide⟩ (fun w q hw hf => ?_)
  rw [mrg1 _ hf]
  show ω9 _ [(0, .ref b), (1, .int v1), (2, .int v2), (3, .int v3), (4, .ref o)] [.ref q] 19
  refine r_astore C9 (lv' := [(5, .ref q), (0, .ref b), (1, .int v1), (2, .int v2), (3, .int v3), (4, .ref o)]) dL_find_19 (by decide) rfl ?_
  refine r_iconst C9 dL_find_21 ki_2 ?_
  exact RT.1 _ _ _ _ _ dL_find_22 rfl rfl ⟨w, hw, rfl, rfl⟩ (by rw [List.map_cons, List.map_cons, hf])
set_option maxRecDepth 100000 in
theorem wo_together {l : Launch} {E : Ev} {b o : Nat} {v1 : Int32} {v2 : Int32} {g : Nat → Int64} {wc : va_W} {fs : List Value} {post : Option Value → va_W → Prop} (hM : Ct l E yX5_together cX5_together 3 (some FieldType.int) 7 118 [.ref b, .int v1, .int v2] wc post) (hq : PoR wc post) (hr : wc[0]? = some (b, .inr (5, fs))) : CtX l E yL_together method_24_code 5 (some FieldType.int) [(0, 10, 13, 28)] 8 140 [.ref b, .int v1, .int v2, .ref o] ((o, .inl (eJ E, 1, .inr (.inl g))) :: wc) (WOk E o g post) := by
  refine ctx_of (by decide +kernel) (Nat.le_of_ble_eq_true rfl) (fun ω ω9 C C9 RT up TC => ?_)
  refine up _ _ _ _ ?_
  show ω9 _ [(0, .ref b), (1, .int v1), (2, .int v2), (3, .ref o)] [] 0
  refine r_aload_n C9 (i := 3) 3 dL_together_0 rfl rfl ?_
  refine r_iconst C9 dL_together_1 ki_0 ?_
  refine r_aload_n C9 (i := 0) 0 dL_together_2 rfl rfl ?_
  refine r_iload_n C9 (i := 1) 1 dL_together_3 rfl rfl ?_
  refine r_iload_n C9 (i := 2) 2 dL_together_4 rfl rfl ?_
  refine r_callV (rest := [.int (nI 0), .ref o]) C9 hM lk_X5_together w_4_194 (List.range' 1 wc.length) (ci := 5) rfl dL_together_5 rfl (cut1 _ _) (ndR _ _) hr ⟨by decide, by decide⟩ (Nat.le_of_ble_eq_true rfl) (fun v w hp => ?_)
  obtain ⟨⟨r, rfl⟩, hf⟩ := hq v w hp
  rw [mrg1 _ hf]
  show ω9 _ [(0, .ref b), (1, .int v1), (2, .int v2), (3, .ref o)] [.int r, .int (nI 0), .ref o] 8
  refine r_i2l (v := r.toInt64) C9 dL_together_8 rfl ?_
  refine r_last (j := 0) (ws' := (o, .inl (eJ E, 1, .inr (.inl (vp_updL g 0 r.toInt64)))) :: w) C9 0 rfl (by decide) (by decide) rfl dL_together_9 ?_
  refine r_goto C9 17 dL_together_10 (by decide) ?_
  refine r_iconst C9 dL_together_17 ki_0 ?_
  exact RT.1 _ _ _ _ _ dL_together_18 rfl rfl ⟨r, w, hp, rfl, rfl⟩ (by rw [List.map_cons, List.map_cons, hf])
set_option maxRecDepth 100000 in
theorem wn_together_B {l : Launch} {E : Ev} {b o : Nat} {v1 : Int32} {v2 : Int32} {g : Nat → Int64} {wc : va_W} {fs : List Value} {pw : va_W → Prop} (hM : Th l E yX5_together cX5_together 3 (some FieldType.int) 7 118 [.ref b, .int v1, .int v2] wc pw "java/lang/IndexOutOfBoundsException") (hr : wc[0]? = some (b, .inr (5, fs))) : CtX l E yL_together method_24_code 5 (some FieldType.int) [(0, 10, 13, 28)] 8 140 [.ref b, .int v1, .int v2, .ref o] ((o, .inl (eJ E, 1, .inr (.inl g))) :: wc) (WNo E o g pw 1) := by
  refine ctx_of (by decide +kernel) (Nat.le_of_ble_eq_true rfl) (fun ω ω9 C C9 RT up TC => ?_)
  show ω _ [(0, .ref b), (1, .int v1), (2, .int v2), (3, .ref o)] [] 0
  refine r_aload_n C (i := 3) 3 dL_together_0 rfl rfl ?_
  refine r_iconst C dL_together_1 ki_0 ?_
  refine r_aload_n C (i := 0) 0 dL_together_2 rfl rfl ?_
  refine r_iload_n C (i := 1) 1 dL_together_3 rfl rfl ?_
  refine r_iload_n C (i := 2) 2 dL_together_4 rfl rfl ?_
  refine TC "java/lang/IndexOutOfBoundsException" [] (0, 10, 13, 28) [] rfl (fun _ h => absurd h List.not_mem_nil) (by decide) w_3_144 cs_B _ pw _ _ [.int (nI 0), .ref o] _ 5 _ _ _ _ _ 5 _ _ _ _ _ (List.range' 1 wc.length) _ _ hM lk_X5_together w_4_194 rfl dL_together_5 rfl (cut1 _ _) (ndR _ _) hr ⟨by decide, by decide⟩ (Nat.le_of_ble_eq_true rfl) ⟨by decide, by decide⟩ (fun w q hw hf => ?_)
  rw [mrg1 _ hf]
  show ω9 _ [(0, .ref b), (1, .int v1), (2, .int v2), (3, .ref o)] [.ref q] 13
  refine r_astore C9 (lv' := [(4, .ref q), (0, .ref b), (1, .int v1), (2, .int v2), (3, .ref o)]) dL_together_13 (by decide) rfl ?_
  refine r_iconst C9 dL_together_15 ki_1 ?_
  exact RT.1 _ _ _ _ _ dL_together_16 rfl rfl ⟨w, hw, rfl, rfl⟩ (by rw [List.map_cons, List.map_cons, hf])
set_option maxRecDepth 100000 in
theorem wo_longest {l : Launch} {E : Ev} {b o : Nat} {v1 : Int32} {v2 : Int32} {g : Nat → Int64} {wc : va_W} {fs : List Value} {post : Option Value → va_W → Prop} (hM : Ct l E yX5_longest cX5_longest 7 (some FieldType.int) 7 119 [.ref b, .int v1, .int v2] wc post) (hq : PoR wc post) (hr : wc[0]? = some (b, .inr (5, fs))) : CtX l E yL_longest method_25_code 5 (some FieldType.int) [(0, 10, 13, 28)] 8 145 [.ref b, .int v1, .int v2, .ref o] ((o, .inl (eJ E, 1, .inr (.inl g))) :: wc) (WOk E o g post) := by
  refine ctx_of (by decide +kernel) (Nat.le_of_ble_eq_true rfl) (fun ω ω9 C C9 RT up TC => ?_)
  refine up _ _ _ _ ?_
  show ω9 _ [(0, .ref b), (1, .int v1), (2, .int v2), (3, .ref o)] [] 0
  refine r_aload_n C9 (i := 3) 3 dL_longest_0 rfl rfl ?_
  refine r_iconst C9 dL_longest_1 ki_0 ?_
  refine r_aload_n C9 (i := 0) 0 dL_longest_2 rfl rfl ?_
  refine r_iload_n C9 (i := 1) 1 dL_longest_3 rfl rfl ?_
  refine r_iload_n C9 (i := 2) 2 dL_longest_4 rfl rfl ?_
  refine r_callV (rest := [.int (nI 0), .ref o]) C9 hM lk_X5_longest w_4_201 (List.range' 1 wc.length) (ci := 5) rfl dL_longest_5 rfl (cut1 _ _) (ndR _ _) hr ⟨by decide, by decide⟩ (Nat.le_of_ble_eq_true rfl) (fun v w hp => ?_)
  obtain ⟨⟨r, rfl⟩, hf⟩ := hq v w hp
  rw [mrg1 _ hf]
  show ω9 _ [(0, .ref b), (1, .int v1), (2, .int v2), (3, .ref o)] [.int r, .int (nI 0), .ref o] 8
  refine r_i2l (v := r.toInt64) C9 dL_longest_8 rfl ?_
  refine r_last (j := 0) (ws' := (o, .inl (eJ E, 1, .inr (.inl (vp_updL g 0 r.toInt64)))) :: w) C9 0 rfl (by decide) (by decide) rfl dL_longest_9 ?_
  refine r_goto C9 17 dL_longest_10 (by decide) ?_
  refine r_iconst C9 dL_longest_17 ki_0 ?_
  exact RT.1 _ _ _ _ _ dL_longest_18 rfl rfl ⟨r, w, hp, rfl, rfl⟩ (by rw [List.map_cons, List.map_cons, hf])
set_option maxRecDepth 100000 in
theorem wn_longest_B {l : Launch} {E : Ev} {b o : Nat} {v1 : Int32} {v2 : Int32} {g : Nat → Int64} {wc : va_W} {fs : List Value} {pw : va_W → Prop} (hM : Th l E yX5_longest cX5_longest 7 (some FieldType.int) 7 119 [.ref b, .int v1, .int v2] wc pw "java/lang/IndexOutOfBoundsException") (hr : wc[0]? = some (b, .inr (5, fs))) : CtX l E yL_longest method_25_code 5 (some FieldType.int) [(0, 10, 13, 28)] 8 145 [.ref b, .int v1, .int v2, .ref o] ((o, .inl (eJ E, 1, .inr (.inl g))) :: wc) (WNo E o g pw 1) := by
  refine ctx_of (by decide +kernel) (Nat.le_of_ble_eq_true rfl) (fun ω ω9 C C9 RT up TC => ?_)
  show ω _ [(0, .ref b), (1, .int v1), (2, .int v2), (3, .ref o)] [] 0
  refine r_aload_n C (i := 3) 3 dL_longest_0 rfl rfl ?_
  refine r_iconst C dL_longest_1 ki_0 ?_
  refine r_aload_n C (i := 0) 0 dL_longest_2 rfl rfl ?_
  refine r_iload_n C (i := 1) 1 dL_longest_3 rfl rfl ?_
  refine r_iload_n C (i := 2) 2 dL_longest_4 rfl rfl ?_
  refine TC "java/lang/IndexOutOfBoundsException" [] (0, 10, 13, 28) [] rfl (fun _ h => absurd h List.not_mem_nil) (by decide) w_3_144 cs_B _ pw _ _ [.int (nI 0), .ref o] _ 5 _ _ _ _ _ 5 _ _ _ _ _ (List.range' 1 wc.length) _ _ hM lk_X5_longest w_4_201 rfl dL_longest_5 rfl (cut1 _ _) (ndR _ _) hr ⟨by decide, by decide⟩ (Nat.le_of_ble_eq_true rfl) ⟨by decide, by decide⟩ (fun w q hw hf => ?_)
  rw [mrg1 _ hf]
  show ω9 _ [(0, .ref b), (1, .int v1), (2, .int v2), (3, .ref o)] [.ref q] 13
  refine r_astore C9 (lv' := [(4, .ref q), (0, .ref b), (1, .int v1), (2, .int v2), (3, .ref o)]) dL_longest_13 (by decide) rfl ?_
  refine r_iconst C9 dL_longest_15 ki_1 ?_
  exact RT.1 _ _ _ _ _ dL_longest_16 rfl rfl ⟨w, hw, rfl, rfl⟩ (by rw [List.map_cons, List.map_cons, hf])
set_option maxRecDepth 100000 in
theorem wo_ifIll {l : Launch} {E : Ev} {b o : Nat} {v1 : Int32} {v2 : Int32} {v3 : Int32} {g : Nat → Int64} {wc : va_W} {fs : List Value} {post : Option Value → va_W → Prop} (hM : Ct l E yX5_ifIll cX5_ifIll 4 (some FieldType.int) 7 111 [.ref b, .int v1, .int v2, .int v3] wc post) (hq : PoR wc post) (hr : wc[0]? = some (b, .inr (5, fs))) : CtX l E yL_ifIll method_26_code 6 (some FieldType.int) [(0, 12, 15, 28), (0, 12, 19, 13)] 8 134 [.ref b, .int v1, .int v2, .int v3, .ref o] ((o, .inl (eJ E, 1, .inr (.inl g))) :: wc) (WOk E o g post) := by
  refine ctx_of (by decide +kernel) (Nat.le_of_ble_eq_true rfl) (fun ω ω9 C C9 RT up TC => ?_)
  refine up _ _ _ _ ?_
  show ω9 _ [(0, .ref b), (1, .int v1), (2, .int v2), (3, .int v3), (4, .ref o)] [] 0
  refine r_aload C9 (i := 4) 4 dL_ifIll_0 rfl ?_
  refine r_iconst C9 dL_ifIll_2 ki_0 ?_
  refine r_aload_n C9 (i := 0) 0 dL_ifIll_3 rfl rfl ?_
  refine r_iload_n C9 (i := 1) 1 dL_ifIll_4 rfl rfl ?_
  refine r_iload_n C9 (i := 2) 2 dL_ifIll_5 rfl rfl ?_
  refine r_iload_n C9 (i := 3) 3 dL_ifIll_6 rfl rfl ?_
  refine r_callV (rest := [.int (nI 0), .ref o]) C9 hM lk_X5_ifIll w_4_211 (List.range' 1 wc.length) (ci := 5) rfl dL_ifIll_7 rfl (cut1 _ _) (ndR _ _) hr ⟨by decide, by decide⟩ (Nat.le_of_ble_eq_true rfl) (fun v w hp => ?_)
  obtain ⟨⟨r, rfl⟩, hf⟩ := hq v w hp
  rw [mrg1 _ hf]
  show ω9 _ [(0, .ref b), (1, .int v1), (2, .int v2), (3, .int v3), (4, .ref o)] [.int r, .int (nI 0), .ref o] 10
  refine r_i2l (v := r.toInt64) C9 dL_ifIll_10 rfl ?_
  refine r_last (j := 0) (ws' := (o, .inl (eJ E, 1, .inr (.inl (vp_updL g 0 r.toInt64)))) :: w) C9 0 rfl (by decide) (by decide) rfl dL_ifIll_11 ?_
  refine r_goto C9 23 dL_ifIll_12 (by decide) ?_
  refine r_iconst C9 dL_ifIll_23 ki_0 ?_
  exact RT.1 _ _ _ _ _ dL_ifIll_24 rfl rfl ⟨r, w, hp, rfl, rfl⟩ (by rw [List.map_cons, List.map_cons, hf])
set_option maxRecDepth 100000 in
theorem wn_ifIll_B {l : Launch} {E : Ev} {b o : Nat} {v1 : Int32} {v2 : Int32} {v3 : Int32} {g : Nat → Int64} {wc : va_W} {fs : List Value} {pw : va_W → Prop} (hM : Th l E yX5_ifIll cX5_ifIll 4 (some FieldType.int) 7 111 [.ref b, .int v1, .int v2, .int v3] wc pw "java/lang/IndexOutOfBoundsException") (hr : wc[0]? = some (b, .inr (5, fs))) : CtX l E yL_ifIll method_26_code 6 (some FieldType.int) [(0, 12, 15, 28), (0, 12, 19, 13)] 8 134 [.ref b, .int v1, .int v2, .int v3, .ref o] ((o, .inl (eJ E, 1, .inr (.inl g))) :: wc) (WNo E o g pw 1) := by
  refine ctx_of (by decide +kernel) (Nat.le_of_ble_eq_true rfl) (fun ω ω9 C C9 RT up TC => ?_)
  show ω _ [(0, .ref b), (1, .int v1), (2, .int v2), (3, .int v3), (4, .ref o)] [] 0
  refine r_aload C (i := 4) 4 dL_ifIll_0 rfl ?_
  refine r_iconst C dL_ifIll_2 ki_0 ?_
  refine r_aload_n C (i := 0) 0 dL_ifIll_3 rfl rfl ?_
  refine r_iload_n C (i := 1) 1 dL_ifIll_4 rfl rfl ?_
  refine r_iload_n C (i := 2) 2 dL_ifIll_5 rfl rfl ?_
  refine r_iload_n C (i := 3) 3 dL_ifIll_6 rfl rfl ?_
  refine TC "java/lang/IndexOutOfBoundsException" [] (0, 12, 15, 28) [(0, 12, 19, 13)] rfl (fun _ h => absurd h List.not_mem_nil) (by decide) w_3_144 cs_B _ pw _ _ [.int (nI 0), .ref o] _ 7 _ _ _ _ _ 5 _ _ _ _ _ (List.range' 1 wc.length) _ _ hM lk_X5_ifIll w_4_211 rfl dL_ifIll_7 rfl (cut1 _ _) (ndR _ _) hr ⟨by decide, by decide⟩ (Nat.le_of_ble_eq_true rfl) ⟨by decide, by decide⟩ (fun w q hw hf => ?_)
  rw [mrg1 _ hf]
  show ω9 _ [(0, .ref b), (1, .int v1), (2, .int v2), (3, .int v3), (4, .ref o)] [.ref q] 15
  refine r_astore C9 (lv' := [(5, .ref q), (0, .ref b), (1, .int v1), (2, .int v2), (3, .int v3), (4, .ref o)]) dL_ifIll_15 (by decide) rfl ?_
  refine r_iconst C9 dL_ifIll_17 ki_1 ?_
  exact RT.1 _ _ _ _ _ dL_ifIll_18 rfl rfl ⟨w, hw, rfl, rfl⟩ (by rw [List.map_cons, List.map_cons, hf])
set_option maxRecDepth 100000 in
theorem wn_ifIll_A {l : Launch} {E : Ev} {b o : Nat} {v1 : Int32} {v2 : Int32} {v3 : Int32} {g : Nat → Int64} {wc : va_W} {fs : List Value} {pw : va_W → Prop} (hM : Th l E yX5_ifIll cX5_ifIll 4 (some FieldType.int) 7 111 [.ref b, .int v1, .int v2, .int v3] wc pw "java/lang/IllegalArgumentException") (hr : wc[0]? = some (b, .inr (5, fs))) : CtX l E yL_ifIll method_26_code 6 (some FieldType.int) [(0, 12, 15, 28), (0, 12, 19, 13)] 8 134 [.ref b, .int v1, .int v2, .int v3, .ref o] ((o, .inl (eJ E, 1, .inr (.inl g))) :: wc) (WNo E o g pw 2) := by
  refine ctx_of (by decide +kernel) (Nat.le_of_ble_eq_true rfl) (fun ω ω9 C C9 RT up TC => ?_)
  show ω _ [(0, .ref b), (1, .int v1), (2, .int v2), (3, .int v3), (4, .ref o)] [] 0
  refine r_aload C (i := 4) 4 dL_ifIll_0 rfl ?_
  refine r_iconst C dL_ifIll_2 ki_0 ?_
  refine r_aload_n C (i := 0) 0 dL_ifIll_3 rfl rfl ?_
  refine r_iload_n C (i := 1) 1 dL_ifIll_4 rfl rfl ?_
  refine r_iload_n C (i := 2) 2 dL_ifIll_5 rfl rfl ?_
  refine r_iload_n C (i := 3) 3 dL_ifIll_6 rfl rfl ?_
  refine TC "java/lang/IllegalArgumentException" [(0, 12, 15, 28)] (0, 12, 19, 13) [] rfl (List.forall_mem_cons.mpr ⟨⟨by decide, "java/lang/IndexOutOfBoundsException", w_3_144, nc_AB⟩, fun _ h => absurd h List.not_mem_nil⟩) (by decide) w_2_153 cs_A _ pw _ _ [.int (nI 0), .ref o] _ 7 _ _ _ _ _ 5 _ _ _ _ _ (List.range' 1 wc.length) _ _ hM lk_X5_ifIll w_4_211 rfl dL_ifIll_7 rfl (cut1 _ _) (ndR _ _) hr ⟨by decide, by decide⟩ (Nat.le_of_ble_eq_true rfl) ⟨by decide, by decide⟩ (fun w q hw hf => ?_)
  rw [mrg1 _ hf]
  show ω9 _ [(0, .ref b), (1, .int v1), (2, .int v2), (3, .int v3), (4, .ref o)] [.ref q] 19
  refine r_astore C9 (lv' := [(5, .ref q), (0, .ref b), (1, .int v1), (2, .int v2), (3, .int v3), (4, .ref o)]) dL_ifIll_19 (by decide) rfl ?_
  refine r_iconst C9 dL_ifIll_21 ki_2 ?_
  exact RT.1 _ _ _ _ _ dL_ifIll_22 rfl rfl ⟨w, hw, rfl, rfl⟩ (by rw [List.map_cons, List.map_cons, hf])
set_option maxRecDepth 100000 in
theorem wo_bestUnderstudy {l : Launch} {E : Ev} {b o : Nat} {v1 : Int32} {g : Nat → Int64} {wc : va_W} {fs : List Value} {post : Option Value → va_W → Prop} (hM : Ct l E yX5_bestUnderstudy cX5_bestUnderstudy 6 (some FieldType.int) 7 117 [.ref b, .int v1] wc post) (hq : PoR wc post) (hr : wc[0]? = some (b, .inr (5, fs))) : CtX l E yL_bestUnderstudy method_27_code 4 (some FieldType.int) [(0, 9, 12, 28)] 8 142 [.ref b, .int v1, .ref o] ((o, .inl (eJ E, 1, .inr (.inl g))) :: wc) (WOk E o g post) := by
  refine ctx_of (by decide +kernel) (Nat.le_of_ble_eq_true rfl) (fun ω ω9 C C9 RT up TC => ?_)
  refine up _ _ _ _ ?_
  show ω9 _ [(0, .ref b), (1, .int v1), (2, .ref o)] [] 0
  refine r_aload_n C9 (i := 2) 2 dL_bestUnderstudy_0 rfl rfl ?_
  refine r_iconst C9 dL_bestUnderstudy_1 ki_0 ?_
  refine r_aload_n C9 (i := 0) 0 dL_bestUnderstudy_2 rfl rfl ?_
  refine r_iload_n C9 (i := 1) 1 dL_bestUnderstudy_3 rfl rfl ?_
  refine r_callV (rest := [.int (nI 0), .ref o]) C9 hM lk_X5_bestUnderstudy w_4_223 (List.range' 1 wc.length) (ci := 5) rfl dL_bestUnderstudy_4 rfl (cut1 _ _) (ndR _ _) hr ⟨by decide, by decide⟩ (Nat.le_of_ble_eq_true rfl) (fun v w hp => ?_)
  obtain ⟨⟨r, rfl⟩, hf⟩ := hq v w hp
  rw [mrg1 _ hf]
  show ω9 _ [(0, .ref b), (1, .int v1), (2, .ref o)] [.int r, .int (nI 0), .ref o] 7
  refine r_i2l (v := r.toInt64) C9 dL_bestUnderstudy_7 rfl ?_
  refine r_last (j := 0) (ws' := (o, .inl (eJ E, 1, .inr (.inl (vp_updL g 0 r.toInt64)))) :: w) C9 0 rfl (by decide) (by decide) rfl dL_bestUnderstudy_8 ?_
  refine r_goto C9 15 dL_bestUnderstudy_9 (by decide) ?_
  refine r_iconst C9 dL_bestUnderstudy_15 ki_0 ?_
  exact RT.1 _ _ _ _ _ dL_bestUnderstudy_16 rfl rfl ⟨r, w, hp, rfl, rfl⟩ (by rw [List.map_cons, List.map_cons, hf])
set_option maxRecDepth 100000 in
theorem wn_bestUnderstudy_B {l : Launch} {E : Ev} {b o : Nat} {v1 : Int32} {g : Nat → Int64} {wc : va_W} {fs : List Value} {pw : va_W → Prop} (hM : Th l E yX5_bestUnderstudy cX5_bestUnderstudy 6 (some FieldType.int) 7 117 [.ref b, .int v1] wc pw "java/lang/IndexOutOfBoundsException") (hr : wc[0]? = some (b, .inr (5, fs))) : CtX l E yL_bestUnderstudy method_27_code 4 (some FieldType.int) [(0, 9, 12, 28)] 8 142 [.ref b, .int v1, .ref o] ((o, .inl (eJ E, 1, .inr (.inl g))) :: wc) (WNo E o g pw 1) := by
  refine ctx_of (by decide +kernel) (Nat.le_of_ble_eq_true rfl) (fun ω ω9 C C9 RT up TC => ?_)
  show ω _ [(0, .ref b), (1, .int v1), (2, .ref o)] [] 0
  refine r_aload_n C (i := 2) 2 dL_bestUnderstudy_0 rfl rfl ?_
  refine r_iconst C dL_bestUnderstudy_1 ki_0 ?_
  refine r_aload_n C (i := 0) 0 dL_bestUnderstudy_2 rfl rfl ?_
  refine r_iload_n C (i := 1) 1 dL_bestUnderstudy_3 rfl rfl ?_
  refine TC "java/lang/IndexOutOfBoundsException" [] (0, 9, 12, 28) [] rfl (fun _ h => absurd h List.not_mem_nil) (by decide) w_3_144 cs_B _ pw _ _ [.int (nI 0), .ref o] _ 4 _ _ _ _ _ 5 _ _ _ _ _ (List.range' 1 wc.length) _ _ hM lk_X5_bestUnderstudy w_4_223 rfl dL_bestUnderstudy_4 rfl (cut1 _ _) (ndR _ _) hr ⟨by decide, by decide⟩ (Nat.le_of_ble_eq_true rfl) ⟨by decide, by decide⟩ (fun w q hw hf => ?_)
  rw [mrg1 _ hf]
  show ω9 _ [(0, .ref b), (1, .int v1), (2, .ref o)] [.ref q] 12
  refine r_astore_n C9 (lv' := [(3, .ref q), (0, .ref b), (1, .int v1), (2, .ref o)]) dL_bestUnderstudy_12 rfl (by decide) rfl ?_
  refine r_iconst C9 dL_bestUnderstudy_13 ki_1 ?_
  exact RT.1 _ _ _ _ _ dL_bestUnderstudy_14 rfl rfl ⟨w, hw, rfl, rfl⟩ (by rw [List.map_cons, List.map_cons, hf])
set_option maxRecDepth 100000 in
theorem wo_runScript {l : Launch} {E : Ev} {b o : Nat} {v1 : Int32} {v2 : Int64} {g : Nat → Int64} {wc : va_W} {fs : List Value} {post : Option Value → va_W → Prop} (hM : Ct l E yX5_runScript cX5_runScript 6 (some FieldType.int) 6 143 [.ref b, .int v1, .long v2] wc post) (hq : PoR wc post) (hr : wc[0]? = some (b, .inr (5, fs))) : CtX l E yL_runScript method_28_code 6 (some FieldType.int) [(0, 11, 14, 13)] 7 168 [.ref b, .int v1, .long v2, .ref o] ((o, .inl (eJ E, 1, .inr (.inl g))) :: wc) (WOk E o g post) := by
  refine ctx_of (by decide +kernel) (Nat.le_of_ble_eq_true rfl) (fun ω ω9 C C9 RT up TC => ?_)
  refine up _ _ _ _ ?_
  show ω9 _ [(0, .ref b), (1, .int v1), (2, .long v2), (4, .ref o)] [] 0
  refine r_aload C9 (i := 4) 3 dL_runScript_0 rfl ?_
  refine r_iconst C9 dL_runScript_2 ki_0 ?_
  refine r_aload_n C9 (i := 0) 0 dL_runScript_3 rfl rfl ?_
  refine r_iload_n C9 (i := 1) 1 dL_runScript_4 rfl rfl ?_
  refine r_lload_n C9 (i := 2) 2 dL_runScript_5 rfl rfl ?_
  refine r_callV (rest := [.int (nI 0), .ref o]) C9 hM lk_X5_runScript w_4_234 (List.range' 1 wc.length) (ci := 5) rfl dL_runScript_6 rfl (cut1 _ _) (ndR _ _) hr ⟨by decide, by decide⟩ (Nat.le_of_ble_eq_true rfl) (fun v w hp => ?_)
  obtain ⟨⟨r, rfl⟩, hf⟩ := hq v w hp
  rw [mrg1 _ hf]
  show ω9 _ [(0, .ref b), (1, .int v1), (2, .long v2), (4, .ref o)] [.int r, .int (nI 0), .ref o] 9
  refine r_i2l (v := r.toInt64) C9 dL_runScript_9 rfl ?_
  refine r_last (j := 0) (ws' := (o, .inl (eJ E, 1, .inr (.inl (vp_updL g 0 r.toInt64)))) :: w) C9 0 rfl (by decide) (by decide) rfl dL_runScript_10 ?_
  refine r_goto C9 18 dL_runScript_11 (by decide) ?_
  refine r_iconst C9 dL_runScript_18 ki_0 ?_
  exact RT.1 _ _ _ _ _ dL_runScript_19 rfl rfl ⟨r, w, hp, rfl, rfl⟩ (by rw [List.map_cons, List.map_cons, hf])
set_option maxRecDepth 100000 in
theorem wn_runScript_A {l : Launch} {E : Ev} {b o : Nat} {v1 : Int32} {v2 : Int64} {g : Nat → Int64} {wc : va_W} {fs : List Value} {pw : va_W → Prop} (hM : Th l E yX5_runScript cX5_runScript 6 (some FieldType.int) 6 143 [.ref b, .int v1, .long v2] wc pw "java/lang/IllegalArgumentException") (hr : wc[0]? = some (b, .inr (5, fs))) : CtX l E yL_runScript method_28_code 6 (some FieldType.int) [(0, 11, 14, 13)] 7 168 [.ref b, .int v1, .long v2, .ref o] ((o, .inl (eJ E, 1, .inr (.inl g))) :: wc) (WNo E o g pw 1) := by
  refine ctx_of (by decide +kernel) (Nat.le_of_ble_eq_true rfl) (fun ω ω9 C C9 RT up TC => ?_)
  show ω _ [(0, .ref b), (1, .int v1), (2, .long v2), (4, .ref o)] [] 0
  refine r_aload C (i := 4) 3 dL_runScript_0 rfl ?_
  refine r_iconst C dL_runScript_2 ki_0 ?_
  refine r_aload_n C (i := 0) 0 dL_runScript_3 rfl rfl ?_
  refine r_iload_n C (i := 1) 1 dL_runScript_4 rfl rfl ?_
  refine r_lload_n C (i := 2) 2 dL_runScript_5 rfl rfl ?_
  refine TC "java/lang/IllegalArgumentException" [] (0, 11, 14, 13) [] rfl (fun _ h => absurd h List.not_mem_nil) (by decide) w_2_153 cs_A _ pw _ _ [.int (nI 0), .ref o] _ 6 _ _ _ _ _ 5 _ _ _ _ _ (List.range' 1 wc.length) _ _ hM lk_X5_runScript w_4_234 rfl dL_runScript_6 rfl (cut1 _ _) (ndR _ _) hr ⟨by decide, by decide⟩ (Nat.le_of_ble_eq_true rfl) ⟨by decide, by decide⟩ (fun w q hw hf => ?_)
  rw [mrg1 _ hf]
  show ω9 _ [(0, .ref b), (1, .int v1), (2, .long v2), (4, .ref o)] [.ref q] 14
  refine r_astore C9 (lv' := [(5, .ref q), (0, .ref b), (1, .int v1), (2, .long v2), (4, .ref o)]) dL_runScript_14 (by decide) rfl ?_
  refine r_iconst C9 dL_runScript_16 ki_1 ?_
  exact RT.1 _ _ _ _ _ dL_runScript_17 rfl rfl ⟨w, hw, rfl, rfl⟩ (by rw [List.map_cons, List.map_cons, hf])
set_option maxRecDepth 100000 in
theorem wo_simulate {l : Launch} {E : Ev} {b o : Nat} {v1 : Int64} {v2 : Int32} {g : Nat → Int64} {wc : va_W} {fs : List Value} {post : Option Value → va_W → Prop} (hM : Ct l E yX5_simulate cX5_simulate 7 (some FieldType.int) 6 117 [.ref b, .long v1, .int v2] wc post) (hq : PoR wc post) (hr : wc[0]? = some (b, .inr (5, fs))) : CtX l E yL_simulate method_29_code 6 (some FieldType.int) [(0, 11, 14, 13)] 7 143 [.ref b, .long v1, .int v2, .ref o] ((o, .inl (eJ E, 1, .inr (.inl g))) :: wc) (WOk E o g post) := by
  refine ctx_of (by decide +kernel) (Nat.le_of_ble_eq_true rfl) (fun ω ω9 C C9 RT up TC => ?_)
  refine up _ _ _ _ ?_
  show ω9 _ [(0, .ref b), (1, .long v1), (3, .int v2), (4, .ref o)] [] 0
  refine r_aload C9 (i := 4) 3 dL_simulate_0 rfl ?_
  refine r_iconst C9 dL_simulate_2 ki_0 ?_
  refine r_aload_n C9 (i := 0) 0 dL_simulate_3 rfl rfl ?_
  refine r_lload_n C9 (i := 1) 1 dL_simulate_4 rfl rfl ?_
  refine r_iload_n C9 (i := 3) 2 dL_simulate_5 rfl rfl ?_
  refine r_callV (rest := [.int (nI 0), .ref o]) C9 hM lk_X5_simulate w_5_19 (List.range' 1 wc.length) (ci := 5) rfl dL_simulate_6 rfl (cut1 _ _) (ndR _ _) hr ⟨by decide, by decide⟩ (Nat.le_of_ble_eq_true rfl) (fun v w hp => ?_)
  obtain ⟨⟨r, rfl⟩, hf⟩ := hq v w hp
  rw [mrg1 _ hf]
  show ω9 _ [(0, .ref b), (1, .long v1), (3, .int v2), (4, .ref o)] [.int r, .int (nI 0), .ref o] 9
  refine r_i2l (v := r.toInt64) C9 dL_simulate_9 rfl ?_
  refine r_last (j := 0) (ws' := (o, .inl (eJ E, 1, .inr (.inl (vp_updL g 0 r.toInt64)))) :: w) C9 0 rfl (by decide) (by decide) rfl dL_simulate_10 ?_
  refine r_goto C9 18 dL_simulate_11 (by decide) ?_
  refine r_iconst C9 dL_simulate_18 ki_0 ?_
  exact RT.1 _ _ _ _ _ dL_simulate_19 rfl rfl ⟨r, w, hp, rfl, rfl⟩ (by rw [List.map_cons, List.map_cons, hf])
set_option maxRecDepth 100000 in
theorem wn_simulate_A {l : Launch} {E : Ev} {b o : Nat} {v1 : Int64} {v2 : Int32} {g : Nat → Int64} {wc : va_W} {fs : List Value} {pw : va_W → Prop} (hM : Th l E yX5_simulate cX5_simulate 7 (some FieldType.int) 6 117 [.ref b, .long v1, .int v2] wc pw "java/lang/IllegalArgumentException") (hr : wc[0]? = some (b, .inr (5, fs))) : CtX l E yL_simulate method_29_code 6 (some FieldType.int) [(0, 11, 14, 13)] 7 143 [.ref b, .long v1, .int v2, .ref o] ((o, .inl (eJ E, 1, .inr (.inl g))) :: wc) (WNo E o g pw 1) := by
  refine ctx_of (by decide +kernel) (Nat.le_of_ble_eq_true rfl) (fun ω ω9 C C9 RT up TC => ?_)
  show ω _ [(0, .ref b), (1, .long v1), (3, .int v2), (4, .ref o)] [] 0
  refine r_aload C (i := 4) 3 dL_simulate_0 rfl ?_
  refine r_iconst C dL_simulate_2 ki_0 ?_
  refine r_aload_n C (i := 0) 0 dL_simulate_3 rfl rfl ?_
  refine r_lload_n C (i := 1) 1 dL_simulate_4 rfl rfl ?_
  refine r_iload_n C (i := 3) 2 dL_simulate_5 rfl rfl ?_
  refine TC "java/lang/IllegalArgumentException" [] (0, 11, 14, 13) [] rfl (fun _ h => absurd h List.not_mem_nil) (by decide) w_2_153 cs_A _ pw _ _ [.int (nI 0), .ref o] _ 6 _ _ _ _ _ 5 _ _ _ _ _ (List.range' 1 wc.length) _ _ hM lk_X5_simulate w_5_19 rfl dL_simulate_6 rfl (cut1 _ _) (ndR _ _) hr ⟨by decide, by decide⟩ (Nat.le_of_ble_eq_true rfl) ⟨by decide, by decide⟩ (fun w q hw hf => ?_)
  rw [mrg1 _ hf]
  show ω9 _ [(0, .ref b), (1, .long v1), (3, .int v2), (4, .ref o)] [.ref q] 14
  refine r_astore C9 (lv' := [(5, .ref q), (0, .ref b), (1, .long v1), (3, .int v2), (4, .ref o)]) dL_simulate_14 (by decide) rfl ?_
  refine r_iconst C9 dL_simulate_16 ki_1 ?_
  exact RT.1 _ _ _ _ _ dL_simulate_17 rfl rfl ⟨w, hw, rfl, rfl⟩ (by rw [List.map_cons, List.map_cons, hf])
set_option maxRecDepth 100000 in
theorem wo_save {l : Launch} {E : Ev} {b o : Nat} {v1 : Int32} {g : Nat → Int64} {wc : va_W} {fs : List Value} {post : Option Value → va_W → Prop} (hM : Ct l E yX5_save cX5_save 2 (some FieldType.int) 7 110 [.ref b, .int v1] wc post) (hq : PoR wc post) (hr : wc[0]? = some (b, .inr (5, fs))) : CtX l E yL_save method_30_code 4 (some FieldType.int) [(0, 9, 12, 28)] 8 131 [.ref b, .int v1, .ref o] ((o, .inl (eJ E, 1, .inr (.inl g))) :: wc) (WOk E o g post) := by
  refine ctx_of (by decide +kernel) (Nat.le_of_ble_eq_true rfl) (fun ω ω9 C C9 RT up TC => ?_)
  refine up _ _ _ _ ?_
  show ω9 _ [(0, .ref b), (1, .int v1), (2, .ref o)] [] 0
  refine r_aload_n C9 (i := 2) 2 dL_save_0 rfl rfl ?_
  refine r_iconst C9 dL_save_1 ki_0 ?_
  refine r_aload_n C9 (i := 0) 0 dL_save_2 rfl rfl ?_
  refine r_iload_n C9 (i := 1) 1 dL_save_3 rfl rfl ?_
  refine r_callV (rest := [.int (nI 0), .ref o]) C9 hM lk_X5_save w_5_34 (List.range' 1 wc.length) (ci := 5) rfl dL_save_4 rfl (cut1 _ _) (ndR _ _) hr ⟨by decide, by decide⟩ (Nat.le_of_ble_eq_true rfl) (fun v w hp => ?_)
  obtain ⟨⟨r, rfl⟩, hf⟩ := hq v w hp
  rw [mrg1 _ hf]
  show ω9 _ [(0, .ref b), (1, .int v1), (2, .ref o)] [.int r, .int (nI 0), .ref o] 7
  refine r_i2l (v := r.toInt64) C9 dL_save_7 rfl ?_
  refine r_last (j := 0) (ws' := (o, .inl (eJ E, 1, .inr (.inl (vp_updL g 0 r.toInt64)))) :: w) C9 0 rfl (by decide) (by decide) rfl dL_save_8 ?_
  refine r_goto C9 15 dL_save_9 (by decide) ?_
  refine r_iconst C9 dL_save_15 ki_0 ?_
  exact RT.1 _ _ _ _ _ dL_save_16 rfl rfl ⟨r, w, hp, rfl, rfl⟩ (by rw [List.map_cons, List.map_cons, hf])
set_option maxRecDepth 100000 in
theorem wn_save_B {l : Launch} {E : Ev} {b o : Nat} {v1 : Int32} {g : Nat → Int64} {wc : va_W} {fs : List Value} {pw : va_W → Prop} (hM : Th l E yX5_save cX5_save 2 (some FieldType.int) 7 110 [.ref b, .int v1] wc pw "java/lang/IndexOutOfBoundsException") (hr : wc[0]? = some (b, .inr (5, fs))) : CtX l E yL_save method_30_code 4 (some FieldType.int) [(0, 9, 12, 28)] 8 131 [.ref b, .int v1, .ref o] ((o, .inl (eJ E, 1, .inr (.inl g))) :: wc) (WNo E o g pw 1) := by
  refine ctx_of (by decide +kernel) (Nat.le_of_ble_eq_true rfl) (fun ω ω9 C C9 RT up TC => ?_)
  show ω _ [(0, .ref b), (1, .int v1), (2, .ref o)] [] 0
  refine r_aload_n C (i := 2) 2 dL_save_0 rfl rfl ?_
  refine r_iconst C dL_save_1 ki_0 ?_
  refine r_aload_n C (i := 0) 0 dL_save_2 rfl rfl ?_
  refine r_iload_n C (i := 1) 1 dL_save_3 rfl rfl ?_
  refine TC "java/lang/IndexOutOfBoundsException" [] (0, 9, 12, 28) [] rfl (fun _ h => absurd h List.not_mem_nil) (by decide) w_3_144 cs_B _ pw _ _ [.int (nI 0), .ref o] _ 4 _ _ _ _ _ 5 _ _ _ _ _ (List.range' 1 wc.length) _ _ hM lk_X5_save w_5_34 rfl dL_save_4 rfl (cut1 _ _) (ndR _ _) hr ⟨by decide, by decide⟩ (Nat.le_of_ble_eq_true rfl) ⟨by decide, by decide⟩ (fun w q hw hf => ?_)
  rw [mrg1 _ hf]
  show ω9 _ [(0, .ref b), (1, .int v1), (2, .ref o)] [.ref q] 12
  refine r_astore_n C9 (lv' := [(3, .ref q), (0, .ref b), (1, .int v1), (2, .ref o)]) dL_save_12 rfl (by decide) rfl ?_
  refine r_iconst C9 dL_save_13 ki_1 ?_
  exact RT.1 _ _ _ _ _ dL_save_14 rfl rfl ⟨w, hw, rfl, rfl⟩ (by rw [List.map_cons, List.map_cons, hf])
set_option maxRecDepth 100000 in
theorem wo_restore {l : Launch} {E : Ev} {b o : Nat} {v1 : Int32} {g : Nat → Int64} {wc : va_W} {fs : List Value} {post : Option Value → va_W → Prop} (hM : Ct l E yX5_restore cX5_restore 2 (some FieldType.int) 7 110 [.ref b, .int v1] wc post) (hq : PoR wc post) (hr : wc[0]? = some (b, .inr (5, fs))) : CtX l E yL_restore method_31_code 4 (some FieldType.int) [(0, 9, 12, 28), (0, 9, 15, 15)] 8 131 [.ref b, .int v1, .ref o] ((o, .inl (eJ E, 1, .inr (.inl g))) :: wc) (WOk E o g post) := by
  refine ctx_of (by decide +kernel) (Nat.le_of_ble_eq_true rfl) (fun ω ω9 C C9 RT up TC => ?_)
  refine up _ _ _ _ ?_
  show ω9 _ [(0, .ref b), (1, .int v1), (2, .ref o)] [] 0
  refine r_aload_n C9 (i := 2) 2 dL_restore_0 rfl rfl ?_
  refine r_iconst C9 dL_restore_1 ki_0 ?_
  refine r_aload_n C9 (i := 0) 0 dL_restore_2 rfl rfl ?_
  refine r_iload_n C9 (i := 1) 1 dL_restore_3 rfl rfl ?_
  refine r_callV (rest := [.int (nI 0), .ref o]) C9 hM lk_X5_restore w_5_46 (List.range' 1 wc.length) (ci := 5) rfl dL_restore_4 rfl (cut1 _ _) (ndR _ _) hr ⟨by decide, by decide⟩ (Nat.le_of_ble_eq_true rfl) (fun v w hp => ?_)
  obtain ⟨⟨r, rfl⟩, hf⟩ := hq v w hp
  rw [mrg1 _ hf]
  show ω9 _ [(0, .ref b), (1, .int v1), (2, .ref o)] [.int r, .int (nI 0), .ref o] 7
  refine r_i2l (v := r.toInt64) C9 dL_restore_7 rfl ?_
  refine r_last (j := 0) (ws' := (o, .inl (eJ E, 1, .inr (.inl (vp_updL g 0 r.toInt64)))) :: w) C9 0 rfl (by decide) (by decide) rfl dL_restore_8 ?_
  refine r_goto C9 18 dL_restore_9 (by decide) ?_
  refine r_iconst C9 dL_restore_18 ki_0 ?_
  exact RT.1 _ _ _ _ _ dL_restore_19 rfl rfl ⟨r, w, hp, rfl, rfl⟩ (by rw [List.map_cons, List.map_cons, hf])
set_option maxRecDepth 100000 in
theorem wn_restore_B {l : Launch} {E : Ev} {b o : Nat} {v1 : Int32} {g : Nat → Int64} {wc : va_W} {fs : List Value} {pw : va_W → Prop} (hM : Th l E yX5_restore cX5_restore 2 (some FieldType.int) 7 110 [.ref b, .int v1] wc pw "java/lang/IndexOutOfBoundsException") (hr : wc[0]? = some (b, .inr (5, fs))) : CtX l E yL_restore method_31_code 4 (some FieldType.int) [(0, 9, 12, 28), (0, 9, 15, 15)] 8 131 [.ref b, .int v1, .ref o] ((o, .inl (eJ E, 1, .inr (.inl g))) :: wc) (WNo E o g pw 1) := by
  refine ctx_of (by decide +kernel) (Nat.le_of_ble_eq_true rfl) (fun ω ω9 C C9 RT up TC => ?_)
  show ω _ [(0, .ref b), (1, .int v1), (2, .ref o)] [] 0
  refine r_aload_n C (i := 2) 2 dL_restore_0 rfl rfl ?_
  refine r_iconst C dL_restore_1 ki_0 ?_
  refine r_aload_n C (i := 0) 0 dL_restore_2 rfl rfl ?_
  refine r_iload_n C (i := 1) 1 dL_restore_3 rfl rfl ?_
  refine TC "java/lang/IndexOutOfBoundsException" [] (0, 9, 12, 28) [(0, 9, 15, 15)] rfl (fun _ h => absurd h List.not_mem_nil) (by decide) w_3_144 cs_B _ pw _ _ [.int (nI 0), .ref o] _ 4 _ _ _ _ _ 5 _ _ _ _ _ (List.range' 1 wc.length) _ _ hM lk_X5_restore w_5_46 rfl dL_restore_4 rfl (cut1 _ _) (ndR _ _) hr ⟨by decide, by decide⟩ (Nat.le_of_ble_eq_true rfl) ⟨by decide, by decide⟩ (fun w q hw hf => ?_)
  rw [mrg1 _ hf]
  show ω9 _ [(0, .ref b), (1, .int v1), (2, .ref o)] [.ref q] 12
  refine r_astore_n C9 (lv' := [(3, .ref q), (0, .ref b), (1, .int v1), (2, .ref o)]) dL_restore_12 rfl (by decide) rfl ?_
  refine r_iconst C9 dL_restore_13 ki_1 ?_
  exact RT.1 _ _ _ _ _ dL_restore_14 rfl rfl ⟨w, hw, rfl, rfl⟩ (by rw [List.map_cons, List.map_cons, hf])
set_option maxRecDepth 100000 in
theorem wn_restore_S {l : Launch} {E : Ev} {b o : Nat} {v1 : Int32} {g : Nat → Int64} {wc : va_W} {fs : List Value} {pw : va_W → Prop} (hM : Th l E yX5_restore cX5_restore 2 (some FieldType.int) 7 110 [.ref b, .int v1] wc pw "java/lang/IllegalStateException") (hr : wc[0]? = some (b, .inr (5, fs))) : CtX l E yL_restore method_31_code 4 (some FieldType.int) [(0, 9, 12, 28), (0, 9, 15, 15)] 8 131 [.ref b, .int v1, .ref o] ((o, .inl (eJ E, 1, .inr (.inl g))) :: wc) (WNo E o g pw 2) := by
  refine ctx_of (by decide +kernel) (Nat.le_of_ble_eq_true rfl) (fun ω ω9 C C9 RT up TC => ?_)
  show ω _ [(0, .ref b), (1, .int v1), (2, .ref o)] [] 0
  refine r_aload_n C (i := 2) 2 dL_restore_0 rfl rfl ?_
  refine r_iconst C dL_restore_1 ki_0 ?_
  refine r_aload_n C (i := 0) 0 dL_restore_2 rfl rfl ?_
  refine r_iload_n C (i := 1) 1 dL_restore_3 rfl rfl ?_
  refine TC "java/lang/IllegalStateException" [(0, 9, 12, 28)] (0, 9, 15, 15) [] rfl (List.forall_mem_cons.mpr ⟨⟨by decide, "java/lang/IndexOutOfBoundsException", w_3_144, nc_SB⟩, fun _ h => absurd h List.not_mem_nil⟩) (by decide) w_2_154 cs_S _ pw _ _ [.int (nI 0), .ref o] _ 4 _ _ _ _ _ 5 _ _ _ _ _ (List.range' 1 wc.length) _ _ hM lk_X5_restore w_5_46 rfl dL_restore_4 rfl (cut1 _ _) (ndR _ _) hr ⟨by decide, by decide⟩ (Nat.le_of_ble_eq_true rfl) ⟨by decide, by decide⟩ (fun w q hw hf => ?_)
  rw [mrg1 _ hf]
  show ω9 _ [(0, .ref b), (1, .int v1), (2, .ref o)] [.ref q] 15
  refine r_astore_n C9 (lv' := [(3, .ref q), (0, .ref b), (1, .int v1), (2, .ref o)]) dL_restore_15 rfl (by decide) rfl ?_
  refine r_iconst C9 dL_restore_16 ki_2 ?_
  exact RT.1 _ _ _ _ _ dL_restore_17 rfl rfl ⟨w, hw, rfl, rfl⟩ (by rw [List.map_cons, List.map_cons, hf])
