/-- what a wrapped contract answers: a number, the same cells -/
def PoR (wc : va_W) (post : Option Value → va_W → Prop) : Prop := ∀ (v : Option Value) (w : va_W), post v w → (∃ r : Int32, v = some (.int r)) ∧ w.map Prod.fst = wc.map Prod.fst
theorem mrg_len : ∀ (is : List Nat) (ws w : va_W), (mrg ws is w).length = ws.length
  | [], _, _ => by cases ‹va_W› <;> rfl
  | _ :: _, _, [] => rfl
  | i :: is, ws, q :: w => by rw [mrg, mrg_len is]; exact List.length_set
theorem mrg_fst {ws wc w : va_W} {is : List Nat} (hC : is.map (fun i => ws[i]?) = wc.map some) (hf : w.map Prod.fst = wc.map Prod.fst) : (mrg ws is w).map Prod.fst = ws.map Prod.fst := by
  refine List.ext_getElem? fun k => ?_
  rw [List.getElem?_map, List.getElem?_map]
  cases h : (mrg ws is w)[k]? with
  | none =>
    have h1 := List.getElem?_eq_none_iff.mp h
    rw [mrg_len] at h1
    rw [List.getElem?_eq_none h1]
  | some q =>
    obtain ⟨e, he⟩ := mrg_src hC hf h
    rw [he]; rfl
theorem w_init_law : Cond.initialized "BillArchiveLaw" ∈ Tw := w_1_0
theorem lk_L_setIll : LkN yL_setIll method_2_code 5 (some FieldType.int) (some [(0, 7, 8, 13)]) 4 := ⟨w_1_160, w_1_161, w_init_law, by decide +kernel⟩
theorem lk_L_tryAppend : LkN yL_tryAppend method_6_code 3 (some FieldType.int) (some [(0, 5, 6, 20), (0, 5, 10, 23)]) 2 := ⟨w_2_45, w_2_46, w_init_law, by decide +kernel⟩
theorem lk_L_tryAbout : LkN yL_tryAbout method_8_code 3 (some FieldType.int) (some [(0, 5, 6, 20)]) 2 := ⟨w_3_30, w_3_31, w_init_law, by decide +kernel⟩
theorem lk_L_tryPlayed : LkN yL_tryPlayed method_9_code 4 (some FieldType.int) (some [(0, 6, 7, 13)]) 3 := ⟨w_3_177, w_3_178, w_init_law, by decide +kernel⟩
theorem lk_L_tryBill : LkN yL_tryBill method_10_code 5 (some FieldType.int) (some [(0, 7, 8, 13), (0, 7, 13, 20)]) 4 := ⟨w_3_191, w_3_192, w_init_law, by decide +kernel⟩
theorem lk_L_tryNight : LkN yL_tryNight method_11_code 4 (some FieldType.int) (some [(0, 6, 7, 13), (0, 6, 11, 20)]) 3 := ⟨w_3_210, w_3_211, w_init_law, by decide +kernel⟩
theorem lk_L_tryActor : LkN yL_tryActor method_12_code 4 (some FieldType.int) (some [(0, 6, 7, 13), (0, 6, 11, 20)]) 3 := ⟨w_3_228, w_3_229, w_init_law, by decide +kernel⟩
theorem lk_L_tryRanked : LkN yL_tryRanked method_13_code 4 (some FieldType.int) (some [(0, 6, 7, 13), (0, 6, 11, 20)]) 3 := ⟨w_4_18, w_4_19, w_init_law, by decide +kernel⟩
theorem lk_L_tryFound : LkN yL_tryFound method_14_code 4 (some FieldType.int) (some [(0, 6, 7, 13), (0, 6, 11, 20)]) 3 := ⟨w_4_27, w_4_28, w_init_law, by decide +kernel⟩
theorem lk_L_trySetting : LkN yL_trySetting method_15_code 3 (some FieldType.int) (some [(0, 5, 6, 20)]) 2 := ⟨w_4_48, w_4_49, w_init_law, by decide +kernel⟩
theorem lk_L_tryHire : LkN yL_tryHire method_16_code 3 (some FieldType.int) (some [(0, 5, 6, 20), (0, 5, 10, 23)]) 2 := ⟨w_4_60, w_4_61, w_init_law, by decide +kernel⟩
theorem lk_L_tryPart : LkN yL_tryPart method_17_code 2 (some FieldType.int) (some [(0, 4, 5, 23)]) 1 := ⟨w_4_70, w_4_71, w_init_law, by decide +kernel⟩
theorem lk_L_tryCast : LkN yL_tryCast method_18_code 5 (some FieldType.int) (some [(0, 7, 8, 13)]) 4 := ⟨w_4_79, w_4_80, w_init_law, by decide +kernel⟩
theorem lk_L_tryStudy : LkN yL_tryStudy method_19_code 4 (some FieldType.int) (some [(0, 6, 7, 13), (0, 6, 11, 23)]) 3 := ⟨w_4_88, w_4_89, w_init_law, by decide +kernel⟩
theorem lk_L_tryRelease : LkN yL_tryRelease method_20_code 4 (some FieldType.int) (some [(0, 6, 7, 13), (0, 6, 11, 23)]) 3 := ⟨w_4_98, w_4_99, w_init_law, by decide +kernel⟩
theorem lk_L_tryLose : LkN yL_tryLose method_21_code 3 (some FieldType.int) (some [(0, 5, 6, 13)]) 2 := ⟨w_4_111, w_4_112, w_init_law, by decide +kernel⟩
theorem lk_L_tryLay : LkN yL_tryLay method_22_code 4 (some FieldType.int) (some [(0, 6, 7, 20)]) 3 := ⟨w_4_123, w_4_124, w_init_law, by decide +kernel⟩
theorem lk_L_tryUndo : LkN yL_tryUndo method_23_code 2 (some FieldType.int) (some [(0, 4, 5, 23)]) 1 := ⟨w_4_135, w_4_136, w_init_law, by decide +kernel⟩
theorem lk_L_tryFind : LkN yL_tryFind method_24_code 5 (some FieldType.int) (some [(0, 7, 8, 13), (0, 7, 13, 20)]) 4 := ⟨w_4_155, w_4_156, w_init_law, by decide +kernel⟩
theorem lk_L_tryTogether : LkN yL_tryTogether method_25_code 4 (some FieldType.int) (some [(0, 6, 7, 13)]) 3 := ⟨w_4_167, w_4_168, w_init_law, by decide +kernel⟩
theorem lk_L_tryLongest : LkN yL_tryLongest method_26_code 4 (some FieldType.int) (some [(0, 6, 7, 13)]) 3 := ⟨w_4_174, w_4_175, w_init_law, by decide +kernel⟩
theorem lk_L_tryWould : LkN yL_tryWould method_27_code 5 (some FieldType.int) (some [(0, 7, 8, 13), (0, 7, 13, 20)]) 4 := ⟨w_4_184, w_4_185, w_init_law, by decide +kernel⟩
theorem lk_L_tryBest : LkN yL_tryBest method_28_code 3 (some FieldType.int) (some [(0, 5, 6, 13)]) 2 := ⟨w_4_200, w_4_201, w_init_law, by decide +kernel⟩
theorem lk_L_tryKeep : LkN yL_tryKeep method_29_code 3 (some FieldType.int) (some [(0, 5, 6, 13)]) 2 := ⟨w_4_211, w_4_212, w_init_law, by decide +kernel⟩
theorem lk_L_tryBack : LkN yL_tryBack method_30_code 3 (some FieldType.int) (some [(0, 5, 6, 13), (0, 5, 10, 23)]) 2 := ⟨w_4_223, w_4_224, w_init_law, by decide +kernel⟩
theorem lk_L_addSlip : LkN yL_addSlip method_3_code 6 (some FieldType.int) (some [(0, 9, 10, 13), (0, 9, 15, 20), (0, 9, 20, 23)]) 5 := ⟨w_5_3, w_5_4, w_init_law, by decide +kernel⟩
theorem lk_L_doScript : LkN yL_doScript method_4_code 5 (some FieldType.int) (some [(0, 6, 7, 20)]) 3 := ⟨w_5_13, w_5_14, w_init_law, by decide +kernel⟩
theorem lk_L_doSimulate : LkN yL_doSimulate method_5_code 5 (some FieldType.int) (some [(0, 6, 7, 20)]) 3 := ⟨w_5_39, w_5_40, w_init_law, by decide +kernel⟩
set_option maxRecDepth 100000 in
theorem wo_setIll {l : Launch} {E : Ev} {b : Nat} {v1 : Int32} {v2 : Int32} {v3 : Int32} {w wc : va_W} {is : List Nat} {fs : List Value} {post : Option Value → va_W → Prop} (hM : Ct l E yX5_ill cX5_ill 4 (some FieldType.int) 7 111 [.ref b, .int v1, .int v2, .int v3] wc post) (hq : PoR wc post) (hC : is.map (fun i => w[i]?) = wc.map some) (hn : va_nd is = true) (hr : wc[0]? = some (b, .inr (5, fs))) : CtN l E yL_setIll method_2_code 5 (some FieldType.int) (some [(0, 7, 8, 13)]) 8 134 0 [.ref b, .int v1, .int v2, .int v3] w (fun v9 w9 => ∃ u : va_W, post v9 u ∧ w9 = mrg w is u) := by
  refine ctn_of (by decide +kernel) (Nat.le_of_ble_eq_true rfl) (fun Ω hB => ?_)
  have C := hB.1 0 (Nat.le_refl 0)
  show Ω 0 w [(0, .ref b), (1, .int v1), (2, .int v2), (3, .int v3)] [] 0
  refine r_aload_n C (i := 0) 0 dL_setIll_0 rfl rfl ?_
  refine r_iload_n C (i := 1) 1 dL_setIll_1 rfl rfl ?_
  refine r_iload_n C (i := 2) 2 dL_setIll_2 rfl rfl ?_
  refine r_iload_n C (i := 3) 3 dL_setIll_3 rfl rfl ?_
  refine r_callV (rest := []) C hM lk_X5_ill w_1_163 is (ci := 5) rfl dL_setIll_4 rfl hC hn hr ⟨by decide, by decide⟩ (Nat.le_of_ble_eq_true rfl) (fun v u hp => ?_)
  obtain ⟨⟨r, rfl⟩, hf⟩ := hq v u hp
  exact (hB.2.2.1 0 (Nat.le_refl 0)).1 _ _ _ _ _ dL_setIll_7 rfl rfl ⟨u, hp, rfl⟩ (mrg_fst hC hf)
set_option maxRecDepth 100000 in
theorem wn_setIll_B {l : Launch} {E : Ev} {b : Nat} {v1 : Int32} {v2 : Int32} {v3 : Int32} {w wc : va_W} {is : List Nat} {fs : List Value} {pw : va_W → Prop} (hM : Th l E yX5_ill cX5_ill 4 (some FieldType.int) 7 111 [.ref b, .int v1, .int v2, .int v3] wc pw "java/lang/IndexOutOfBoundsException") (hC : is.map (fun i => w[i]?) = wc.map some) (hn : va_nd is = true) (hr : wc[0]? = some (b, .inr (5, fs))) : CtN l E yL_setIll method_2_code 5 (some FieldType.int) (some [(0, 7, 8, 13)]) 8 134 1 [.ref b, .int v1, .int v2, .int v3] w (fun v9 w9 => ∃ u : va_W, pw u ∧ v9 = some (.int (-9999001)) ∧ w9 = mrg w is u) := by
  refine ctn_of_ctx (ctx_of (by decide +kernel) (Nat.le_of_ble_eq_true rfl) (fun ω ω9 C C9 RT up TC => ?_))
  show ω w [(0, .ref b), (1, .int v1), (2, .int v2), (3, .int v3)] [] 0
  refine r_aload_n C (i := 0) 0 dL_setIll_0 rfl rfl ?_
  refine r_iload_n C (i := 1) 1 dL_setIll_1 rfl rfl ?_
  refine r_iload_n C (i := 2) 2 dL_setIll_2 rfl rfl ?_
  refine r_iload_n C (i := 3) 3 dL_setIll_3 rfl rfl ?_
  refine TC "java/lang/IndexOutOfBoundsException" [] (0, 7, 8, 13) [] rfl (fun _ h => absurd h List.not_mem_nil) (by decide) w_1_162 cs_B _ pw _ _ [] _ 4 _ _ _ _ _ 5 _ _ _ _ _ is _ _ hM lk_X5_ill w_1_163 rfl dL_setIll_4 rfl hC hn hr ⟨by decide, by decide⟩ (Nat.le_of_ble_eq_true rfl) ⟨by decide, by decide⟩ (fun u q hw hf => ?_)
  show ω9 _ [(0, .ref b), (1, .int v1), (2, .int v2), (3, .int v3)] [.ref q] 8
  refine r_astore C9 (lv' := [(4, .ref q), (0, .ref b), (1, .int v1), (2, .int v2), (3, .int v3)]) dL_setIll_8 (by decide) rfl ?_
  refine r_ldc (v := (-9999001)) C9 dL_setIll_10 w_2_40 ?_
  exact RT.1 _ _ _ _ _ dL_setIll_12 rfl rfl ⟨u, hw, rfl, rfl⟩ (mrg_fst hC hf)
set_option maxRecDepth 100000 in
theorem wo_tryAppend {l : Launch} {E : Ev} {b : Nat} {v1 : Int32} {w wc : va_W} {is : List Nat} {fs : List Value} {post : Option Value → va_W → Prop} (hM : Ct l E yX5_append cX5_append 2 (some FieldType.int) 6 90 [.ref b, .int v1] wc post) (hq : PoR wc post) (hC : is.map (fun i => w[i]?) = wc.map some) (hn : va_nd is = true) (hr : wc[0]? = some (b, .inr (5, fs))) : CtN l E yL_tryAppend method_6_code 3 (some FieldType.int) (some [(0, 5, 6, 20), (0, 5, 10, 23)]) 7 111 0 [.ref b, .int v1] w (fun v9 w9 => ∃ u : va_W, post v9 u ∧ w9 = mrg w is u) := by
  refine ctn_of (by decide +kernel) (Nat.le_of_ble_eq_true rfl) (fun Ω hB => ?_)
  have C := hB.1 0 (Nat.le_refl 0)
  show Ω 0 w [(0, .ref b), (1, .int v1)] [] 0
  refine r_aload_n C (i := 0) 0 dL_tryAppend_0 rfl rfl ?_
  refine r_iload_n C (i := 1) 1 dL_tryAppend_1 rfl rfl ?_
  refine r_callV (rest := []) C hM lk_X5_append w_2_49 is (ci := 5) rfl dL_tryAppend_2 rfl hC hn hr ⟨by decide, by decide⟩ (Nat.le_of_ble_eq_true rfl) (fun v u hp => ?_)
  obtain ⟨⟨r, rfl⟩, hf⟩ := hq v u hp
  exact (hB.2.2.1 0 (Nat.le_refl 0)).1 _ _ _ _ _ dL_tryAppend_5 rfl rfl ⟨u, hp, rfl⟩ (mrg_fst hC hf)
set_option maxRecDepth 100000 in
theorem wn_tryAppend_A {l : Launch} {E : Ev} {b : Nat} {v1 : Int32} {w wc : va_W} {is : List Nat} {fs : List Value} {pw : va_W → Prop} (hM : Th l E yX5_append cX5_append 2 (some FieldType.int) 6 90 [.ref b, .int v1] wc pw "java/lang/IllegalArgumentException") (hC : is.map (fun i => w[i]?) = wc.map some) (hn : va_nd is = true) (hr : wc[0]? = some (b, .inr (5, fs))) : CtN l E yL_tryAppend method_6_code 3 (some FieldType.int) (some [(0, 5, 6, 20), (0, 5, 10, 23)]) 7 111 1 [.ref b, .int v1] w (fun v9 w9 => ∃ u : va_W, pw u ∧ v9 = some (.int (-9999002)) ∧ w9 = mrg w is u) := by
  refine ctn_of_ctx (ctx_of (by decide +kernel) (Nat.le_of_ble_eq_true rfl) (fun ω ω9 C C9 RT up TC => ?_))
  show ω w [(0, .ref b), (1, .int v1)] [] 0
  refine r_aload_n C (i := 0) 0 dL_tryAppend_0 rfl rfl ?_
  refine r_iload_n C (i := 1) 1 dL_tryAppend_1 rfl rfl ?_
  refine TC "java/lang/IllegalArgumentException" [] (0, 5, 6, 20) [(0, 5, 10, 23)] rfl (fun _ h => absurd h List.not_mem_nil) (by decide) w_2_47 cs_A _ pw _ _ [] _ 2 _ _ _ _ _ 5 _ _ _ _ _ is _ _ hM lk_X5_append w_2_49 rfl dL_tryAppend_2 rfl hC hn hr ⟨by decide, by decide⟩ (Nat.le_of_ble_eq_true rfl) ⟨by decide, by decide⟩ (fun u q hw hf => ?_)
  show ω9 _ [(0, .ref b), (1, .int v1)] [.ref q] 6
  refine r_astore_n C9 (lv' := [(2, .ref q), (0, .ref b), (1, .int v1)]) dL_tryAppend_6 rfl (by decide) rfl ?_
  refine r_ldc (v := (-9999002)) C9 dL_tryAppend_7 w_2_97 ?_
  exact RT.1 _ _ _ _ _ dL_tryAppend_9 rfl rfl ⟨u, hw, rfl, rfl⟩ (mrg_fst hC hf)
set_option maxRecDepth 100000 in
theorem wn_tryAppend_S {l : Launch} {E : Ev} {b : Nat} {v1 : Int32} {w wc : va_W} {is : List Nat} {fs : List Value} {pw : va_W → Prop} (hM : Th l E yX5_append cX5_append 2 (some FieldType.int) 6 90 [.ref b, .int v1] wc pw "java/lang/IllegalStateException") (hC : is.map (fun i => w[i]?) = wc.map some) (hn : va_nd is = true) (hr : wc[0]? = some (b, .inr (5, fs))) : CtN l E yL_tryAppend method_6_code 3 (some FieldType.int) (some [(0, 5, 6, 20), (0, 5, 10, 23)]) 7 111 1 [.ref b, .int v1] w (fun v9 w9 => ∃ u : va_W, pw u ∧ v9 = some (.int (-9999003)) ∧ w9 = mrg w is u) := by
  refine ctn_of_ctx (ctx_of (by decide +kernel) (Nat.le_of_ble_eq_true rfl) (fun ω ω9 C C9 RT up TC => ?_))
  show ω w [(0, .ref b), (1, .int v1)] [] 0
  refine r_aload_n C (i := 0) 0 dL_tryAppend_0 rfl rfl ?_
  refine r_iload_n C (i := 1) 1 dL_tryAppend_1 rfl rfl ?_
  refine TC "java/lang/IllegalStateException" [(0, 5, 6, 20)] (0, 5, 10, 23) [] rfl (List.forall_mem_cons.mpr ⟨⟨by decide, "java/lang/IllegalArgumentException", w_2_47, nc_SA⟩, fun _ h => absurd h List.not_mem_nil⟩) (by decide) w_2_48 cs_S _ pw _ _ [] _ 2 _ _ _ _ _ 5 _ _ _ _ _ is _ _ hM lk_X5_append w_2_49 rfl dL_tryAppend_2 rfl hC hn hr ⟨by decide, by decide⟩ (Nat.le_of_ble_eq_true rfl) ⟨by decide, by decide⟩ (fun u q hw hf => ?_)
  show ω9 _ [(0, .ref b), (1, .int v1)] [.ref q] 10
  refine r_astore_n C9 (lv' := [(2, .ref q), (0, .ref b), (1, .int v1)]) dL_tryAppend_10 rfl (by decide) rfl ?_
  refine r_ldc (v := (-9999003)) C9 dL_tryAppend_11 w_2_98 ?_
  exact RT.1 _ _ _ _ _ dL_tryAppend_13 rfl rfl ⟨u, hw, rfl, rfl⟩ (mrg_fst hC hf)
set_option maxRecDepth 100000 in
theorem wo_tryAbout {l : Launch} {E : Ev} {b : Nat} {v1 : Int32} {w wc : va_W} {is : List Nat} {fs : List Value} {post : Option Value → va_W → Prop} (hM : Ct l E yX5_about cX5_about 2 (some FieldType.int) 6 117 [.ref b, .int v1] wc post) (hq : PoR wc post) (hC : is.map (fun i => w[i]?) = wc.map some) (hn : va_nd is = true) (hr : wc[0]? = some (b, .inr (5, fs))) : CtN l E yL_tryAbout method_8_code 3 (some FieldType.int) (some [(0, 5, 6, 20)]) 7 138 0 [.ref b, .int v1] w (fun v9 w9 => ∃ u : va_W, post v9 u ∧ w9 = mrg w is u) := by
  refine ctn_of (by decide +kernel) (Nat.le_of_ble_eq_true rfl) (fun Ω hB => ?_)
  have C := hB.1 0 (Nat.le_refl 0)
  show Ω 0 w [(0, .ref b), (1, .int v1)] [] 0
  refine r_aload_n C (i := 0) 0 dL_tryAbout_0 rfl rfl ?_
  refine r_iload_n C (i := 1) 1 dL_tryAbout_1 rfl rfl ?_
  refine r_callV (rest := []) C hM lk_X5_about w_3_32 is (ci := 5) rfl dL_tryAbout_2 rfl hC hn hr ⟨by decide, by decide⟩ (Nat.le_of_ble_eq_true rfl) (fun v u hp => ?_)
  obtain ⟨⟨r, rfl⟩, hf⟩ := hq v u hp
  exact (hB.2.2.1 0 (Nat.le_refl 0)).1 _ _ _ _ _ dL_tryAbout_5 rfl rfl ⟨u, hp, rfl⟩ (mrg_fst hC hf)
set_option maxRecDepth 100000 in
theorem wn_tryAbout_A {l : Launch} {E : Ev} {b : Nat} {v1 : Int32} {w wc : va_W} {is : List Nat} {fs : List Value} {pw : va_W → Prop} (hM : Th l E yX5_about cX5_about 2 (some FieldType.int) 6 117 [.ref b, .int v1] wc pw "java/lang/IllegalArgumentException") (hC : is.map (fun i => w[i]?) = wc.map some) (hn : va_nd is = true) (hr : wc[0]? = some (b, .inr (5, fs))) : CtN l E yL_tryAbout method_8_code 3 (some FieldType.int) (some [(0, 5, 6, 20)]) 7 138 1 [.ref b, .int v1] w (fun v9 w9 => ∃ u : va_W, pw u ∧ v9 = some (.int (-9999002)) ∧ w9 = mrg w is u) := by
  refine ctn_of_ctx (ctx_of (by decide +kernel) (Nat.le_of_ble_eq_true rfl) (fun ω ω9 C C9 RT up TC => ?_))
  show ω w [(0, .ref b), (1, .int v1)] [] 0
  refine r_aload_n C (i := 0) 0 dL_tryAbout_0 rfl rfl ?_
  refine r_iload_n C (i := 1) 1 dL_tryAbout_1 rfl rfl ?_
  refine TC "java/lang/IllegalArgumentException" [] (0, 5, 6, 20) [] rfl (fun _ h => absurd h List.not_mem_nil) (by decide) w_2_47 cs_A _ pw _ _ [] _ 2 _ _ _ _ _ 5 _ _ _ _ _ is _ _ hM lk_X5_about w_3_32 rfl dL_tryAbout_2 rfl hC hn hr ⟨by decide, by decide⟩ (Nat.le_of_ble_eq_true rfl) ⟨by decide, by decide⟩ (fun u q hw hf => ?_)
  show ω9 _ [(0, .ref b), (1, .int v1)] [.ref q] 6
  refine r_astore_n C9 (lv' := [(2, .ref q), (0, .ref b), (1, .int v1)]) dL_tryAbout_6 rfl (by decide) rfl ?_
  refine r_ldc (v := (-9999002)) C9 dL_tryAbout_7 w_2_97 ?_
  exact RT.1 _ _ _ _ _ dL_tryAbout_9 rfl rfl ⟨u, hw, rfl, rfl⟩ (mrg_fst hC hf)
set_option maxRecDepth 100000 in
theorem wo_tryPlayed {l : Launch} {E : Ev} {b : Nat} {v1 : Int32} {v2 : Int32} {w wc : va_W} {is : List Nat} {fs : List Value} {post : Option Value → va_W → Prop} (hM : Ct l E yX5_played cX5_played 3 (some FieldType.int) 7 111 [.ref b, .int v1, .int v2] wc post) (hq : PoR wc post) (hC : is.map (fun i => w[i]?) = wc.map some) (hn : va_nd is = true) (hr : wc[0]? = some (b, .inr (5, fs))) : CtN l E yL_tryPlayed method_9_code 4 (some FieldType.int) (some [(0, 6, 7, 13)]) 8 133 0 [.ref b, .int v1, .int v2] w (fun v9 w9 => ∃ u : va_W, post v9 u ∧ w9 = mrg w is u) := by
  refine ctn_of (by decide +kernel) (Nat.le_of_ble_eq_true rfl) (fun Ω hB => ?_)
  have C := hB.1 0 (Nat.le_refl 0)
  show Ω 0 w [(0, .ref b), (1, .int v1), (2, .int v2)] [] 0
  refine r_aload_n C (i := 0) 0 dL_tryPlayed_0 rfl rfl ?_
  refine r_iload_n C (i := 1) 1 dL_tryPlayed_1 rfl rfl ?_
  refine r_iload_n C (i := 2) 2 dL_tryPlayed_2 rfl rfl ?_
  refine r_callV (rest := []) C hM lk_X5_played w_3_179 is (ci := 5) rfl dL_tryPlayed_3 rfl hC hn hr ⟨by decide, by decide⟩ (Nat.le_of_ble_eq_true rfl) (fun v u hp => ?_)
  obtain ⟨⟨r, rfl⟩, hf⟩ := hq v u hp
  exact (hB.2.2.1 0 (Nat.le_refl 0)).1 _ _ _ _ _ dL_tryPlayed_6 rfl rfl ⟨u, hp, rfl⟩ (mrg_fst hC hf)
set_option maxRecDepth 100000 in
theorem wn_tryPlayed_B {l : Launch} {E : Ev} {b : Nat} {v1 : Int32} {v2 : Int32} {w wc : va_W} {is : List Nat} {fs : List Value} {pw : va_W → Prop} (hM : Th l E yX5_played cX5_played 3 (some FieldType.int) 7 111 [.ref b, .int v1, .int v2] wc pw "java/lang/IndexOutOfBoundsException") (hC : is.map (fun i => w[i]?) = wc.map some) (hn : va_nd is = true) (hr : wc[0]? = some (b, .inr (5, fs))) : CtN l E yL_tryPlayed method_9_code 4 (some FieldType.int) (some [(0, 6, 7, 13)]) 8 133 1 [.ref b, .int v1, .int v2] w (fun v9 w9 => ∃ u : va_W, pw u ∧ v9 = some (.int (-9999001)) ∧ w9 = mrg w is u) := by
  refine ctn_of_ctx (ctx_of (by decide +kernel) (Nat.le_of_ble_eq_true rfl) (fun ω ω9 C C9 RT up TC => ?_))
  show ω w [(0, .ref b), (1, .int v1), (2, .int v2)] [] 0
  refine r_aload_n C (i := 0) 0 dL_tryPlayed_0 rfl rfl ?_
  refine r_iload_n C (i := 1) 1 dL_tryPlayed_1 rfl rfl ?_
  refine r_iload_n C (i := 2) 2 dL_tryPlayed_2 rfl rfl ?_
  refine TC "java/lang/IndexOutOfBoundsException" [] (0, 6, 7, 13) [] rfl (fun _ h => absurd h List.not_mem_nil) (by decide) w_1_162 cs_B _ pw _ _ [] _ 3 _ _ _ _ _ 5 _ _ _ _ _ is _ _ hM lk_X5_played w_3_179 rfl dL_tryPlayed_3 rfl hC hn hr ⟨by decide, by decide⟩ (Nat.le_of_ble_eq_true rfl) ⟨by decide, by decide⟩ (fun u q hw hf => ?_)
  show ω9 _ [(0, .ref b), (1, .int v1), (2, .int v2)] [.ref q] 7
  refine r_astore_n C9 (lv' := [(3, .ref q), (0, .ref b), (1, .int v1), (2, .int v2)]) dL_tryPlayed_7 rfl (by decide) rfl ?_
  refine r_ldc (v := (-9999001)) C9 dL_tryPlayed_8 w_2_40 ?_
  exact RT.1 _ _ _ _ _ dL_tryPlayed_10 rfl rfl ⟨u, hw, rfl, rfl⟩ (mrg_fst hC hf)
set_option maxRecDepth 100000 in
theorem wo_tryBill {l : Launch} {E : Ev} {b : Nat} {v1 : Int32} {v2 : Int32} {v3 : Int32} {w wc : va_W} {is : List Nat} {fs : List Value} {post : Option Value → va_W → Prop} (hM : Ct l E yX5_bill cX5_bill 4 (some FieldType.int) 7 111 [.ref b, .int v1, .int v2, .int v3] wc post) (hq : PoR wc post) (hC : is.map (fun i => w[i]?) = wc.map some) (hn : va_nd is = true) (hr : wc[0]? = some (b, .inr (5, fs))) : CtN l E yL_tryBill method_10_code 5 (some FieldType.int) (some [(0, 7, 8, 13), (0, 7, 13, 20)]) 8 134 0 [.ref b, .int v1, .int v2, .int v3] w (fun v9 w9 => ∃ u : va_W, post v9 u ∧ w9 = mrg w is u) := by
  refine ctn_of (by decide +kernel) (Nat.le_of_ble_eq_true rfl) (fun Ω hB => ?_)
  have C := hB.1 0 (Nat.le_refl 0)
  show Ω 0 w [(0, .ref b), (1, .int v1), (2, .int v2), (3, .int v3)] [] 0
  refine r_aload_n C (i := 0) 0 dL_tryBill_0 rfl rfl ?_
  refine r_iload_n C (i := 1) 1 dL_tryBill_1 rfl rfl ?_
  refine r_iload_n C (i := 2) 2 dL_tryBill_2 rfl rfl ?_
  refine r_iload_n C (i := 3) 3 dL_tryBill_3 rfl rfl ?_
  refine r_callV (rest := []) C hM lk_X5_bill w_3_193 is (ci := 5) rfl dL_tryBill_4 rfl hC hn hr ⟨by decide, by decide⟩ (Nat.le_of_ble_eq_true rfl) (fun v u hp => ?_)
  obtain ⟨⟨r, rfl⟩, hf⟩ := hq v u hp
  exact (hB.2.2.1 0 (Nat.le_refl 0)).1 _ _ _ _ _ dL_tryBill_7 rfl rfl ⟨u, hp, rfl⟩ (mrg_fst hC hf)
set_option maxRecDepth 100000 in
theorem wn_tryBill_B {l : Launch} {E : Ev} {b : Nat} {v1 : Int32} {v2 : Int32} {v3 : Int32} {w wc : va_W} {is : List Nat} {fs : List Value} {pw : va_W → Prop} (hM : Th l E yX5_bill cX5_bill 4 (some FieldType.int) 7 111 [.ref b, .int v1, .int v2, .int v3] wc pw "java/lang/IndexOutOfBoundsException") (hC : is.map (fun i => w[i]?) = wc.map some) (hn : va_nd is = true) (hr : wc[0]? = some (b, .inr (5, fs))) : CtN l E yL_tryBill method_10_code 5 (some FieldType.int) (some [(0, 7, 8, 13), (0, 7, 13, 20)]) 8 134 1 [.ref b, .int v1, .int v2, .int v3] w (fun v9 w9 => ∃ u : va_W, pw u ∧ v9 = some (.int (-9999001)) ∧ w9 = mrg w is u) := by
  refine ctn_of_ctx (ctx_of (by decide +kernel) (Nat.le_of_ble_eq_true rfl) (fun ω ω9 C C9 RT up TC => ?_))
  show ω w [(0, .ref b), (1, .int v1), (2, .int v2), (3, .int v3)] [] 0
  refine r_aload_n C (i := 0) 0 dL_tryBill_0 rfl rfl ?_
  refine r_iload_n C (i := 1) 1 dL_tryBill_1 rfl rfl ?_
  refine r_iload_n C (i := 2) 2 dL_tryBill_2 rfl rfl ?_
  refine r_iload_n C (i := 3) 3 dL_tryBill_3 rfl rfl ?_
  refine TC "java/lang/IndexOutOfBoundsException" [] (0, 7, 8, 13) [(0, 7, 13, 20)] rfl (fun _ h => absurd h List.not_mem_nil) (by decide) w_1_162 cs_B _ pw _ _ [] _ 4 _ _ _ _ _ 5 _ _ _ _ _ is _ _ hM lk_X5_bill w_3_193 rfl dL_tryBill_4 rfl hC hn hr ⟨by decide, by decide⟩ (Nat.le_of_ble_eq_true rfl) ⟨by decide, by decide⟩ (fun u q hw hf => ?_)
  show ω9 _ [(0, .ref b), (1, .int v1), (2, .int v2), (3, .int v3)] [.ref q] 8
  refine r_astore C9 (lv' := [(4, .ref q), (0, .ref b), (1, .int v1), (2, .int v2), (3, .int v3)]) dL_tryBill_8 (by decide) rfl ?_
  refine r_ldc (v := (-9999001)) C9 dL_tryBill_10 w_2_40 ?_
  exact RT.1 _ _ _ _ _ dL_tryBill_12 rfl rfl ⟨u, hw, rfl, rfl⟩ (mrg_fst hC hf)
set_option maxRecDepth 100000 in
theorem wn_tryBill_A {l : Launch} {E : Ev} {b : Nat} {v1 : Int32} {v2 : Int32} {v3 : Int32} {w wc : va_W} {is : List Nat} {fs : List Value} {pw : va_W → Prop} (hM : Th l E yX5_bill cX5_bill 4 (some FieldType.int) 7 111 [.ref b, .int v1, .int v2, .int v3] wc pw "java/lang/IllegalArgumentException") (hC : is.map (fun i => w[i]?) = wc.map some) (hn : va_nd is = true) (hr : wc[0]? = some (b, .inr (5, fs))) : CtN l E yL_tryBill method_10_code 5 (some FieldType.int) (some [(0, 7, 8, 13), (0, 7, 13, 20)]) 8 134 1 [.ref b, .int v1, .int v2, .int v3] w (fun v9 w9 => ∃ u : va_W, pw u ∧ v9 = some (.int (-9999002)) ∧ w9 = mrg w is u) := by
  refine ctn_of_ctx (ctx_of (by decide +kernel) (Nat.le_of_ble_eq_true rfl) (fun ω ω9 C C9 RT up TC => ?_))
  show ω w [(0, .ref b), (1, .int v1), (2, .int v2), (3, .int v3)] [] 0
  refine r_aload_n C (i := 0) 0 dL_tryBill_0 rfl rfl ?_
  refine r_iload_n C (i := 1) 1 dL_tryBill_1 rfl rfl ?_
  refine r_iload_n C (i := 2) 2 dL_tryBill_2 rfl rfl ?_
  refine r_iload_n C (i := 3) 3 dL_tryBill_3 rfl rfl ?_
  refine TC "java/lang/IllegalArgumentException" [(0, 7, 8, 13)] (0, 7, 13, 20) [] rfl (List.forall_mem_cons.mpr ⟨⟨by decide, "java/lang/IndexOutOfBoundsException", w_1_162, nc_AB⟩, fun _ h => absurd h List.not_mem_nil⟩) (by decide) w_2_47 cs_A _ pw _ _ [] _ 4 _ _ _ _ _ 5 _ _ _ _ _ is _ _ hM lk_X5_bill w_3_193 rfl dL_tryBill_4 rfl hC hn hr ⟨by decide, by decide⟩ (Nat.le_of_ble_eq_true rfl) ⟨by decide, by decide⟩ (fun u q hw hf => ?_)
  show ω9 _ [(0, .ref b), (1, .int v1), (2, .int v2), (3, .int v3)] [.ref q] 13
  refine r_astore C9 (lv' := [(4, .ref q), (0, .ref b), (1, .int v1), (2, .int v2), (3, .int v3)]) dL_tryBill_13 (by decide) rfl ?_
  refine r_ldc (v := (-9999002)) C9 dL_tryBill_15 w_2_97 ?_
  exact RT.1 _ _ _ _ _ dL_tryBill_17 rfl rfl ⟨u, hw, rfl, rfl⟩ (mrg_fst hC hf)
set_option maxRecDepth 100000 in
theorem wo_tryNight {l : Launch} {E : Ev} {b : Nat} {v1 : Int32} {v2 : Int32} {w wc : va_W} {is : List Nat} {fs : List Value} {post : Option Value → va_W → Prop} (hM : Ct l E yX5_night cX5_night 3 (some FieldType.int) 7 110 [.ref b, .int v1, .int v2] wc post) (hq : PoR wc post) (hC : is.map (fun i => w[i]?) = wc.map some) (hn : va_nd is = true) (hr : wc[0]? = some (b, .inr (5, fs))) : CtN l E yL_tryNight method_11_code 4 (some FieldType.int) (some [(0, 6, 7, 13), (0, 6, 11, 20)]) 8 132 0 [.ref b, .int v1, .int v2] w (fun v9 w9 => ∃ u : va_W, post v9 u ∧ w9 = mrg w is u) := by
  refine ctn_of (by decide +kernel) (Nat.le_of_ble_eq_true rfl) (fun Ω hB => ?_)
  have C := hB.1 0 (Nat.le_refl 0)
  show Ω 0 w [(0, .ref b), (1, .int v1), (2, .int v2)] [] 0
  refine r_aload_n C (i := 0) 0 dL_tryNight_0 rfl rfl ?_
  refine r_iload_n C (i := 1) 1 dL_tryNight_1 rfl rfl ?_
  refine r_iload_n C (i := 2) 2 dL_tryNight_2 rfl rfl ?_
  refine r_callV (rest := []) C hM lk_X5_night w_3_212 is (ci := 5) rfl dL_tryNight_3 rfl hC hn hr ⟨by decide, by decide⟩ (Nat.le_of_ble_eq_true rfl) (fun v u hp => ?_)
  obtain ⟨⟨r, rfl⟩, hf⟩ := hq v u hp
  exact (hB.2.2.1 0 (Nat.le_refl 0)).1 _ _ _ _ _ dL_tryNight_6 rfl rfl ⟨u, hp, rfl⟩ (mrg_fst hC hf)
set_option maxRecDepth 100000 in
theorem wn_tryNight_B {l : Launch} {E : Ev} {b : Nat} {v1 : Int32} {v2 : Int32} {w wc : va_W} {is : List Nat} {fs : List Value} {pw : va_W → Prop} (hM : Th l E yX5_night cX5_night 3 (some FieldType.int) 7 110 [.ref b, .int v1, .int v2] wc pw "java/lang/IndexOutOfBoundsException") (hC : is.map (fun i => w[i]?) = wc.map some) (hn : va_nd is = true) (hr : wc[0]? = some (b, .inr (5, fs))) : CtN l E yL_tryNight method_11_code 4 (some FieldType.int) (some [(0, 6, 7, 13), (0, 6, 11, 20)]) 8 132 1 [.ref b, .int v1, .int v2] w (fun v9 w9 => ∃ u : va_W, pw u ∧ v9 = some (.int (-9999001)) ∧ w9 = mrg w is u) := by
  refine ctn_of_ctx (ctx_of (by decide +kernel) (Nat.le_of_ble_eq_true rfl) (fun ω ω9 C C9 RT up TC => ?_))
  show ω w [(0, .ref b), (1, .int v1), (2, .int v2)] [] 0
  refine r_aload_n C (i := 0) 0 dL_tryNight_0 rfl rfl ?_
  refine r_iload_n C (i := 1) 1 dL_tryNight_1 rfl rfl ?_
  refine r_iload_n C (i := 2) 2 dL_tryNight_2 rfl rfl ?_
  refine TC "java/lang/IndexOutOfBoundsException" [] (0, 6, 7, 13) [(0, 6, 11, 20)] rfl (fun _ h => absurd h List.not_mem_nil) (by decide) w_1_162 cs_B _ pw _ _ [] _ 3 _ _ _ _ _ 5 _ _ _ _ _ is _ _ hM lk_X5_night w_3_212 rfl dL_tryNight_3 rfl hC hn hr ⟨by decide, by decide⟩ (Nat.le_of_ble_eq_true rfl) ⟨by decide, by decide⟩ (fun u q hw hf => ?_)
  show ω9 _ [(0, .ref b), (1, .int v1), (2, .int v2)] [.ref q] 7
  refine r_astore_n C9 (lv' := [(3, .ref q), (0, .ref b), (1, .int v1), (2, .int v2)]) dL_tryNight_7 rfl (by decide) rfl ?_
  refine r_ldc (v := (-9999001)) C9 dL_tryNight_8 w_2_40 ?_
  exact RT.1 _ _ _ _ _ dL_tryNight_10 rfl rfl ⟨u, hw, rfl, rfl⟩ (mrg_fst hC hf)
set_option maxRecDepth 100000 in
theorem wn_tryNight_A {l : Launch} {E : Ev} {b : Nat} {v1 : Int32} {v2 : Int32} {w wc : va_W} {is : List Nat} {fs : List Value} {pw : va_W → Prop} (hM : Th l E yX5_night cX5_night 3 (some FieldType.int) 7 110 [.ref b, .int v1, .int v2] wc pw "java/lang/IllegalArgumentException") (hC : is.map (fun i => w[i]?) = wc.map some) (hn : va_nd is = true) (hr : wc[0]? = some (b, .inr (5, fs))) : CtN l E yL_tryNight method_11_code 4 (some FieldType.int) (some [(0, 6, 7, 13), (0, 6, 11, 20)]) 8 132 1 [.ref b, .int v1, .int v2] w (fun v9 w9 => ∃ u : va_W, pw u ∧ v9 = some (.int (-9999002)) ∧ w9 = mrg w is u) := by
  refine ctn_of_ctx (ctx_of (by decide +kernel) (Nat.le_of_ble_eq_true rfl) (fun ω ω9 C C9 RT up TC => ?_))
  show ω w [(0, .ref b), (1, .int v1), (2, .int v2)] [] 0
  refine r_aload_n C (i := 0) 0 dL_tryNight_0 rfl rfl ?_
  refine r_iload_n C (i := 1) 1 dL_tryNight_1 rfl rfl ?_
  refine r_iload_n C (i := 2) 2 dL_tryNight_2 rfl rfl ?_
  refine TC "java/lang/IllegalArgumentException" [(0, 6, 7, 13)] (0, 6, 11, 20) [] rfl (List.forall_mem_cons.mpr ⟨⟨by decide, "java/lang/IndexOutOfBoundsException", w_1_162, nc_AB⟩, fun _ h => absurd h List.not_mem_nil⟩) (by decide) w_2_47 cs_A _ pw _ _ [] _ 3 _ _ _ _ _ 5 _ _ _ _ _ is _ _ hM lk_X5_night w_3_212 rfl dL_tryNight_3 rfl hC hn hr ⟨by decide, by decide⟩ (Nat.le_of_ble_eq_true rfl) ⟨by decide, by decide⟩ (fun u q hw hf => ?_)
  show ω9 _ [(0, .ref b), (1, .int v1), (2, .int v2)] [.ref q] 11
  refine r_astore_n C9 (lv' := [(3, .ref q), (0, .ref b), (1, .int v1), (2, .int v2)]) dL_tryNight_11 rfl (by decide) rfl ?_
  refine r_ldc (v := (-9999002)) C9 dL_tryNight_12 w_2_97 ?_
  exact RT.1 _ _ _ _ _ dL_tryNight_14 rfl rfl ⟨u, hw, rfl, rfl⟩ (mrg_fst hC hf)
set_option maxRecDepth 100000 in
theorem wo_tryActor {l : Launch} {E : Ev} {b : Nat} {v1 : Int32} {v2 : Int32} {w wc : va_W} {is : List Nat} {fs : List Value} {post : Option Value → va_W → Prop} (hM : Ct l E yX5_actor cX5_actor 3 (some FieldType.int) 7 119 [.ref b, .int v1, .int v2] wc post) (hq : PoR wc post) (hC : is.map (fun i => w[i]?) = wc.map some) (hn : va_nd is = true) (hr : wc[0]? = some (b, .inr (5, fs))) : CtN l E yL_tryActor method_12_code 4 (some FieldType.int) (some [(0, 6, 7, 13), (0, 6, 11, 20)]) 8 141 0 [.ref b, .int v1, .int v2] w (fun v9 w9 => ∃ u : va_W, post v9 u ∧ w9 = mrg w is u) := by
  refine ctn_of (by decide +kernel) (Nat.le_of_ble_eq_true rfl) (fun Ω hB => ?_)
  have C := hB.1 0 (Nat.le_refl 0)
  show Ω 0 w [(0, .ref b), (1, .int v1), (2, .int v2)] [] 0
  refine r_aload_n C (i := 0) 0 dL_tryActor_0 rfl rfl ?_
  refine r_iload_n C (i := 1) 1 dL_tryActor_1 rfl rfl ?_
  refine r_iload_n C (i := 2) 2 dL_tryActor_2 rfl rfl ?_
  refine r_callV (rest := []) C hM lk_X5_actor w_3_230 is (ci := 5) rfl dL_tryActor_3 rfl hC hn hr ⟨by decide, by decide⟩ (Nat.le_of_ble_eq_true rfl) (fun v u hp => ?_)
  obtain ⟨⟨r, rfl⟩, hf⟩ := hq v u hp
  exact (hB.2.2.1 0 (Nat.le_refl 0)).1 _ _ _ _ _ dL_tryActor_6 rfl rfl ⟨u, hp, rfl⟩ (mrg_fst hC hf)
set_option maxRecDepth 100000 in
theorem wn_tryActor_B {l : Launch} {E : Ev} {b : Nat} {v1 : Int32} {v2 : Int32} {w wc : va_W} {is : List Nat} {fs : List Value} {pw : va_W → Prop} (hM : Th l E yX5_actor cX5_actor 3 (some FieldType.int) 7 119 [.ref b, .int v1, .int v2] wc pw "java/lang/IndexOutOfBoundsException") (hC : is.map (fun i => w[i]?) = wc.map some) (hn : va_nd is = true) (hr : wc[0]? = some (b, .inr (5, fs))) : CtN l E yL_tryActor method_12_code 4 (some FieldType.int) (some [(0, 6, 7, 13), (0, 6, 11, 20)]) 8 141 1 [.ref b, .int v1, .int v2] w (fun v9 w9 => ∃ u : va_W, pw u ∧ v9 = some (.int (-9999001)) ∧ w9 = mrg w is u) := by
  refine ctn_of_ctx (ctx_of (by decide +kernel) (Nat.le_of_ble_eq_true rfl) (fun ω ω9 C C9 RT up TC => ?_))
  show ω w [(0, .ref b), (1, .int v1), (2, .int v2)] [] 0
  refine r_aload_n C (i := 0) 0 dL_tryActor_0 rfl rfl ?_
  refine r_iload_n C (i := 1) 1 dL_tryActor_1 rfl rfl ?_
  refine r_iload_n C (i := 2) 2 dL_tryActor_2 rfl rfl ?_
  refine TC "java/lang/IndexOutOfBoundsException" [] (0, 6, 7, 13) [(0, 6, 11, 20)] rfl (fun _ h => absurd h List.not_mem_nil) (by decide) w_1_162 cs_B _ pw _ _ [] _ 3 _ _ _ _ _ 5 _ _ _ _ _ is _ _ hM lk_X5_actor w_3_230 rfl dL_tryActor_3 rfl hC hn hr ⟨by decide, by decide⟩ (Nat.le_of_ble_eq_true rfl) ⟨by decide, by decide⟩ (fun u q hw hf => ?_)
  show ω9 _ [(0, .ref b), (1, .int v1), (2, .int v2)] [.ref q] 7
  refine r_astore_n C9 (lv' := [(3, .ref q), (0, .ref b), (1, .int v1), (2, .int v2)]) dL_tryActor_7 rfl (by decide) rfl ?_
  refine r_ldc (v := (-9999001)) C9 dL_tryActor_8 w_2_40 ?_
  exact RT.1 _ _ _ _ _ dL_tryActor_10 rfl rfl ⟨u, hw, rfl, rfl⟩ (mrg_fst hC hf)
set_option maxRecDepth 100000 in
theorem wn_tryActor_A {l : Launch} {E : Ev} {b : Nat} {v1 : Int32} {v2 : Int32} {w wc : va_W} {is : List Nat} {fs : List Value} {pw : va_W → Prop} (hM : Th l E yX5_actor cX5_actor 3 (some FieldType.int) 7 119 [.ref b, .int v1, .int v2] wc pw "java/lang/IllegalArgumentException") (hC : is.map (fun i => w[i]?) = wc.map some) (hn : va_nd is = true) (hr : wc[0]? = some (b, .inr (5, fs))) : CtN l E yL_tryActor method_12_code 4 (some FieldType.int) (some [(0, 6, 7, 13), (0, 6, 11, 20)]) 8 141 1 [.ref b, .int v1, .int v2] w (fun v9 w9 => ∃ u : va_W, pw u ∧ v9 = some (.int (-9999002)) ∧ w9 = mrg w is u) := by
  refine ctn_of_ctx (ctx_of (by decide +kernel) (Nat.le_of_ble_eq_true rfl) (fun ω ω9 C C9 RT up TC => ?_))
  show ω w [(0, .ref b), (1, .int v1), (2, .int v2)] [] 0
  refine r_aload_n C (i := 0) 0 dL_tryActor_0 rfl rfl ?_
  refine r_iload_n C (i := 1) 1 dL_tryActor_1 rfl rfl ?_
  refine r_iload_n C (i := 2) 2 dL_tryActor_2 rfl rfl ?_
  refine TC "java/lang/IllegalArgumentException" [(0, 6, 7, 13)] (0, 6, 11, 20) [] rfl (List.forall_mem_cons.mpr ⟨⟨by decide, "java/lang/IndexOutOfBoundsException", w_1_162, nc_AB⟩, fun _ h => absurd h List.not_mem_nil⟩) (by decide) w_2_47 cs_A _ pw _ _ [] _ 3 _ _ _ _ _ 5 _ _ _ _ _ is _ _ hM lk_X5_actor w_3_230 rfl dL_tryActor_3 rfl hC hn hr ⟨by decide, by decide⟩ (Nat.le_of_ble_eq_true rfl) ⟨by decide, by decide⟩ (fun u q hw hf => ?_)
  show ω9 _ [(0, .ref b), (1, .int v1), (2, .int v2)] [.ref q] 11
  refine r_astore_n C9 (lv' := [(3, .ref q), (0, .ref b), (1, .int v1), (2, .int v2)]) dL_tryActor_11 rfl (by decide) rfl ?_
  refine r_ldc (v := (-9999002)) C9 dL_tryActor_12 w_2_97 ?_
  exact RT.1 _ _ _ _ _ dL_tryActor_14 rfl rfl ⟨u, hw, rfl, rfl⟩ (mrg_fst hC hf)
set_option maxRecDepth 100000 in
theorem wo_tryRanked {l : Launch} {E : Ev} {b : Nat} {v1 : Int32} {v2 : Int32} {w wc : va_W} {is : List Nat} {fs : List Value} {post : Option Value → va_W → Prop} (hM : Ct l E yX5_ranked cX5_ranked 3 (some FieldType.int) 7 111 [.ref b, .int v1, .int v2] wc post) (hq : PoR wc post) (hC : is.map (fun i => w[i]?) = wc.map some) (hn : va_nd is = true) (hr : wc[0]? = some (b, .inr (5, fs))) : CtN l E yL_tryRanked method_13_code 4 (some FieldType.int) (some [(0, 6, 7, 13), (0, 6, 11, 20)]) 8 133 0 [.ref b, .int v1, .int v2] w (fun v9 w9 => ∃ u : va_W, post v9 u ∧ w9 = mrg w is u) := by
  refine ctn_of (by decide +kernel) (Nat.le_of_ble_eq_true rfl) (fun Ω hB => ?_)
  have C := hB.1 0 (Nat.le_refl 0)
  show Ω 0 w [(0, .ref b), (1, .int v1), (2, .int v2)] [] 0
  refine r_aload_n C (i := 0) 0 dL_tryRanked_0 rfl rfl ?_
  refine r_iload_n C (i := 1) 1 dL_tryRanked_1 rfl rfl ?_
  refine r_iload_n C (i := 2) 2 dL_tryRanked_2 rfl rfl ?_
  refine r_callV (rest := []) C hM lk_X5_ranked w_4_20 is (ci := 5) rfl dL_tryRanked_3 rfl hC hn hr ⟨by decide, by decide⟩ (Nat.le_of_ble_eq_true rfl) (fun v u hp => ?_)
  obtain ⟨⟨r, rfl⟩, hf⟩ := hq v u hp
  exact (hB.2.2.1 0 (Nat.le_refl 0)).1 _ _ _ _ _ dL_tryRanked_6 rfl rfl ⟨u, hp, rfl⟩ (mrg_fst hC hf)
set_option maxRecDepth 100000 in
theorem wn_tryRanked_B {l : Launch} {E : Ev} {b : Nat} {v1 : Int32} {v2 : Int32} {w wc : va_W} {is : List Nat} {fs : List Value} {pw : va_W → Prop} (hM : Th l E yX5_ranked cX5_ranked 3 (some FieldType.int) 7 111 [.ref b, .int v1, .int v2] wc pw "java/lang/IndexOutOfBoundsException") (hC : is.map (fun i => w[i]?) = wc.map some) (hn : va_nd is = true) (hr : wc[0]? = some (b, .inr (5, fs))) : CtN l E yL_tryRanked method_13_code 4 (some FieldType.int) (some [(0, 6, 7, 13), (0, 6, 11, 20)]) 8 133 1 [.ref b, .int v1, .int v2] w (fun v9 w9 => ∃ u : va_W, pw u ∧ v9 = some (.int (-9999001)) ∧ w9 = mrg w is u) := by
  refine ctn_of_ctx (ctx_of (by decide +kernel) (Nat.le_of_ble_eq_true rfl) (fun ω ω9 C C9 RT up TC => ?_))
  show ω w [(0, .ref b), (1, .int v1), (2, .int v2)] [] 0
  refine r_aload_n C (i := 0) 0 dL_tryRanked_0 rfl rfl ?_
  refine r_iload_n C (i := 1) 1 dL_tryRanked_1 rfl rfl ?_
  refine r_iload_n C (i := 2) 2 dL_tryRanked_2 rfl rfl ?_
  refine TC "java/lang/IndexOutOfBoundsException" [] (0, 6, 7, 13) [(0, 6, 11, 20)] rfl (fun _ h => absurd h List.not_mem_nil) (by decide) w_1_162 cs_B _ pw _ _ [] _ 3 _ _ _ _ _ 5 _ _ _ _ _ is _ _ hM lk_X5_ranked w_4_20 rfl dL_tryRanked_3 rfl hC hn hr ⟨by decide, by decide⟩ (Nat.le_of_ble_eq_true rfl) ⟨by decide, by decide⟩ (fun u q hw hf => ?_)
  show ω9 _ [(0, .ref b), (1, .int v1), (2, .int v2)] [.ref q] 7
  refine r_astore_n C9 (lv' := [(3, .ref q), (0, .ref b), (1, .int v1), (2, .int v2)]) dL_tryRanked_7 rfl (by decide) rfl ?_
  refine r_ldc (v := (-9999001)) C9 dL_tryRanked_8 w_2_40 ?_
  exact RT.1 _ _ _ _ _ dL_tryRanked_10 rfl rfl ⟨u, hw, rfl, rfl⟩ (mrg_fst hC hf)
set_option maxRecDepth 100000 in
theorem wn_tryRanked_A {l : Launch} {E : Ev} {b : Nat} {v1 : Int32} {v2 : Int32} {w wc : va_W} {is : List Nat} {fs : List Value} {pw : va_W → Prop} (hM : Th l E yX5_ranked cX5_ranked 3 (some FieldType.int) 7 111 [.ref b, .int v1, .int v2] wc pw "java/lang/IllegalArgumentException") (hC : is.map (fun i => w[i]?) = wc.map some) (hn : va_nd is = true) (hr : wc[0]? = some (b, .inr (5, fs))) : CtN l E yL_tryRanked method_13_code 4 (some FieldType.int) (some [(0, 6, 7, 13), (0, 6, 11, 20)]) 8 133 1 [.ref b, .int v1, .int v2] w (fun v9 w9 => ∃ u : va_W, pw u ∧ v9 = some (.int (-9999002)) ∧ w9 = mrg w is u) := by
  refine ctn_of_ctx (ctx_of (by decide +kernel) (Nat.le_of_ble_eq_true rfl) (fun ω ω9 C C9 RT up TC => ?_))
  show ω w [(0, .ref b), (1, .int v1), (2, .int v2)] [] 0
  refine r_aload_n C (i := 0) 0 dL_tryRanked_0 rfl rfl ?_
  refine r_iload_n C (i := 1) 1 dL_tryRanked_1 rfl rfl ?_
  refine r_iload_n C (i := 2) 2 dL_tryRanked_2 rfl rfl ?_
  refine TC "java/lang/IllegalArgumentException" [(0, 6, 7, 13)] (0, 6, 11, 20) [] rfl (List.forall_mem_cons.mpr ⟨⟨by decide, "java/lang/IndexOutOfBoundsException", w_1_162, nc_AB⟩, fun _ h => absurd h List.not_mem_nil⟩) (by decide) w_2_47 cs_A _ pw _ _ [] _ 3 _ _ _ _ _ 5 _ _ _ _ _ is _ _ hM lk_X5_ranked w_4_20 rfl dL_tryRanked_3 rfl hC hn hr ⟨by decide, by decide⟩ (Nat.le_of_ble_eq_true rfl) ⟨by decide, by decide⟩ (fun u q hw hf => ?_)
  show ω9 _ [(0, .ref b), (1, .int v1), (2, .int v2)] [.ref q] 11
  refine r_astore_n C9 (lv' := [(3, .ref q), (0, .ref b), (1, .int v1), (2, .int v2)]) dL_tryRanked_11 rfl (by decide) rfl ?_
  refine r_ldc (v := (-9999002)) C9 dL_tryRanked_12 w_2_97 ?_
  exact RT.1 _ _ _ _ _ dL_tryRanked_14 rfl rfl ⟨u, hw, rfl, rfl⟩ (mrg_fst hC hf)
set_option maxRecDepth 100000 in
theorem wo_tryFound {l : Launch} {E : Ev} {b : Nat} {v1 : Int32} {v2 : Int32} {w wc : va_W} {is : List Nat} {fs : List Value} {post : Option Value → va_W → Prop} (hM : Ct l E yX5_found cX5_found 3 (some FieldType.int) 7 111 [.ref b, .int v1, .int v2] wc post) (hq : PoR wc post) (hC : is.map (fun i => w[i]?) = wc.map some) (hn : va_nd is = true) (hr : wc[0]? = some (b, .inr (5, fs))) : CtN l E yL_tryFound method_14_code 4 (some FieldType.int) (some [(0, 6, 7, 13), (0, 6, 11, 20)]) 8 133 0 [.ref b, .int v1, .int v2] w (fun v9 w9 => ∃ u : va_W, post v9 u ∧ w9 = mrg w is u) := by
  refine ctn_of (by decide +kernel) (Nat.le_of_ble_eq_true rfl) (fun Ω hB => ?_)
  have C := hB.1 0 (Nat.le_refl 0)
  show Ω 0 w [(0, .ref b), (1, .int v1), (2, .int v2)] [] 0
  refine r_aload_n C (i := 0) 0 dL_tryFound_0 rfl rfl ?_
  refine r_iload_n C (i := 1) 1 dL_tryFound_1 rfl rfl ?_
  refine r_iload_n C (i := 2) 2 dL_tryFound_2 rfl rfl ?_
  refine r_callV (rest := []) C hM lk_X5_found w_4_29 is (ci := 5) rfl dL_tryFound_3 rfl hC hn hr ⟨by decide, by decide⟩ (Nat.le_of_ble_eq_true rfl) (fun v u hp => ?_)
  obtain ⟨⟨r, rfl⟩, hf⟩ := hq v u hp
  exact (hB.2.2.1 0 (Nat.le_refl 0)).1 _ _ _ _ _ dL_tryFound_6 rfl rfl ⟨u, hp, rfl⟩ (mrg_fst hC hf)
set_option maxRecDepth 100000 in
theorem wn_tryFound_B {l : Launch} {E : Ev} {b : Nat} {v1 : Int32} {v2 : Int32} {w wc : va_W} {is : List Nat} {fs : List Value} {pw : va_W → Prop} (hM : Th l E yX5_found cX5_found 3 (some FieldType.int) 7 111 [.ref b, .int v1, .int v2] wc pw "java/lang/IndexOutOfBoundsException") (hC : is.map (fun i => w[i]?) = wc.map some) (hn : va_nd is = true) (hr : wc[0]? = some (b, .inr (5, fs))) : CtN l E yL_tryFound method_14_code 4 (some FieldType.int) (some [(0, 6, 7, 13), (0, 6, 11, 20)]) 8 133 1 [.ref b, .int v1, .int v2] w (fun v9 w9 => ∃ u : va_W, pw u ∧ v9 = some (.int (-9999001)) ∧ w9 = mrg w is u) := by
  refine ctn_of_ctx (ctx_of (by decide +kernel) (Nat.le_of_ble_eq_true rfl) (fun ω ω9 C C9 RT up TC => ?_))
  show ω w [(0, .ref b), (1, .int v1), (2, .int v2)] [] 0
  refine r_aload_n C (i := 0) 0 dL_tryFound_0 rfl rfl ?_
  refine r_iload_n C (i := 1) 1 dL_tryFound_1 rfl rfl ?_
  refine r_iload_n C (i := 2) 2 dL_tryFound_2 rfl rfl ?_
  refine TC "java/lang/IndexOutOfBoundsException" [] (0, 6, 7, 13) [(0, 6, 11, 20)] rfl (fun _ h => absurd h List.not_mem_nil) (by decide) w_1_162 cs_B _ pw _ _ [] _ 3 _ _ _ _ _ 5 _ _ _ _ _ is _ _ hM lk_X5_found w_4_29 rfl dL_tryFound_3 rfl hC hn hr ⟨by decide, by decide⟩ (Nat.le_of_ble_eq_true rfl) ⟨by decide, by decide⟩ (fun u q hw hf => ?_)
  show ω9 _ [(0, .ref b), (1, .int v1), (2, .int v2)] [.ref q] 7
  refine r_astore_n C9 (lv' := [(3, .ref q), (0, .ref b), (1, .int v1), (2, .int v2)]) dL_tryFound_7 rfl (by decide) rfl ?_
  refine r_ldc (v := (-9999001)) C9 dL_tryFound_8 w_2_40 ?_
  exact RT.1 _ _ _ _ _ dL_tryFound_10 rfl rfl ⟨u, hw, rfl, rfl⟩ (mrg_fst hC hf)
set_option maxRecDepth 100000 in
theorem wn_tryFound_A {l : Launch} {E : Ev} {b : Nat} {v1 : Int32} {v2 : Int32} {w wc : va_W} {is : List Nat} {fs : List Value} {pw : va_W → Prop} (hM : Th l E yX5_found cX5_found 3 (some FieldType.int) 7 111 [.ref b, .int v1, .int v2] wc pw "java/lang/IllegalArgumentException") (hC : is.map (fun i => w[i]?) = wc.map some) (hn : va_nd is = true) (hr : wc[0]? = some (b, .inr (5, fs))) : CtN l E yL_tryFound method_14_code 4 (some FieldType.int) (some [(0, 6, 7, 13), (0, 6, 11, 20)]) 8 133 1 [.ref b, .int v1, .int v2] w (fun v9 w9 => ∃ u : va_W, pw u ∧ v9 = some (.int (-9999002)) ∧ w9 = mrg w is u) := by
  refine ctn_of_ctx (ctx_of (by decide +kernel) (Nat.le_of_ble_eq_true rfl) (fun ω ω9 C C9 RT up TC => ?_))
  show ω w [(0, .ref b), (1, .int v1), (2, .int v2)] [] 0
  refine r_aload_n C (i := 0) 0 dL_tryFound_0 rfl rfl ?_
  refine r_iload_n C (i := 1) 1 dL_tryFound_1 rfl rfl ?_
  refine r_iload_n C (i := 2) 2 dL_tryFound_2 rfl rfl ?_
  refine TC "java/lang/IllegalArgumentException" [(0, 6, 7, 13)] (0, 6, 11, 20) [] rfl (List.forall_mem_cons.mpr ⟨⟨by decide, "java/lang/IndexOutOfBoundsException", w_1_162, nc_AB⟩, fun _ h => absurd h List.not_mem_nil⟩) (by decide) w_2_47 cs_A _ pw _ _ [] _ 3 _ _ _ _ _ 5 _ _ _ _ _ is _ _ hM lk_X5_found w_4_29 rfl dL_tryFound_3 rfl hC hn hr ⟨by decide, by decide⟩ (Nat.le_of_ble_eq_true rfl) ⟨by decide, by decide⟩ (fun u q hw hf => ?_)
  show ω9 _ [(0, .ref b), (1, .int v1), (2, .int v2)] [.ref q] 11
  refine r_astore_n C9 (lv' := [(3, .ref q), (0, .ref b), (1, .int v1), (2, .int v2)]) dL_tryFound_11 rfl (by decide) rfl ?_
  refine r_ldc (v := (-9999002)) C9 dL_tryFound_12 w_2_97 ?_
  exact RT.1 _ _ _ _ _ dL_tryFound_14 rfl rfl ⟨u, hw, rfl, rfl⟩ (mrg_fst hC hf)
set_option maxRecDepth 100000 in
theorem wo_trySetting {l : Launch} {E : Ev} {b : Nat} {v1 : Int32} {w wc : va_W} {is : List Nat} {fs : List Value} {post : Option Value → va_W → Prop} (hM : Ct l E yX5_setting cX5_setting 2 (some FieldType.int) 7 110 [.ref b, .int v1] wc post) (hq : PoR wc post) (hC : is.map (fun i => w[i]?) = wc.map some) (hn : va_nd is = true) (hr : wc[0]? = some (b, .inr (5, fs))) : CtN l E yL_trySetting method_15_code 3 (some FieldType.int) (some [(0, 5, 6, 20)]) 8 131 0 [.ref b, .int v1] w (fun v9 w9 => ∃ u : va_W, post v9 u ∧ w9 = mrg w is u) := by
  refine ctn_of (by decide +kernel) (Nat.le_of_ble_eq_true rfl) (fun Ω hB => ?_)
  have C := hB.1 0 (Nat.le_refl 0)
  show Ω 0 w [(0, .ref b), (1, .int v1)] [] 0
  refine r_aload_n C (i := 0) 0 dL_trySetting_0 rfl rfl ?_
  refine r_iload_n C (i := 1) 1 dL_trySetting_1 rfl rfl ?_
  refine r_callV (rest := []) C hM lk_X5_setting w_4_50 is (ci := 5) rfl dL_trySetting_2 rfl hC hn hr ⟨by decide, by decide⟩ (Nat.le_of_ble_eq_true rfl) (fun v u hp => ?_)
  obtain ⟨⟨r, rfl⟩, hf⟩ := hq v u hp
  exact (hB.2.2.1 0 (Nat.le_refl 0)).1 _ _ _ _ _ dL_trySetting_5 rfl rfl ⟨u, hp, rfl⟩ (mrg_fst hC hf)
set_option maxRecDepth 100000 in
theorem wn_trySetting_A {l : Launch} {E : Ev} {b : Nat} {v1 : Int32} {w wc : va_W} {is : List Nat} {fs : List Value} {pw : va_W → Prop} (hM : Th l E yX5_setting cX5_setting 2 (some FieldType.int) 7 110 [.ref b, .int v1] wc pw "java/lang/IllegalArgumentException") (hC : is.map (fun i => w[i]?) = wc.map some) (hn : va_nd is = true) (hr : wc[0]? = some (b, .inr (5, fs))) : CtN l E yL_trySetting method_15_code 3 (some FieldType.int) (some [(0, 5, 6, 20)]) 8 131 1 [.ref b, .int v1] w (fun v9 w9 => ∃ u : va_W, pw u ∧ v9 = some (.int (-9999002)) ∧ w9 = mrg w is u) := by
  refine ctn_of_ctx (ctx_of (by decide +kernel) (Nat.le_of_ble_eq_true rfl) (fun ω ω9 C C9 RT up TC => ?_))
  show ω w [(0, .ref b), (1, .int v1)] [] 0
  refine r_aload_n C (i := 0) 0 dL_trySetting_0 rfl rfl ?_
  refine r_iload_n C (i := 1) 1 dL_trySetting_1 rfl rfl ?_
  refine TC "java/lang/IllegalArgumentException" [] (0, 5, 6, 20) [] rfl (fun _ h => absurd h List.not_mem_nil) (by decide) w_2_47 cs_A _ pw _ _ [] _ 2 _ _ _ _ _ 5 _ _ _ _ _ is _ _ hM lk_X5_setting w_4_50 rfl dL_trySetting_2 rfl hC hn hr ⟨by decide, by decide⟩ (Nat.le_of_ble_eq_true rfl) ⟨by decide, by decide⟩ (fun u q hw hf => ?_)
  show ω9 _ [(0, .ref b), (1, .int v1)] [.ref q] 6
  refine r_astore_n C9 (lv' := [(2, .ref q), (0, .ref b), (1, .int v1)]) dL_trySetting_6 rfl (by decide) rfl ?_
  refine r_ldc (v := (-9999002)) C9 dL_trySetting_7 w_2_97 ?_
  exact RT.1 _ _ _ _ _ dL_trySetting_9 rfl rfl ⟨u, hw, rfl, rfl⟩ (mrg_fst hC hf)
set_option maxRecDepth 100000 in
theorem wo_tryHire {l : Launch} {E : Ev} {b : Nat} {v1 : Int32} {w wc : va_W} {is : List Nat} {fs : List Value} {post : Option Value → va_W → Prop} (hM : Ct l E yX5_addActor cX5_addActor 3 (some FieldType.int) 6 90 [.ref b, .int v1] wc post) (hq : PoR wc post) (hC : is.map (fun i => w[i]?) = wc.map some) (hn : va_nd is = true) (hr : wc[0]? = some (b, .inr (5, fs))) : CtN l E yL_tryHire method_16_code 3 (some FieldType.int) (some [(0, 5, 6, 20), (0, 5, 10, 23)]) 7 112 0 [.ref b, .int v1] w (fun v9 w9 => ∃ u : va_W, post v9 u ∧ w9 = mrg w is u) := by
  refine ctn_of (by decide +kernel) (Nat.le_of_ble_eq_true rfl) (fun Ω hB => ?_)
  have C := hB.1 0 (Nat.le_refl 0)
  show Ω 0 w [(0, .ref b), (1, .int v1)] [] 0
  refine r_aload_n C (i := 0) 0 dL_tryHire_0 rfl rfl ?_
  refine r_iload_n C (i := 1) 1 dL_tryHire_1 rfl rfl ?_
  refine r_callV (rest := []) C hM lk_X5_addActor w_4_62 is (ci := 5) rfl dL_tryHire_2 rfl hC hn hr ⟨by decide, by decide⟩ (Nat.le_of_ble_eq_true rfl) (fun v u hp => ?_)
  obtain ⟨⟨r, rfl⟩, hf⟩ := hq v u hp
  exact (hB.2.2.1 0 (Nat.le_refl 0)).1 _ _ _ _ _ dL_tryHire_5 rfl rfl ⟨u, hp, rfl⟩ (mrg_fst hC hf)
set_option maxRecDepth 100000 in
theorem wn_tryHire_A {l : Launch} {E : Ev} {b : Nat} {v1 : Int32} {w wc : va_W} {is : List Nat} {fs : List Value} {pw : va_W → Prop} (hM : Th l E yX5_addActor cX5_addActor 3 (some FieldType.int) 6 90 [.ref b, .int v1] wc pw "java/lang/IllegalArgumentException") (hC : is.map (fun i => w[i]?) = wc.map some) (hn : va_nd is = true) (hr : wc[0]? = some (b, .inr (5, fs))) : CtN l E yL_tryHire method_16_code 3 (some FieldType.int) (some [(0, 5, 6, 20), (0, 5, 10, 23)]) 7 112 1 [.ref b, .int v1] w (fun v9 w9 => ∃ u : va_W, pw u ∧ v9 = some (.int (-9999002)) ∧ w9 = mrg w is u) := by
  refine ctn_of_ctx (ctx_of (by decide +kernel) (Nat.le_of_ble_eq_true rfl) (fun ω ω9 C C9 RT up TC => ?_))
  show ω w [(0, .ref b), (1, .int v1)] [] 0
  refine r_aload_n C (i := 0) 0 dL_tryHire_0 rfl rfl ?_
  refine r_iload_n C (i := 1) 1 dL_tryHire_1 rfl rfl ?_
  refine TC "java/lang/IllegalArgumentException" [] (0, 5, 6, 20) [(0, 5, 10, 23)] rfl (fun _ h => absurd h List.not_mem_nil) (by decide) w_2_47 cs_A _ pw _ _ [] _ 2 _ _ _ _ _ 5 _ _ _ _ _ is _ _ hM lk_X5_addActor w_4_62 rfl dL_tryHire_2 rfl hC hn hr ⟨by decide, by decide⟩ (Nat.le_of_ble_eq_true rfl) ⟨by decide, by decide⟩ (fun u q hw hf => ?_)
  show ω9 _ [(0, .ref b), (1, .int v1)] [.ref q] 6
  refine r_astore_n C9 (lv' := [(2, .ref q), (0, .ref b), (1, .int v1)]) dL_tryHire_6 rfl (by decide) rfl ?_
  refine r_ldc (v := (-9999002)) C9 dL_tryHire_7 w_2_97 ?_
  exact RT.1 _ _ _ _ _ dL_tryHire_9 rfl rfl ⟨u, hw, rfl, rfl⟩ (mrg_fst hC hf)
set_option maxRecDepth 100000 in
theorem wn_tryHire_S {l : Launch} {E : Ev} {b : Nat} {v1 : Int32} {w wc : va_W} {is : List Nat} {fs : List Value} {pw : va_W → Prop} (hM : Th l E yX5_addActor cX5_addActor 3 (some FieldType.int) 6 90 [.ref b, .int v1] wc pw "java/lang/IllegalStateException") (hC : is.map (fun i => w[i]?) = wc.map some) (hn : va_nd is = true) (hr : wc[0]? = some (b, .inr (5, fs))) : CtN l E yL_tryHire method_16_code 3 (some FieldType.int) (some [(0, 5, 6, 20), (0, 5, 10, 23)]) 7 112 1 [.ref b, .int v1] w (fun v9 w9 => ∃ u : va_W, pw u ∧ v9 = some (.int (-9999003)) ∧ w9 = mrg w is u) := by
  refine ctn_of_ctx (ctx_of (by decide +kernel) (Nat.le_of_ble_eq_true rfl) (fun ω ω9 C C9 RT up TC => ?_))
  show ω w [(0, .ref b), (1, .int v1)] [] 0
  refine r_aload_n C (i := 0) 0 dL_tryHire_0 rfl rfl ?_
  refine r_iload_n C (i := 1) 1 dL_tryHire_1 rfl rfl ?_
  refine TC "java/lang/IllegalStateException" [(0, 5, 6, 20)] (0, 5, 10, 23) [] rfl (List.forall_mem_cons.mpr ⟨⟨by decide, "java/lang/IllegalArgumentException", w_2_47, nc_SA⟩, fun _ h => absurd h List.not_mem_nil⟩) (by decide) w_2_48 cs_S _ pw _ _ [] _ 2 _ _ _ _ _ 5 _ _ _ _ _ is _ _ hM lk_X5_addActor w_4_62 rfl dL_tryHire_2 rfl hC hn hr ⟨by decide, by decide⟩ (Nat.le_of_ble_eq_true rfl) ⟨by decide, by decide⟩ (fun u q hw hf => ?_)
  show ω9 _ [(0, .ref b), (1, .int v1)] [.ref q] 10
  refine r_astore_n C9 (lv' := [(2, .ref q), (0, .ref b), (1, .int v1)]) dL_tryHire_10 rfl (by decide) rfl ?_
  refine r_ldc (v := (-9999003)) C9 dL_tryHire_11 w_2_98 ?_
  exact RT.1 _ _ _ _ _ dL_tryHire_13 rfl rfl ⟨u, hw, rfl, rfl⟩ (mrg_fst hC hf)
set_option maxRecDepth 100000 in
theorem wo_tryPart {l : Launch} {E : Ev} {b : Nat} {w wc : va_W} {is : List Nat} {fs : List Value} {post : Option Value → va_W → Prop} (hM : Ct l E yX5_addPart cX5_addPart 2 (some FieldType.int) 6 109 [.ref b] wc post) (hq : PoR wc post) (hC : is.map (fun i => w[i]?) = wc.map some) (hn : va_nd is = true) (hr : wc[0]? = some (b, .inr (5, fs))) : CtN l E yL_tryPart method_17_code 2 (some FieldType.int) (some [(0, 4, 5, 23)]) 7 130 0 [.ref b] w (fun v9 w9 => ∃ u : va_W, post v9 u ∧ w9 = mrg w is u) := by
  refine ctn_of (by decide +kernel) (Nat.le_of_ble_eq_true rfl) (fun Ω hB => ?_)
  have C := hB.1 0 (Nat.le_refl 0)
  show Ω 0 w [(0, .ref b)] [] 0
  refine r_aload_n C (i := 0) 0 dL_tryPart_0 rfl rfl ?_
  refine r_callV (rest := []) C hM lk_X5_addPart w_4_72 is (ci := 5) rfl dL_tryPart_1 rfl hC hn hr ⟨by decide, by decide⟩ (Nat.le_of_ble_eq_true rfl) (fun v u hp => ?_)
  obtain ⟨⟨r, rfl⟩, hf⟩ := hq v u hp
  exact (hB.2.2.1 0 (Nat.le_refl 0)).1 _ _ _ _ _ dL_tryPart_4 rfl rfl ⟨u, hp, rfl⟩ (mrg_fst hC hf)
set_option maxRecDepth 100000 in
theorem wn_tryPart_S {l : Launch} {E : Ev} {b : Nat} {w wc : va_W} {is : List Nat} {fs : List Value} {pw : va_W → Prop} (hM : Th l E yX5_addPart cX5_addPart 2 (some FieldType.int) 6 109 [.ref b] wc pw "java/lang/IllegalStateException") (hC : is.map (fun i => w[i]?) = wc.map some) (hn : va_nd is = true) (hr : wc[0]? = some (b, .inr (5, fs))) : CtN l E yL_tryPart method_17_code 2 (some FieldType.int) (some [(0, 4, 5, 23)]) 7 130 1 [.ref b] w (fun v9 w9 => ∃ u : va_W, pw u ∧ v9 = some (.int (-9999003)) ∧ w9 = mrg w is u) := by
  refine ctn_of_ctx (ctx_of (by decide +kernel) (Nat.le_of_ble_eq_true rfl) (fun ω ω9 C C9 RT up TC => ?_))
  show ω w [(0, .ref b)] [] 0
  refine r_aload_n C (i := 0) 0 dL_tryPart_0 rfl rfl ?_
  refine TC "java/lang/IllegalStateException" [] (0, 4, 5, 23) [] rfl (fun _ h => absurd h List.not_mem_nil) (by decide) w_2_48 cs_S _ pw _ _ [] _ 1 _ _ _ _ _ 5 _ _ _ _ _ is _ _ hM lk_X5_addPart w_4_72 rfl dL_tryPart_1 rfl hC hn hr ⟨by decide, by decide⟩ (Nat.le_of_ble_eq_true rfl) ⟨by decide, by decide⟩ (fun u q hw hf => ?_)
  show ω9 _ [(0, .ref b)] [.ref q] 5
  refine r_astore_n C9 (lv' := [(1, .ref q), (0, .ref b)]) dL_tryPart_5 rfl (by decide) rfl ?_
  refine r_ldc (v := (-9999003)) C9 dL_tryPart_6 w_2_98 ?_
  exact RT.1 _ _ _ _ _ dL_tryPart_8 rfl rfl ⟨u, hw, rfl, rfl⟩ (mrg_fst hC hf)
set_option maxRecDepth 100000 in
theorem wo_tryCast {l : Launch} {E : Ev} {b : Nat} {v1 : Int32} {v2 : Int32} {v3 : Int32} {w wc : va_W} {is : List Nat} {fs : List Value} {post : Option Value → va_W → Prop} (hM : Ct l E yX5_cast cX5_cast 5 (some FieldType.int) 6 90 [.ref b, .int v1, .int v2, .int v3] wc post) (hq : PoR wc post) (hC : is.map (fun i => w[i]?) = wc.map some) (hn : va_nd is = true) (hr : wc[0]? = some (b, .inr (5, fs))) : CtN l E yL_tryCast method_18_code 5 (some FieldType.int) (some [(0, 7, 8, 13)]) 7 114 0 [.ref b, .int v1, .int v2, .int v3] w (fun v9 w9 => ∃ u : va_W, post v9 u ∧ w9 = mrg w is u) := by
  refine ctn_of (by decide +kernel) (Nat.le_of_ble_eq_true rfl) (fun Ω hB => ?_)
  have C := hB.1 0 (Nat.le_refl 0)
  show Ω 0 w [(0, .ref b), (1, .int v1), (2, .int v2), (3, .int v3)] [] 0
  refine r_aload_n C (i := 0) 0 dL_tryCast_0 rfl rfl ?_
  refine r_iload_n C (i := 1) 1 dL_tryCast_1 rfl rfl ?_
  refine r_iload_n C (i := 2) 2 dL_tryCast_2 rfl rfl ?_
  refine r_iload_n C (i := 3) 3 dL_tryCast_3 rfl rfl ?_
  refine r_callV (rest := []) C hM lk_X5_cast w_4_81 is (ci := 5) rfl dL_tryCast_4 rfl hC hn hr ⟨by decide, by decide⟩ (Nat.le_of_ble_eq_true rfl) (fun v u hp => ?_)
  obtain ⟨⟨r, rfl⟩, hf⟩ := hq v u hp
  exact (hB.2.2.1 0 (Nat.le_refl 0)).1 _ _ _ _ _ dL_tryCast_7 rfl rfl ⟨u, hp, rfl⟩ (mrg_fst hC hf)
set_option maxRecDepth 100000 in
theorem wn_tryCast_B {l : Launch} {E : Ev} {b : Nat} {v1 : Int32} {v2 : Int32} {v3 : Int32} {w wc : va_W} {is : List Nat} {fs : List Value} {pw : va_W → Prop} (hM : Th l E yX5_cast cX5_cast 5 (some FieldType.int) 6 90 [.ref b, .int v1, .int v2, .int v3] wc pw "java/lang/IndexOutOfBoundsException") (hC : is.map (fun i => w[i]?) = wc.map some) (hn : va_nd is = true) (hr : wc[0]? = some (b, .inr (5, fs))) : CtN l E yL_tryCast method_18_code 5 (some FieldType.int) (some [(0, 7, 8, 13)]) 7 114 1 [.ref b, .int v1, .int v2, .int v3] w (fun v9 w9 => ∃ u : va_W, pw u ∧ v9 = some (.int (-9999001)) ∧ w9 = mrg w is u) := by
  refine ctn_of_ctx (ctx_of (by decide +kernel) (Nat.le_of_ble_eq_true rfl) (fun ω ω9 C C9 RT up TC => ?_))
  show ω w [(0, .ref b), (1, .int v1), (2, .int v2), (3, .int v3)] [] 0
  refine r_aload_n C (i := 0) 0 dL_tryCast_0 rfl rfl ?_
  refine r_iload_n C (i := 1) 1 dL_tryCast_1 rfl rfl ?_
  refine r_iload_n C (i := 2) 2 dL_tryCast_2 rfl rfl ?_
  refine r_iload_n C (i := 3) 3 dL_tryCast_3 rfl rfl ?_
  refine TC "java/lang/IndexOutOfBoundsException" [] (0, 7, 8, 13) [] rfl (fun _ h => absurd h List.not_mem_nil) (by decide) w_1_162 cs_B _ pw _ _ [] _ 4 _ _ _ _ _ 5 _ _ _ _ _ is _ _ hM lk_X5_cast w_4_81 rfl dL_tryCast_4 rfl hC hn hr ⟨by decide, by decide⟩ (Nat.le_of_ble_eq_true rfl) ⟨by decide, by decide⟩ (fun u q hw hf => ?_)
  show ω9 _ [(0, .ref b), (1, .int v1), (2, .int v2), (3, .int v3)] [.ref q] 8
  refine r_astore C9 (lv' := [(4, .ref q), (0, .ref b), (1, .int v1), (2, .int v2), (3, .int v3)]) dL_tryCast_8 (by decide) rfl ?_
  refine r_ldc (v := (-9999001)) C9 dL_tryCast_10 w_2_40 ?_
  exact RT.1 _ _ _ _ _ dL_tryCast_12 rfl rfl ⟨u, hw, rfl, rfl⟩ (mrg_fst hC hf)
set_option maxRecDepth 100000 in
theorem wo_tryStudy {l : Launch} {E : Ev} {b : Nat} {v1 : Int32} {v2 : Int32} {w wc : va_W} {is : List Nat} {fs : List Value} {post : Option Value → va_W → Prop} (hM : Ct l E yX5_understudy cX5_understudy 3 (some FieldType.int) 7 111 [.ref b, .int v1, .int v2] wc post) (hq : PoR wc post) (hC : is.map (fun i => w[i]?) = wc.map some) (hn : va_nd is = true) (hr : wc[0]? = some (b, .inr (5, fs))) : CtN l E yL_tryStudy method_19_code 4 (some FieldType.int) (some [(0, 6, 7, 13), (0, 6, 11, 23)]) 8 133 0 [.ref b, .int v1, .int v2] w (fun v9 w9 => ∃ u : va_W, post v9 u ∧ w9 = mrg w is u) := by
  refine ctn_of (by decide +kernel) (Nat.le_of_ble_eq_true rfl) (fun Ω hB => ?_)
  have C := hB.1 0 (Nat.le_refl 0)
  show Ω 0 w [(0, .ref b), (1, .int v1), (2, .int v2)] [] 0
  refine r_aload_n C (i := 0) 0 dL_tryStudy_0 rfl rfl ?_
  refine r_iload_n C (i := 1) 1 dL_tryStudy_1 rfl rfl ?_
  refine r_iload_n C (i := 2) 2 dL_tryStudy_2 rfl rfl ?_
  refine r_callV (rest := []) C hM lk_X5_understudy w_4_90 is (ci := 5) rfl dL_tryStudy_3 rfl hC hn hr ⟨by decide, by decide⟩ (Nat.le_of_ble_eq_true rfl) (fun v u hp => ?_)
  obtain ⟨⟨r, rfl⟩, hf⟩ := hq v u hp
  exact (hB.2.2.1 0 (Nat.le_refl 0)).1 _ _ _ _ _ dL_tryStudy_6 rfl rfl ⟨u, hp, rfl⟩ (mrg_fst hC hf)
set_option maxRecDepth 100000 in
theorem wn_tryStudy_B {l : Launch} {E : Ev} {b : Nat} {v1 : Int32} {v2 : Int32} {w wc : va_W} {is : List Nat} {fs : List Value} {pw : va_W → Prop} (hM : Th l E yX5_understudy cX5_understudy 3 (some FieldType.int) 7 111 [.ref b, .int v1, .int v2] wc pw "java/lang/IndexOutOfBoundsException") (hC : is.map (fun i => w[i]?) = wc.map some) (hn : va_nd is = true) (hr : wc[0]? = some (b, .inr (5, fs))) : CtN l E yL_tryStudy method_19_code 4 (some FieldType.int) (some [(0, 6, 7, 13), (0, 6, 11, 23)]) 8 133 1 [.ref b, .int v1, .int v2] w (fun v9 w9 => ∃ u : va_W, pw u ∧ v9 = some (.int (-9999001)) ∧ w9 = mrg w is u) := by
  refine ctn_of_ctx (ctx_of (by decide +kernel) (Nat.le_of_ble_eq_true rfl) (fun ω ω9 C C9 RT up TC => ?_))
  show ω w [(0, .ref b), (1, .int v1), (2, .int v2)] [] 0
  refine r_aload_n C (i := 0) 0 dL_tryStudy_0 rfl rfl ?_
  refine r_iload_n C (i := 1) 1 dL_tryStudy_1 rfl rfl ?_
  refine r_iload_n C (i := 2) 2 dL_tryStudy_2 rfl rfl ?_
  refine TC "java/lang/IndexOutOfBoundsException" [] (0, 6, 7, 13) [(0, 6, 11, 23)] rfl (fun _ h => absurd h List.not_mem_nil) (by decide) w_1_162 cs_B _ pw _ _ [] _ 3 _ _ _ _ _ 5 _ _ _ _ _ is _ _ hM lk_X5_understudy w_4_90 rfl dL_tryStudy_3 rfl hC hn hr ⟨by decide, by decide⟩ (Nat.le_of_ble_eq_true rfl) ⟨by decide, by decide⟩ (fun u q hw hf => ?_)
  show ω9 _ [(0, .ref b), (1, .int v1), (2, .int v2)] [.ref q] 7
  refine r_astore_n C9 (lv' := [(3, .ref q), (0, .ref b), (1, .int v1), (2, .int v2)]) dL_tryStudy_7 rfl (by decide) rfl ?_
  refine r_ldc (v := (-9999001)) C9 dL_tryStudy_8 w_2_40 ?_
  exact RT.1 _ _ _ _ _ dL_tryStudy_10 rfl rfl ⟨u, hw, rfl, rfl⟩ (mrg_fst hC hf)
set_option maxRecDepth 100000 in
theorem wn_tryStudy_S {l : Launch} {E : Ev} {b : Nat} {v1 : Int32} {v2 : Int32} {w wc : va_W} {is : List Nat} {fs : List Value} {pw : va_W → Prop} (hM : Th l E yX5_understudy cX5_understudy 3 (some FieldType.int) 7 111 [.ref b, .int v1, .int v2] wc pw "java/lang/IllegalStateException") (hC : is.map (fun i => w[i]?) = wc.map some) (hn : va_nd is = true) (hr : wc[0]? = some (b, .inr (5, fs))) : CtN l E yL_tryStudy method_19_code 4 (some FieldType.int) (some [(0, 6, 7, 13), (0, 6, 11, 23)]) 8 133 1 [.ref b, .int v1, .int v2] w (fun v9 w9 => ∃ u : va_W, pw u ∧ v9 = some (.int (-9999003)) ∧ w9 = mrg w is u) := by
  refine ctn_of_ctx (ctx_of (by decide +kernel) (Nat.le_of_ble_eq_true rfl) (fun ω ω9 C C9 RT up TC => ?_))
  show ω w [(0, .ref b), (1, .int v1), (2, .int v2)] [] 0
  refine r_aload_n C (i := 0) 0 dL_tryStudy_0 rfl rfl ?_
  refine r_iload_n C (i := 1) 1 dL_tryStudy_1 rfl rfl ?_
  refine r_iload_n C (i := 2) 2 dL_tryStudy_2 rfl rfl ?_
  refine TC "java/lang/IllegalStateException" [(0, 6, 7, 13)] (0, 6, 11, 23) [] rfl (List.forall_mem_cons.mpr ⟨⟨by decide, "java/lang/IndexOutOfBoundsException", w_1_162, nc_SB⟩, fun _ h => absurd h List.not_mem_nil⟩) (by decide) w_2_48 cs_S _ pw _ _ [] _ 3 _ _ _ _ _ 5 _ _ _ _ _ is _ _ hM lk_X5_understudy w_4_90 rfl dL_tryStudy_3 rfl hC hn hr ⟨by decide, by decide⟩ (Nat.le_of_ble_eq_true rfl) ⟨by decide, by decide⟩ (fun u q hw hf => ?_)
  show ω9 _ [(0, .ref b), (1, .int v1), (2, .int v2)] [.ref q] 11
  refine r_astore_n C9 (lv' := [(3, .ref q), (0, .ref b), (1, .int v1), (2, .int v2)]) dL_tryStudy_11 rfl (by decide) rfl ?_
  refine r_ldc (v := (-9999003)) C9 dL_tryStudy_12 w_2_98 ?_
  exact RT.1 _ _ _ _ _ dL_tryStudy_14 rfl rfl ⟨u, hw, rfl, rfl⟩ (mrg_fst hC hf)
set_option maxRecDepth 100000 in
theorem wo_tryRelease {l : Launch} {E : Ev} {b : Nat} {v1 : Int32} {v2 : Int32} {w wc : va_W} {is : List Nat} {fs : List Value} {post : Option Value → va_W → Prop} (hM : Ct l E yX5_release cX5_release 4 (some FieldType.int) 7 111 [.ref b, .int v1, .int v2] wc post) (hq : PoR wc post) (hC : is.map (fun i => w[i]?) = wc.map some) (hn : va_nd is = true) (hr : wc[0]? = some (b, .inr (5, fs))) : CtN l E yL_tryRelease method_20_code 4 (some FieldType.int) (some [(0, 6, 7, 13), (0, 6, 11, 23)]) 8 134 0 [.ref b, .int v1, .int v2] w (fun v9 w9 => ∃ u : va_W, post v9 u ∧ w9 = mrg w is u) := by
  refine ctn_of (by decide +kernel) (Nat.le_of_ble_eq_true rfl) (fun Ω hB => ?_)
  have C := hB.1 0 (Nat.le_refl 0)
  show Ω 0 w [(0, .ref b), (1, .int v1), (2, .int v2)] [] 0
  refine r_aload_n C (i := 0) 0 dL_tryRelease_0 rfl rfl ?_
  refine r_iload_n C (i := 1) 1 dL_tryRelease_1 rfl rfl ?_
  refine r_iload_n C (i := 2) 2 dL_tryRelease_2 rfl rfl ?_
  refine r_callV (rest := []) C hM lk_X5_release w_4_100 is (ci := 5) rfl dL_tryRelease_3 rfl hC hn hr ⟨by decide, by decide⟩ (Nat.le_of_ble_eq_true rfl) (fun v u hp => ?_)
  obtain ⟨⟨r, rfl⟩, hf⟩ := hq v u hp
  exact (hB.2.2.1 0 (Nat.le_refl 0)).1 _ _ _ _ _ dL_tryRelease_6 rfl rfl ⟨u, hp, rfl⟩ (mrg_fst hC hf)
set_option maxRecDepth 100000 in
theorem wn_tryRelease_B {l : Launch} {E : Ev} {b : Nat} {v1 : Int32} {v2 : Int32} {w wc : va_W} {is : List Nat} {fs : List Value} {pw : va_W → Prop} (hM : Th l E yX5_release cX5_release 4 (some FieldType.int) 7 111 [.ref b, .int v1, .int v2] wc pw "java/lang/IndexOutOfBoundsException") (hC : is.map (fun i => w[i]?) = wc.map some) (hn : va_nd is = true) (hr : wc[0]? = some (b, .inr (5, fs))) : CtN l E yL_tryRelease method_20_code 4 (some FieldType.int) (some [(0, 6, 7, 13), (0, 6, 11, 23)]) 8 134 1 [.ref b, .int v1, .int v2] w (fun v9 w9 => ∃ u : va_W, pw u ∧ v9 = some (.int (-9999001)) ∧ w9 = mrg w is u) := by
  refine ctn_of_ctx (ctx_of (by decide +kernel) (Nat.le_of_ble_eq_true rfl) (fun ω ω9 C C9 RT up TC => ?_))
  show ω w [(0, .ref b), (1, .int v1), (2, .int v2)] [] 0
  refine r_aload_n C (i := 0) 0 dL_tryRelease_0 rfl rfl ?_
  refine r_iload_n C (i := 1) 1 dL_tryRelease_1 rfl rfl ?_
  refine r_iload_n C (i := 2) 2 dL_tryRelease_2 rfl rfl ?_
  refine TC "java/lang/IndexOutOfBoundsException" [] (0, 6, 7, 13) [(0, 6, 11, 23)] rfl (fun _ h => absurd h List.not_mem_nil) (by decide) w_1_162 cs_B _ pw _ _ [] _ 3 _ _ _ _ _ 5 _ _ _ _ _ is _ _ hM lk_X5_release w_4_100 rfl dL_tryRelease_3 rfl hC hn hr ⟨by decide, by decide⟩ (Nat.le_of_ble_eq_true rfl) ⟨by decide, by decide⟩ (fun u q hw hf => ?_)
  show ω9 _ [(0, .ref b), (1, .int v1), (2, .int v2)] [.ref q] 7
  refine r_astore_n C9 (lv' := [(3, .ref q), (0, .ref b), (1, .int v1), (2, .int v2)]) dL_tryRelease_7 rfl (by decide) rfl ?_
  refine r_ldc (v := (-9999001)) C9 dL_tryRelease_8 w_2_40 ?_
  exact RT.1 _ _ _ _ _ dL_tryRelease_10 rfl rfl ⟨u, hw, rfl, rfl⟩ (mrg_fst hC hf)
set_option maxRecDepth 100000 in
theorem wn_tryRelease_S {l : Launch} {E : Ev} {b : Nat} {v1 : Int32} {v2 : Int32} {w wc : va_W} {is : List Nat} {fs : List Value} {pw : va_W → Prop} (hM : Th l E yX5_release cX5_release 4 (some FieldType.int) 7 111 [.ref b, .int v1, .int v2] wc pw "java/lang/IllegalStateException") (hC : is.map (fun i => w[i]?) = wc.map some) (hn : va_nd is = true) (hr : wc[0]? = some (b, .inr (5, fs))) : CtN l E yL_tryRelease method_20_code 4 (some FieldType.int) (some [(0, 6, 7, 13), (0, 6, 11, 23)]) 8 134 1 [.ref b, .int v1, .int v2] w (fun v9 w9 => ∃ u : va_W, pw u ∧ v9 = some (.int (-9999003)) ∧ w9 = mrg w is u) := by
  refine ctn_of_ctx (ctx_of (by decide +kernel) (Nat.le_of_ble_eq_true rfl) (fun ω ω9 C C9 RT up TC => ?_))
  show ω w [(0, .ref b), (1, .int v1), (2, .int v2)] [] 0
  refine r_aload_n C (i := 0) 0 dL_tryRelease_0 rfl rfl ?_
  refine r_iload_n C (i := 1) 1 dL_tryRelease_1 rfl rfl ?_
  refine r_iload_n C (i := 2) 2 dL_tryRelease_2 rfl rfl ?_
  refine TC "java/lang/IllegalStateException" [(0, 6, 7, 13)] (0, 6, 11, 23) [] rfl (List.forall_mem_cons.mpr ⟨⟨by decide, "java/lang/IndexOutOfBoundsException", w_1_162, nc_SB⟩, fun _ h => absurd h List.not_mem_nil⟩) (by decide) w_2_48 cs_S _ pw _ _ [] _ 3 _ _ _ _ _ 5 _ _ _ _ _ is _ _ hM lk_X5_release w_4_100 rfl dL_tryRelease_3 rfl hC hn hr ⟨by decide, by decide⟩ (Nat.le_of_ble_eq_true rfl) ⟨by decide, by decide⟩ (fun u q hw hf => ?_)
  show ω9 _ [(0, .ref b), (1, .int v1), (2, .int v2)] [.ref q] 11
  refine r_astore_n C9 (lv' := [(3, .ref q), (0, .ref b), (1, .int v1), (2, .int v2)]) dL_tryRelease_11 rfl (by decide) rfl ?_
  refine r_ldc (v := (-9999003)) C9 dL_tryRelease_12 w_2_98 ?_
  exact RT.1 _ _ _ _ _ dL_tryRelease_14 rfl rfl ⟨u, hw, rfl, rfl⟩ (mrg_fst hC hf)
set_option maxRecDepth 100000 in
theorem wo_tryLose {l : Launch} {E : Ev} {b : Nat} {v1 : Int32} {w wc : va_W} {is : List Nat} {fs : List Value} {post : Option Value → va_W → Prop} (hM : Ct l E yX5_lose cX5_lose 2 (some FieldType.int) 7 111 [.ref b, .int v1] wc post) (hq : PoR wc post) (hC : is.map (fun i => w[i]?) = wc.map some) (hn : va_nd is = true) (hr : wc[0]? = some (b, .inr (5, fs))) : CtN l E yL_tryLose method_21_code 3 (some FieldType.int) (some [(0, 5, 6, 13)]) 8 132 0 [.ref b, .int v1] w (fun v9 w9 => ∃ u : va_W, post v9 u ∧ w9 = mrg w is u) := by
  refine ctn_of (by decide +kernel) (Nat.le_of_ble_eq_true rfl) (fun Ω hB => ?_)
  have C := hB.1 0 (Nat.le_refl 0)
  show Ω 0 w [(0, .ref b), (1, .int v1)] [] 0
  refine r_aload_n C (i := 0) 0 dL_tryLose_0 rfl rfl ?_
  refine r_iload_n C (i := 1) 1 dL_tryLose_1 rfl rfl ?_
  refine r_callV (rest := []) C hM lk_X5_lose w_4_113 is (ci := 5) rfl dL_tryLose_2 rfl hC hn hr ⟨by decide, by decide⟩ (Nat.le_of_ble_eq_true rfl) (fun v u hp => ?_)
  obtain ⟨⟨r, rfl⟩, hf⟩ := hq v u hp
  exact (hB.2.2.1 0 (Nat.le_refl 0)).1 _ _ _ _ _ dL_tryLose_5 rfl rfl ⟨u, hp, rfl⟩ (mrg_fst hC hf)
set_option maxRecDepth 100000 in
theorem wn_tryLose_B {l : Launch} {E : Ev} {b : Nat} {v1 : Int32} {w wc : va_W} {is : List Nat} {fs : List Value} {pw : va_W → Prop} (hM : Th l E yX5_lose cX5_lose 2 (some FieldType.int) 7 111 [.ref b, .int v1] wc pw "java/lang/IndexOutOfBoundsException") (hC : is.map (fun i => w[i]?) = wc.map some) (hn : va_nd is = true) (hr : wc[0]? = some (b, .inr (5, fs))) : CtN l E yL_tryLose method_21_code 3 (some FieldType.int) (some [(0, 5, 6, 13)]) 8 132 1 [.ref b, .int v1] w (fun v9 w9 => ∃ u : va_W, pw u ∧ v9 = some (.int (-9999001)) ∧ w9 = mrg w is u) := by
  refine ctn_of_ctx (ctx_of (by decide +kernel) (Nat.le_of_ble_eq_true rfl) (fun ω ω9 C C9 RT up TC => ?_))
  show ω w [(0, .ref b), (1, .int v1)] [] 0
  refine r_aload_n C (i := 0) 0 dL_tryLose_0 rfl rfl ?_
  refine r_iload_n C (i := 1) 1 dL_tryLose_1 rfl rfl ?_
  refine TC "java/lang/IndexOutOfBoundsException" [] (0, 5, 6, 13) [] rfl (fun _ h => absurd h List.not_mem_nil) (by decide) w_1_162 cs_B _ pw _ _ [] _ 2 _ _ _ _ _ 5 _ _ _ _ _ is _ _ hM lk_X5_lose w_4_113 rfl dL_tryLose_2 rfl hC hn hr ⟨by decide, by decide⟩ (Nat.le_of_ble_eq_true rfl) ⟨by decide, by decide⟩ (fun u q hw hf => ?_)
  show ω9 _ [(0, .ref b), (1, .int v1)] [.ref q] 6
  refine r_astore_n C9 (lv' := [(2, .ref q), (0, .ref b), (1, .int v1)]) dL_tryLose_6 rfl (by decide) rfl ?_
  refine r_ldc (v := (-9999001)) C9 dL_tryLose_7 w_2_40 ?_
  exact RT.1 _ _ _ _ _ dL_tryLose_9 rfl rfl ⟨u, hw, rfl, rfl⟩ (mrg_fst hC hf)
set_option maxRecDepth 100000 in
theorem wo_tryLay {l : Launch} {E : Ev} {b : Nat} {v1 : Int32} {v2 : Int32} {w wc : va_W} {is : List Nat} {fs : List Value} {post : Option Value → va_W → Prop} (hM : Ct l E yX5_set cX5_set 4 (some FieldType.int) 7 110 [.ref b, .int v1, .int v2] wc post) (hq : PoR wc post) (hC : is.map (fun i => w[i]?) = wc.map some) (hn : va_nd is = true) (hr : wc[0]? = some (b, .inr (5, fs))) : CtN l E yL_tryLay method_22_code 4 (some FieldType.int) (some [(0, 6, 7, 20)]) 8 133 0 [.ref b, .int v1, .int v2] w (fun v9 w9 => ∃ u : va_W, post v9 u ∧ w9 = mrg w is u) := by
  refine ctn_of (by decide +kernel) (Nat.le_of_ble_eq_true rfl) (fun Ω hB => ?_)
  have C := hB.1 0 (Nat.le_refl 0)
  show Ω 0 w [(0, .ref b), (1, .int v1), (2, .int v2)] [] 0
  refine r_aload_n C (i := 0) 0 dL_tryLay_0 rfl rfl ?_
  refine r_iload_n C (i := 1) 1 dL_tryLay_1 rfl rfl ?_
  refine r_iload_n C (i := 2) 2 dL_tryLay_2 rfl rfl ?_
  refine r_callV (rest := []) C hM lk_X5_set w_4_125 is (ci := 5) rfl dL_tryLay_3 rfl hC hn hr ⟨by decide, by decide⟩ (Nat.le_of_ble_eq_true rfl) (fun v u hp => ?_)
  obtain ⟨⟨r, rfl⟩, hf⟩ := hq v u hp
  exact (hB.2.2.1 0 (Nat.le_refl 0)).1 _ _ _ _ _ dL_tryLay_6 rfl rfl ⟨u, hp, rfl⟩ (mrg_fst hC hf)
set_option maxRecDepth 100000 in
theorem wn_tryLay_A {l : Launch} {E : Ev} {b : Nat} {v1 : Int32} {v2 : Int32} {w wc : va_W} {is : List Nat} {fs : List Value} {pw : va_W → Prop} (hM : Th l E yX5_set cX5_set 4 (some FieldType.int) 7 110 [.ref b, .int v1, .int v2] wc pw "java/lang/IllegalArgumentException") (hC : is.map (fun i => w[i]?) = wc.map some) (hn : va_nd is = true) (hr : wc[0]? = some (b, .inr (5, fs))) : CtN l E yL_tryLay method_22_code 4 (some FieldType.int) (some [(0, 6, 7, 20)]) 8 133 1 [.ref b, .int v1, .int v2] w (fun v9 w9 => ∃ u : va_W, pw u ∧ v9 = some (.int (-9999002)) ∧ w9 = mrg w is u) := by
  refine ctn_of_ctx (ctx_of (by decide +kernel) (Nat.le_of_ble_eq_true rfl) (fun ω ω9 C C9 RT up TC => ?_))
  show ω w [(0, .ref b), (1, .int v1), (2, .int v2)] [] 0
  refine r_aload_n C (i := 0) 0 dL_tryLay_0 rfl rfl ?_
  refine r_iload_n C (i := 1) 1 dL_tryLay_1 rfl rfl ?_
  refine r_iload_n C (i := 2) 2 dL_tryLay_2 rfl rfl ?_
  refine TC "java/lang/IllegalArgumentException" [] (0, 6, 7, 20) [] rfl (fun _ h => absurd h List.not_mem_nil) (by decide) w_2_47 cs_A _ pw _ _ [] _ 3 _ _ _ _ _ 5 _ _ _ _ _ is _ _ hM lk_X5_set w_4_125 rfl dL_tryLay_3 rfl hC hn hr ⟨by decide, by decide⟩ (Nat.le_of_ble_eq_true rfl) ⟨by decide, by decide⟩ (fun u q hw hf => ?_)
  show ω9 _ [(0, .ref b), (1, .int v1), (2, .int v2)] [.ref q] 7
  refine r_astore_n C9 (lv' := [(3, .ref q), (0, .ref b), (1, .int v1), (2, .int v2)]) dL_tryLay_7 rfl (by decide) rfl ?_
  refine r_ldc (v := (-9999002)) C9 dL_tryLay_8 w_2_97 ?_
  exact RT.1 _ _ _ _ _ dL_tryLay_10 rfl rfl ⟨u, hw, rfl, rfl⟩ (mrg_fst hC hf)
set_option maxRecDepth 100000 in
theorem wo_tryUndo {l : Launch} {E : Ev} {b : Nat} {w wc : va_W} {is : List Nat} {fs : List Value} {post : Option Value → va_W → Prop} (hM : Ct l E yX5_undo cX5_undo 1 (some FieldType.int) 6 90 [.ref b] wc post) (hq : PoR wc post) (hC : is.map (fun i => w[i]?) = wc.map some) (hn : va_nd is = true) (hr : wc[0]? = some (b, .inr (5, fs))) : CtN l E yL_tryUndo method_23_code 2 (some FieldType.int) (some [(0, 4, 5, 23)]) 7 110 0 [.ref b] w (fun v9 w9 => ∃ u : va_W, post v9 u ∧ w9 = mrg w is u) := by
  refine ctn_of (by decide +kernel) (Nat.le_of_ble_eq_true rfl) (fun Ω hB => ?_)
  have C := hB.1 0 (Nat.le_refl 0)
  show Ω 0 w [(0, .ref b)] [] 0
  refine r_aload_n C (i := 0) 0 dL_tryUndo_0 rfl rfl ?_
  refine r_callV (rest := []) C hM lk_X5_undo w_4_137 is (ci := 5) rfl dL_tryUndo_1 rfl hC hn hr ⟨by decide, by decide⟩ (Nat.le_of_ble_eq_true rfl) (fun v u hp => ?_)
  obtain ⟨⟨r, rfl⟩, hf⟩ := hq v u hp
  exact (hB.2.2.1 0 (Nat.le_refl 0)).1 _ _ _ _ _ dL_tryUndo_4 rfl rfl ⟨u, hp, rfl⟩ (mrg_fst hC hf)
set_option maxRecDepth 100000 in
theorem wn_tryUndo_S {l : Launch} {E : Ev} {b : Nat} {w wc : va_W} {is : List Nat} {fs : List Value} {pw : va_W → Prop} (hM : Th l E yX5_undo cX5_undo 1 (some FieldType.int) 6 90 [.ref b] wc pw "java/lang/IllegalStateException") (hC : is.map (fun i => w[i]?) = wc.map some) (hn : va_nd is = true) (hr : wc[0]? = some (b, .inr (5, fs))) : CtN l E yL_tryUndo method_23_code 2 (some FieldType.int) (some [(0, 4, 5, 23)]) 7 110 1 [.ref b] w (fun v9 w9 => ∃ u : va_W, pw u ∧ v9 = some (.int (-9999003)) ∧ w9 = mrg w is u) := by
  refine ctn_of_ctx (ctx_of (by decide +kernel) (Nat.le_of_ble_eq_true rfl) (fun ω ω9 C C9 RT up TC => ?_))
  show ω w [(0, .ref b)] [] 0
  refine r_aload_n C (i := 0) 0 dL_tryUndo_0 rfl rfl ?_
  refine TC "java/lang/IllegalStateException" [] (0, 4, 5, 23) [] rfl (fun _ h => absurd h List.not_mem_nil) (by decide) w_2_48 cs_S _ pw _ _ [] _ 1 _ _ _ _ _ 5 _ _ _ _ _ is _ _ hM lk_X5_undo w_4_137 rfl dL_tryUndo_1 rfl hC hn hr ⟨by decide, by decide⟩ (Nat.le_of_ble_eq_true rfl) ⟨by decide, by decide⟩ (fun u q hw hf => ?_)
  show ω9 _ [(0, .ref b)] [.ref q] 5
  refine r_astore_n C9 (lv' := [(1, .ref q), (0, .ref b)]) dL_tryUndo_5 rfl (by decide) rfl ?_
  refine r_ldc (v := (-9999003)) C9 dL_tryUndo_6 w_2_98 ?_
  exact RT.1 _ _ _ _ _ dL_tryUndo_8 rfl rfl ⟨u, hw, rfl, rfl⟩ (mrg_fst hC hf)
set_option maxRecDepth 100000 in
theorem wo_tryFind {l : Launch} {E : Ev} {b : Nat} {v1 : Int32} {v2 : Int32} {v3 : Int32} {w wc : va_W} {is : List Nat} {fs : List Value} {post : Option Value → va_W → Prop} (hM : Ct l E yX5_find cX5_find 7 (some FieldType.int) 7 119 [.ref b, .int v1, .int v2, .int v3] wc post) (hq : PoR wc post) (hC : is.map (fun i => w[i]?) = wc.map some) (hn : va_nd is = true) (hr : wc[0]? = some (b, .inr (5, fs))) : CtN l E yL_tryFind method_24_code 5 (some FieldType.int) (some [(0, 7, 8, 13), (0, 7, 13, 20)]) 8 145 0 [.ref b, .int v1, .int v2, .int v3] w (fun v9 w9 => ∃ u : va_W, post v9 u ∧ w9 = mrg w is u) := by
  refine ctn_of (by decide +kernel) (Nat.le_of_ble_eq_true rfl) (fun Ω hB => ?_)
  have C := hB.1 0 (Nat.le_refl 0)
  show Ω 0 w [(0, .ref b), (1, .int v1), (2, .int v2), (3, .int v3)] [] 0
  refine r_aload_n C (i := 0) 0 dL_tryFind_0 rfl rfl ?_
  refine r_iload_n C (i := 1) 1 dL_tryFind_1 rfl rfl ?_
  refine r_iload_n C (i := 2) 2 dL_tryFind_2 rfl rfl ?_
  refine r_iload_n C (i := 3) 3 dL_tryFind_3 rfl rfl ?_
  refine r_callV (rest := []) C hM lk_X5_find w_4_157 is (ci := 5) rfl dL_tryFind_4 rfl hC hn hr ⟨by decide, by decide⟩ (Nat.le_of_ble_eq_true rfl) (fun v u hp => ?_)
  obtain ⟨⟨r, rfl⟩, hf⟩ := hq v u hp
  exact (hB.2.2.1 0 (Nat.le_refl 0)).1 _ _ _ _ _ dL_tryFind_7 rfl rfl ⟨u, hp, rfl⟩ (mrg_fst hC hf)
set_option maxRecDepth 100000 in
theorem wn_tryFind_B {l : Launch} {E : Ev} {b : Nat} {v1 : Int32} {v2 : Int32} {v3 : Int32} {w wc : va_W} {is : List Nat} {fs : List Value} {pw : va_W → Prop} (hM : Th l E yX5_find cX5_find 7 (some FieldType.int) 7 119 [.ref b, .int v1, .int v2, .int v3] wc pw "java/lang/IndexOutOfBoundsException") (hC : is.map (fun i => w[i]?) = wc.map some) (hn : va_nd is = true) (hr : wc[0]? = some (b, .inr (5, fs))) : CtN l E yL_tryFind method_24_code 5 (some FieldType.int) (some [(0, 7, 8, 13), (0, 7, 13, 20)]) 8 145 1 [.ref b, .int v1, .int v2, .int v3] w (fun v9 w9 => ∃ u : va_W, pw u ∧ v9 = some (.int (-9999001)) ∧ w9 = mrg w is u) := by
  refine ctn_of_ctx (ctx_of (by decide +kernel) (Nat.le_of_ble_eq_true rfl) (fun ω ω9 C C9 RT up TC => ?_))
  show ω w [(0, .ref b), (1, .int v1), (2, .int v2), (3, .int v3)] [] 0
  refine r_aload_n C (i := 0) 0 dL_tryFind_0 rfl rfl ?_
  refine r_iload_n C (i := 1) 1 dL_tryFind_1 rfl rfl ?_
  refine r_iload_n C (i := 2) 2 dL_tryFind_2 rfl rfl ?_
  refine r_iload_n C (i := 3) 3 dL_tryFind_3 rfl rfl ?_
  refine TC "java/lang/IndexOutOfBoundsException" [] (0, 7, 8, 13) [(0, 7, 13, 20)] rfl (fun _ h => absurd h List.not_mem_nil) (by decide) w_1_162 cs_B _ pw _ _ [] _ 4 _ _ _ _ _ 5 _ _ _ _ _ is _ _ hM lk_X5_find w_4_157 rfl dL_tryFind_4 rfl hC hn hr ⟨by decide, by decide⟩ (Nat.le_of_ble_eq_true rfl) ⟨by decide, by decide⟩ (fun u q hw hf => ?_)
  show ω9 _ [(0, .ref b), (1, .int v1), (2, .int v2), (3, .int v3)] [.ref q] 8
  refine r_astore C9 (lv' := [(4, .ref q), (0, .ref b), (1, .int v1), (2, .int v2), (3, .int v3)]) dL_tryFind_8 (by decide) rfl ?_
  refine r_ldc (v := (-9999001)) C9 dL_tryFind_10 w_2_40 ?_
  exact RT.1 _ _ _ _ _ dL_tryFind_12 rfl rfl ⟨u, hw, rfl, rfl⟩ (mrg_fst hC hf)
set_option maxRecDepth 100000 in
theorem wn_tryFind_A {l : Launch} {E : Ev} {b : Nat} {v1 : Int32} {v2 : Int32} {v3 : Int32} {w wc : va_W} {is : List Nat} {fs : List Value} {pw : va_W → Prop} (hM : Th l E yX5_find cX5_find 7 (some FieldType.int) 7 119 [.ref b, .int v1, .int v2, .int v3] wc pw "java/lang/IllegalArgumentException") (hC : is.map (fun i => w[i]?) = wc.map some) (hn : va_nd is = true) (hr : wc[0]? = some (b, .inr (5, fs))) : CtN l E yL_tryFind method_24_code 5 (some FieldType.int) (some [(0, 7, 8, 13), (0, 7, 13, 20)]) 8 145 1 [.ref b, .int v1, .int v2, .int v3] w (fun v9 w9 => ∃ u : va_W, pw u ∧ v9 = some (.int (-9999002)) ∧ w9 = mrg w is u) := by
  refine ctn_of_ctx (ctx_of (by decide +kernel) (Nat.le_of_ble_eq_true rfl) (fun ω ω9 C C9 RT up TC => ?_))
  show ω w [(0, .ref b), (1, .int v1), (2, .int v2), (3, .int v3)] [] 0
  refine r_aload_n C (i := 0) 0 dL_tryFind_0 rfl rfl ?_
  refine r_iload_n C (i := 1) 1 dL_tryFind_1 rfl rfl ?_
  refine r_iload_n C (i := 2) 2 dL_tryFind_2 rfl rfl ?_
  refine r_iload_n C (i := 3) 3 dL_tryFind_3 rfl rfl ?_
  refine TC "java/lang/IllegalArgumentException" [(0, 7, 8, 13)] (0, 7, 13, 20) [] rfl (List.forall_mem_cons.mpr ⟨⟨by decide, "java/lang/IndexOutOfBoundsException", w_1_162, nc_AB⟩, fun _ h => absurd h List.not_mem_nil⟩) (by decide) w_2_47 cs_A _ pw _ _ [] _ 4 _ _ _ _ _ 5 _ _ _ _ _ is _ _ hM lk_X5_find w_4_157 rfl dL_tryFind_4 rfl hC hn hr ⟨by decide, by decide⟩ (Nat.le_of_ble_eq_true rfl) ⟨by decide, by decide⟩ (fun u q hw hf => ?_)
  show ω9 _ [(0, .ref b), (1, .int v1), (2, .int v2), (3, .int v3)] [.ref q] 13
  refine r_astore C9 (lv' := [(4, .ref q), (0, .ref b), (1, .int v1), (2, .int v2), (3, .int v3)]) dL_tryFind_13 (by decide) rfl ?_
  refine r_ldc (v := (-9999002)) C9 dL_tryFind_15 w_2_97 ?_
  exact RT.1 _ _ _ _ _ dL_tryFind_17 rfl rfl ⟨u, hw, rfl, rfl⟩ (mrg_fst hC hf)
set_option maxRecDepth 100000 in
theorem wo_tryTogether {l : Launch} {E : Ev} {b : Nat} {v1 : Int32} {v2 : Int32} {w wc : va_W} {is : List Nat} {fs : List Value} {post : Option Value → va_W → Prop} (hM : Ct l E yX5_together cX5_together 3 (some FieldType.int) 7 118 [.ref b, .int v1, .int v2] wc post) (hq : PoR wc post) (hC : is.map (fun i => w[i]?) = wc.map some) (hn : va_nd is = true) (hr : wc[0]? = some (b, .inr (5, fs))) : CtN l E yL_tryTogether method_25_code 4 (some FieldType.int) (some [(0, 6, 7, 13)]) 8 140 0 [.ref b, .int v1, .int v2] w (fun v9 w9 => ∃ u : va_W, post v9 u ∧ w9 = mrg w is u) := by
  refine ctn_of (by decide +kernel) (Nat.le_of_ble_eq_true rfl) (fun Ω hB => ?_)
  have C := hB.1 0 (Nat.le_refl 0)
  show Ω 0 w [(0, .ref b), (1, .int v1), (2, .int v2)] [] 0
  refine r_aload_n C (i := 0) 0 dL_tryTogether_0 rfl rfl ?_
  refine r_iload_n C (i := 1) 1 dL_tryTogether_1 rfl rfl ?_
  refine r_iload_n C (i := 2) 2 dL_tryTogether_2 rfl rfl ?_
  refine r_callV (rest := []) C hM lk_X5_together w_4_169 is (ci := 5) rfl dL_tryTogether_3 rfl hC hn hr ⟨by decide, by decide⟩ (Nat.le_of_ble_eq_true rfl) (fun v u hp => ?_)
  obtain ⟨⟨r, rfl⟩, hf⟩ := hq v u hp
  exact (hB.2.2.1 0 (Nat.le_refl 0)).1 _ _ _ _ _ dL_tryTogether_6 rfl rfl ⟨u, hp, rfl⟩ (mrg_fst hC hf)
set_option maxRecDepth 100000 in
theorem wn_tryTogether_B {l : Launch} {E : Ev} {b : Nat} {v1 : Int32} {v2 : Int32} {w wc : va_W} {is : List Nat} {fs : List Value} {pw : va_W → Prop} (hM : Th l E yX5_together cX5_together 3 (some FieldType.int) 7 118 [.ref b, .int v1, .int v2] wc pw "java/lang/IndexOutOfBoundsException") (hC : is.map (fun i => w[i]?) = wc.map some) (hn : va_nd is = true) (hr : wc[0]? = some (b, .inr (5, fs))) : CtN l E yL_tryTogether method_25_code 4 (some FieldType.int) (some [(0, 6, 7, 13)]) 8 140 1 [.ref b, .int v1, .int v2] w (fun v9 w9 => ∃ u : va_W, pw u ∧ v9 = some (.int (-9999001)) ∧ w9 = mrg w is u) := by
  refine ctn_of_ctx (ctx_of (by decide +kernel) (Nat.le_of_ble_eq_true rfl) (fun ω ω9 C C9 RT up TC => ?_))
  show ω w [(0, .ref b), (1, .int v1), (2, .int v2)] [] 0
  refine r_aload_n C (i := 0) 0 dL_tryTogether_0 rfl rfl ?_
  refine r_iload_n C (i := 1) 1 dL_tryTogether_1 rfl rfl ?_
  refine r_iload_n C (i := 2) 2 dL_tryTogether_2 rfl rfl ?_
  refine TC "java/lang/IndexOutOfBoundsException" [] (0, 6, 7, 13) [] rfl (fun _ h => absurd h List.not_mem_nil) (by decide) w_1_162 cs_B _ pw _ _ [] _ 3 _ _ _ _ _ 5 _ _ _ _ _ is _ _ hM lk_X5_together w_4_169 rfl dL_tryTogether_3 rfl hC hn hr ⟨by decide, by decide⟩ (Nat.le_of_ble_eq_true rfl) ⟨by decide, by decide⟩ (fun u q hw hf => ?_)
  show ω9 _ [(0, .ref b), (1, .int v1), (2, .int v2)] [.ref q] 7
  refine r_astore_n C9 (lv' := [(3, .ref q), (0, .ref b), (1, .int v1), (2, .int v2)]) dL_tryTogether_7 rfl (by decide) rfl ?_
  refine r_ldc (v := (-9999001)) C9 dL_tryTogether_8 w_2_40 ?_
  exact RT.1 _ _ _ _ _ dL_tryTogether_10 rfl rfl ⟨u, hw, rfl, rfl⟩ (mrg_fst hC hf)
set_option maxRecDepth 100000 in
theorem wo_tryLongest {l : Launch} {E : Ev} {b : Nat} {v1 : Int32} {v2 : Int32} {w wc : va_W} {is : List Nat} {fs : List Value} {post : Option Value → va_W → Prop} (hM : Ct l E yX5_longest cX5_longest 7 (some FieldType.int) 7 119 [.ref b, .int v1, .int v2] wc post) (hq : PoR wc post) (hC : is.map (fun i => w[i]?) = wc.map some) (hn : va_nd is = true) (hr : wc[0]? = some (b, .inr (5, fs))) : CtN l E yL_tryLongest method_26_code 4 (some FieldType.int) (some [(0, 6, 7, 13)]) 8 145 0 [.ref b, .int v1, .int v2] w (fun v9 w9 => ∃ u : va_W, post v9 u ∧ w9 = mrg w is u) := by
  refine ctn_of (by decide +kernel) (Nat.le_of_ble_eq_true rfl) (fun Ω hB => ?_)
  have C := hB.1 0 (Nat.le_refl 0)
  show Ω 0 w [(0, .ref b), (1, .int v1), (2, .int v2)] [] 0
  refine r_aload_n C (i := 0) 0 dL_tryLongest_0 rfl rfl ?_
  refine r_iload_n C (i := 1) 1 dL_tryLongest_1 rfl rfl ?_
  refine r_iload_n C (i := 2) 2 dL_tryLongest_2 rfl rfl ?_
  refine r_callV (rest := []) C hM lk_X5_longest w_4_176 is (ci := 5) rfl dL_tryLongest_3 rfl hC hn hr ⟨by decide, by decide⟩ (Nat.le_of_ble_eq_true rfl) (fun v u hp => ?_)
  obtain ⟨⟨r, rfl⟩, hf⟩ := hq v u hp
  exact (hB.2.2.1 0 (Nat.le_refl 0)).1 _ _ _ _ _ dL_tryLongest_6 rfl rfl ⟨u, hp, rfl⟩ (mrg_fst hC hf)
set_option maxRecDepth 100000 in
theorem wn_tryLongest_B {l : Launch} {E : Ev} {b : Nat} {v1 : Int32} {v2 : Int32} {w wc : va_W} {is : List Nat} {fs : List Value} {pw : va_W → Prop} (hM : Th l E yX5_longest cX5_longest 7 (some FieldType.int) 7 119 [.ref b, .int v1, .int v2] wc pw "java/lang/IndexOutOfBoundsException") (hC : is.map (fun i => w[i]?) = wc.map some) (hn : va_nd is = true) (hr : wc[0]? = some (b, .inr (5, fs))) : CtN l E yL_tryLongest method_26_code 4 (some FieldType.int) (some [(0, 6, 7, 13)]) 8 145 1 [.ref b, .int v1, .int v2] w (fun v9 w9 => ∃ u : va_W, pw u ∧ v9 = some (.int (-9999001)) ∧ w9 = mrg w is u) := by
  refine ctn_of_ctx (ctx_of (by decide +kernel) (Nat.le_of_ble_eq_true rfl) (fun ω ω9 C C9 RT up TC => ?_))
  show ω w [(0, .ref b), (1, .int v1), (2, .int v2)] [] 0
  refine r_aload_n C (i := 0) 0 dL_tryLongest_0 rfl rfl ?_
  refine r_iload_n C (i := 1) 1 dL_tryLongest_1 rfl rfl ?_
  refine r_iload_n C (i := 2) 2 dL_tryLongest_2 rfl rfl ?_
  refine TC "java/lang/IndexOutOfBoundsException" [] (0, 6, 7, 13) [] rfl (fun _ h => absurd h List.not_mem_nil) (by decide) w_1_162 cs_B _ pw _ _ [] _ 3 _ _ _ _ _ 5 _ _ _ _ _ is _ _ hM lk_X5_longest w_4_176 rfl dL_tryLongest_3 rfl hC hn hr ⟨by decide, by decide⟩ (Nat.le_of_ble_eq_true rfl) ⟨by decide, by decide⟩ (fun u q hw hf => ?_)
  show ω9 _ [(0, .ref b), (1, .int v1), (2, .int v2)] [.ref q] 7
  refine r_astore_n C9 (lv' := [(3, .ref q), (0, .ref b), (1, .int v1), (2, .int v2)]) dL_tryLongest_7 rfl (by decide) rfl ?_
  refine r_ldc (v := (-9999001)) C9 dL_tryLongest_8 w_2_40 ?_
  exact RT.1 _ _ _ _ _ dL_tryLongest_10 rfl rfl ⟨u, hw, rfl, rfl⟩ (mrg_fst hC hf)
set_option maxRecDepth 100000 in
theorem wo_tryWould {l : Launch} {E : Ev} {b : Nat} {v1 : Int32} {v2 : Int32} {v3 : Int32} {w wc : va_W} {is : List Nat} {fs : List Value} {post : Option Value → va_W → Prop} (hM : Ct l E yX5_ifIll cX5_ifIll 4 (some FieldType.int) 7 111 [.ref b, .int v1, .int v2, .int v3] wc post) (hq : PoR wc post) (hC : is.map (fun i => w[i]?) = wc.map some) (hn : va_nd is = true) (hr : wc[0]? = some (b, .inr (5, fs))) : CtN l E yL_tryWould method_27_code 5 (some FieldType.int) (some [(0, 7, 8, 13), (0, 7, 13, 20)]) 8 134 0 [.ref b, .int v1, .int v2, .int v3] w (fun v9 w9 => ∃ u : va_W, post v9 u ∧ w9 = mrg w is u) := by
  refine ctn_of (by decide +kernel) (Nat.le_of_ble_eq_true rfl) (fun Ω hB => ?_)
  have C := hB.1 0 (Nat.le_refl 0)
  show Ω 0 w [(0, .ref b), (1, .int v1), (2, .int v2), (3, .int v3)] [] 0
  refine r_aload_n C (i := 0) 0 dL_tryWould_0 rfl rfl ?_
  refine r_iload_n C (i := 1) 1 dL_tryWould_1 rfl rfl ?_
  refine r_iload_n C (i := 2) 2 dL_tryWould_2 rfl rfl ?_
  refine r_iload_n C (i := 3) 3 dL_tryWould_3 rfl rfl ?_
  refine r_callV (rest := []) C hM lk_X5_ifIll w_4_186 is (ci := 5) rfl dL_tryWould_4 rfl hC hn hr ⟨by decide, by decide⟩ (Nat.le_of_ble_eq_true rfl) (fun v u hp => ?_)
  obtain ⟨⟨r, rfl⟩, hf⟩ := hq v u hp
  exact (hB.2.2.1 0 (Nat.le_refl 0)).1 _ _ _ _ _ dL_tryWould_7 rfl rfl ⟨u, hp, rfl⟩ (mrg_fst hC hf)
set_option maxRecDepth 100000 in
theorem wn_tryWould_B {l : Launch} {E : Ev} {b : Nat} {v1 : Int32} {v2 : Int32} {v3 : Int32} {w wc : va_W} {is : List Nat} {fs : List Value} {pw : va_W → Prop} (hM : Th l E yX5_ifIll cX5_ifIll 4 (some FieldType.int) 7 111 [.ref b, .int v1, .int v2, .int v3] wc pw "java/lang/IndexOutOfBoundsException") (hC : is.map (fun i => w[i]?) = wc.map some) (hn : va_nd is = true) (hr : wc[0]? = some (b, .inr (5, fs))) : CtN l E yL_tryWould method_27_code 5 (some FieldType.int) (some [(0, 7, 8, 13), (0, 7, 13, 20)]) 8 134 1 [.ref b, .int v1, .int v2, .int v3] w (fun v9 w9 => ∃ u : va_W, pw u ∧ v9 = some (.int (-9999001)) ∧ w9 = mrg w is u) := by
  refine ctn_of_ctx (ctx_of (by decide +kernel) (Nat.le_of_ble_eq_true rfl) (fun ω ω9 C C9 RT up TC => ?_))
  show ω w [(0, .ref b), (1, .int v1), (2, .int v2), (3, .int v3)] [] 0
  refine r_aload_n C (i := 0) 0 dL_tryWould_0 rfl rfl ?_
  refine r_iload_n C (i := 1) 1 dL_tryWould_1 rfl rfl ?_
  refine r_iload_n C (i := 2) 2 dL_tryWould_2 rfl rfl ?_
  refine r_iload_n C (i := 3) 3 dL_tryWould_3 rfl rfl ?_
  refine TC "java/lang/IndexOutOfBoundsException" [] (0, 7, 8, 13) [(0, 7, 13, 20)] rfl (fun _ h => absurd h List.not_mem_nil) (by decide) w_1_162 cs_B _ pw _ _ [] _ 4 _ _ _ _ _ 5 _ _ _ _ _ is _ _ hM lk_X5_ifIll w_4_186 rfl dL_tryWould_4 rfl hC hn hr ⟨by decide, by decide⟩ (Nat.le_of_ble_eq_true rfl) ⟨by decide, by decide⟩ (fun u q hw hf => ?_)
  show ω9 _ [(0, .ref b), (1, .int v1), (2, .int v2), (3, .int v3)] [.ref q] 8
  refine r_astore C9 (lv' := [(4, .ref q), (0, .ref b), (1, .int v1), (2, .int v2), (3, .int v3)]) dL_tryWould_8 (by decide) rfl ?_
  refine r_ldc (v := (-9999001)) C9 dL_tryWould_10 w_2_40 ?_
  exact RT.1 _ _ _ _ _ dL_tryWould_12 rfl rfl ⟨u, hw, rfl, rfl⟩ (mrg_fst hC hf)
set_option maxRecDepth 100000 in
theorem wn_tryWould_A {l : Launch} {E : Ev} {b : Nat} {v1 : Int32} {v2 : Int32} {v3 : Int32} {w wc : va_W} {is : List Nat} {fs : List Value} {pw : va_W → Prop} (hM : Th l E yX5_ifIll cX5_ifIll 4 (some FieldType.int) 7 111 [.ref b, .int v1, .int v2, .int v3] wc pw "java/lang/IllegalArgumentException") (hC : is.map (fun i => w[i]?) = wc.map some) (hn : va_nd is = true) (hr : wc[0]? = some (b, .inr (5, fs))) : CtN l E yL_tryWould method_27_code 5 (some FieldType.int) (some [(0, 7, 8, 13), (0, 7, 13, 20)]) 8 134 1 [.ref b, .int v1, .int v2, .int v3] w (fun v9 w9 => ∃ u : va_W, pw u ∧ v9 = some (.int (-9999002)) ∧ w9 = mrg w is u) := by
  refine ctn_of_ctx (ctx_of (by decide +kernel) (Nat.le_of_ble_eq_true rfl) (fun ω ω9 C C9 RT up TC => ?_))
  show ω w [(0, .ref b), (1, .int v1), (2, .int v2), (3, .int v3)] [] 0
  refine r_aload_n C (i := 0) 0 dL_tryWould_0 rfl rfl ?_
  refine r_iload_n C (i := 1) 1 dL_tryWould_1 rfl rfl ?_
  refine r_iload_n C (i := 2) 2 dL_tryWould_2 rfl rfl ?_
  refine r_iload_n C (i := 3) 3 dL_tryWould_3 rfl rfl ?_
  refine TC "java/lang/IllegalArgumentException" [(0, 7, 8, 13)] (0, 7, 13, 20) [] rfl (List.forall_mem_cons.mpr ⟨⟨by decide, "java/lang/IndexOutOfBoundsException", w_1_162, nc_AB⟩, fun _ h => absurd h List.not_mem_nil⟩) (by decide) w_2_47 cs_A _ pw _ _ [] _ 4 _ _ _ _ _ 5 _ _ _ _ _ is _ _ hM lk_X5_ifIll w_4_186 rfl dL_tryWould_4 rfl hC hn hr ⟨by decide, by decide⟩ (Nat.le_of_ble_eq_true rfl) ⟨by decide, by decide⟩ (fun u q hw hf => ?_)
  show ω9 _ [(0, .ref b), (1, .int v1), (2, .int v2), (3, .int v3)] [.ref q] 13
  refine r_astore C9 (lv' := [(4, .ref q), (0, .ref b), (1, .int v1), (2, .int v2), (3, .int v3)]) dL_tryWould_13 (by decide) rfl ?_
  refine r_ldc (v := (-9999002)) C9 dL_tryWould_15 w_2_97 ?_
  exact RT.1 _ _ _ _ _ dL_tryWould_17 rfl rfl ⟨u, hw, rfl, rfl⟩ (mrg_fst hC hf)
set_option maxRecDepth 100000 in
theorem wo_tryBest {l : Launch} {E : Ev} {b : Nat} {v1 : Int32} {w wc : va_W} {is : List Nat} {fs : List Value} {post : Option Value → va_W → Prop} (hM : Ct l E yX5_bestUnderstudy cX5_bestUnderstudy 6 (some FieldType.int) 7 117 [.ref b, .int v1] wc post) (hq : PoR wc post) (hC : is.map (fun i => w[i]?) = wc.map some) (hn : va_nd is = true) (hr : wc[0]? = some (b, .inr (5, fs))) : CtN l E yL_tryBest method_28_code 3 (some FieldType.int) (some [(0, 5, 6, 13)]) 8 142 0 [.ref b, .int v1] w (fun v9 w9 => ∃ u : va_W, post v9 u ∧ w9 = mrg w is u) := by
  refine ctn_of (by decide +kernel) (Nat.le_of_ble_eq_true rfl) (fun Ω hB => ?_)
  have C := hB.1 0 (Nat.le_refl 0)
  show Ω 0 w [(0, .ref b), (1, .int v1)] [] 0
  refine r_aload_n C (i := 0) 0 dL_tryBest_0 rfl rfl ?_
  refine r_iload_n C (i := 1) 1 dL_tryBest_1 rfl rfl ?_
  refine r_callV (rest := []) C hM lk_X5_bestUnderstudy w_4_202 is (ci := 5) rfl dL_tryBest_2 rfl hC hn hr ⟨by decide, by decide⟩ (Nat.le_of_ble_eq_true rfl) (fun v u hp => ?_)
  obtain ⟨⟨r, rfl⟩, hf⟩ := hq v u hp
  exact (hB.2.2.1 0 (Nat.le_refl 0)).1 _ _ _ _ _ dL_tryBest_5 rfl rfl ⟨u, hp, rfl⟩ (mrg_fst hC hf)
set_option maxRecDepth 100000 in
theorem wn_tryBest_B {l : Launch} {E : Ev} {b : Nat} {v1 : Int32} {w wc : va_W} {is : List Nat} {fs : List Value} {pw : va_W → Prop} (hM : Th l E yX5_bestUnderstudy cX5_bestUnderstudy 6 (some FieldType.int) 7 117 [.ref b, .int v1] wc pw "java/lang/IndexOutOfBoundsException") (hC : is.map (fun i => w[i]?) = wc.map some) (hn : va_nd is = true) (hr : wc[0]? = some (b, .inr (5, fs))) : CtN l E yL_tryBest method_28_code 3 (some FieldType.int) (some [(0, 5, 6, 13)]) 8 142 1 [.ref b, .int v1] w (fun v9 w9 => ∃ u : va_W, pw u ∧ v9 = some (.int (-9999001)) ∧ w9 = mrg w is u) := by
  refine ctn_of_ctx (ctx_of (by decide +kernel) (Nat.le_of_ble_eq_true rfl) (fun ω ω9 C C9 RT up TC => ?_))
  show ω w [(0, .ref b), (1, .int v1)] [] 0
  refine r_aload_n C (i := 0) 0 dL_tryBest_0 rfl rfl ?_
  refine r_iload_n C (i := 1) 1 dL_tryBest_1 rfl rfl ?_
  refine TC "java/lang/IndexOutOfBoundsException" [] (0, 5, 6, 13) [] rfl (fun _ h => absurd h List.not_mem_nil) (by decide) w_1_162 cs_B _ pw _ _ [] _ 2 _ _ _ _ _ 5 _ _ _ _ _ is _ _ hM lk_X5_bestUnderstudy w_4_202 rfl dL_tryBest_2 rfl hC hn hr ⟨by decide, by decide⟩ (Nat.le_of_ble_eq_true rfl) ⟨by decide, by decide⟩ (fun u q hw hf => ?_)
  show ω9 _ [(0, .ref b), (1, .int v1)] [.ref q] 6
  refine r_astore_n C9 (lv' := [(2, .ref q), (0, .ref b), (1, .int v1)]) dL_tryBest_6 rfl (by decide) rfl ?_
  refine r_ldc (v := (-9999001)) C9 dL_tryBest_7 w_2_40 ?_
  exact RT.1 _ _ _ _ _ dL_tryBest_9 rfl rfl ⟨u, hw, rfl, rfl⟩ (mrg_fst hC hf)
set_option maxRecDepth 100000 in
theorem wo_tryKeep {l : Launch} {E : Ev} {b : Nat} {v1 : Int32} {w wc : va_W} {is : List Nat} {fs : List Value} {post : Option Value → va_W → Prop} (hM : Ct l E yX5_save cX5_save 2 (some FieldType.int) 7 110 [.ref b, .int v1] wc post) (hq : PoR wc post) (hC : is.map (fun i => w[i]?) = wc.map some) (hn : va_nd is = true) (hr : wc[0]? = some (b, .inr (5, fs))) : CtN l E yL_tryKeep method_29_code 3 (some FieldType.int) (some [(0, 5, 6, 13)]) 8 131 0 [.ref b, .int v1] w (fun v9 w9 => ∃ u : va_W, post v9 u ∧ w9 = mrg w is u) := by
  refine ctn_of (by decide +kernel) (Nat.le_of_ble_eq_true rfl) (fun Ω hB => ?_)
  have C := hB.1 0 (Nat.le_refl 0)
  show Ω 0 w [(0, .ref b), (1, .int v1)] [] 0
  refine r_aload_n C (i := 0) 0 dL_tryKeep_0 rfl rfl ?_
  refine r_iload_n C (i := 1) 1 dL_tryKeep_1 rfl rfl ?_
  refine r_callV (rest := []) C hM lk_X5_save w_4_213 is (ci := 5) rfl dL_tryKeep_2 rfl hC hn hr ⟨by decide, by decide⟩ (Nat.le_of_ble_eq_true rfl) (fun v u hp => ?_)
  obtain ⟨⟨r, rfl⟩, hf⟩ := hq v u hp
  exact (hB.2.2.1 0 (Nat.le_refl 0)).1 _ _ _ _ _ dL_tryKeep_5 rfl rfl ⟨u, hp, rfl⟩ (mrg_fst hC hf)
set_option maxRecDepth 100000 in
theorem wn_tryKeep_B {l : Launch} {E : Ev} {b : Nat} {v1 : Int32} {w wc : va_W} {is : List Nat} {fs : List Value} {pw : va_W → Prop} (hM : Th l E yX5_save cX5_save 2 (some FieldType.int) 7 110 [.ref b, .int v1] wc pw "java/lang/IndexOutOfBoundsException") (hC : is.map (fun i => w[i]?) = wc.map some) (hn : va_nd is = true) (hr : wc[0]? = some (b, .inr (5, fs))) : CtN l E yL_tryKeep method_29_code 3 (some FieldType.int) (some [(0, 5, 6, 13)]) 8 131 1 [.ref b, .int v1] w (fun v9 w9 => ∃ u : va_W, pw u ∧ v9 = some (.int (-9999001)) ∧ w9 = mrg w is u) := by
  refine ctn_of_ctx (ctx_of (by decide +kernel) (Nat.le_of_ble_eq_true rfl) (fun ω ω9 C C9 RT up TC => ?_))
  show ω w [(0, .ref b), (1, .int v1)] [] 0
  refine r_aload_n C (i := 0) 0 dL_tryKeep_0 rfl rfl ?_
  refine r_iload_n C (i := 1) 1 dL_tryKeep_1 rfl rfl ?_
  refine TC "java/lang/IndexOutOfBoundsException" [] (0, 5, 6, 13) [] rfl (fun _ h => absurd h List.not_mem_nil) (by decide) w_1_162 cs_B _ pw _ _ [] _ 2 _ _ _ _ _ 5 _ _ _ _ _ is _ _ hM lk_X5_save w_4_213 rfl dL_tryKeep_2 rfl hC hn hr ⟨by decide, by decide⟩ (Nat.le_of_ble_eq_true rfl) ⟨by decide, by decide⟩ (fun u q hw hf => ?_)
  show ω9 _ [(0, .ref b), (1, .int v1)] [.ref q] 6
  refine r_astore_n C9 (lv' := [(2, .ref q), (0, .ref b), (1, .int v1)]) dL_tryKeep_6 rfl (by decide) rfl ?_
  refine r_ldc (v := (-9999001)) C9 dL_tryKeep_7 w_2_40 ?_
  exact RT.1 _ _ _ _ _ dL_tryKeep_9 rfl rfl ⟨u, hw, rfl, rfl⟩ (mrg_fst hC hf)
set_option maxRecDepth 100000 in
theorem wo_tryBack {l : Launch} {E : Ev} {b : Nat} {v1 : Int32} {w wc : va_W} {is : List Nat} {fs : List Value} {post : Option Value → va_W → Prop} (hM : Ct l E yX5_restore cX5_restore 2 (some FieldType.int) 7 110 [.ref b, .int v1] wc post) (hq : PoR wc post) (hC : is.map (fun i => w[i]?) = wc.map some) (hn : va_nd is = true) (hr : wc[0]? = some (b, .inr (5, fs))) : CtN l E yL_tryBack method_30_code 3 (some FieldType.int) (some [(0, 5, 6, 13), (0, 5, 10, 23)]) 8 131 0 [.ref b, .int v1] w (fun v9 w9 => ∃ u : va_W, post v9 u ∧ w9 = mrg w is u) := by
  refine ctn_of (by decide +kernel) (Nat.le_of_ble_eq_true rfl) (fun Ω hB => ?_)
  have C := hB.1 0 (Nat.le_refl 0)
  show Ω 0 w [(0, .ref b), (1, .int v1)] [] 0
  refine r_aload_n C (i := 0) 0 dL_tryBack_0 rfl rfl ?_
  refine r_iload_n C (i := 1) 1 dL_tryBack_1 rfl rfl ?_
  refine r_callV (rest := []) C hM lk_X5_restore w_4_225 is (ci := 5) rfl dL_tryBack_2 rfl hC hn hr ⟨by decide, by decide⟩ (Nat.le_of_ble_eq_true rfl) (fun v u hp => ?_)
  obtain ⟨⟨r, rfl⟩, hf⟩ := hq v u hp
  exact (hB.2.2.1 0 (Nat.le_refl 0)).1 _ _ _ _ _ dL_tryBack_5 rfl rfl ⟨u, hp, rfl⟩ (mrg_fst hC hf)
set_option maxRecDepth 100000 in
theorem wn_tryBack_B {l : Launch} {E : Ev} {b : Nat} {v1 : Int32} {w wc : va_W} {is : List Nat} {fs : List Value} {pw : va_W → Prop} (hM : Th l E yX5_restore cX5_restore 2 (some FieldType.int) 7 110 [.ref b, .int v1] wc pw "java/lang/IndexOutOfBoundsException") (hC : is.map (fun i => w[i]?) = wc.map some) (hn : va_nd is = true) (hr : wc[0]? = some (b, .inr (5, fs))) : CtN l E yL_tryBack method_30_code 3 (some FieldType.int) (some [(0, 5, 6, 13), (0, 5, 10, 23)]) 8 131 1 [.ref b, .int v1] w (fun v9 w9 => ∃ u : va_W, pw u ∧ v9 = some (.int (-9999001)) ∧ w9 = mrg w is u) := by
  refine ctn_of_ctx (ctx_of (by decide +kernel) (Nat.le_of_ble_eq_true rfl) (fun ω ω9 C C9 RT up TC => ?_))
  show ω w [(0, .ref b), (1, .int v1)] [] 0
  refine r_aload_n C (i := 0) 0 dL_tryBack_0 rfl rfl ?_
  refine r_iload_n C (i := 1) 1 dL_tryBack_1 rfl rfl ?_
  refine TC "java/lang/IndexOutOfBoundsException" [] (0, 5, 6, 13) [(0, 5, 10, 23)] rfl (fun _ h => absurd h List.not_mem_nil) (by decide) w_1_162 cs_B _ pw _ _ [] _ 2 _ _ _ _ _ 5 _ _ _ _ _ is _ _ hM lk_X5_restore w_4_225 rfl dL_tryBack_2 rfl hC hn hr ⟨by decide, by decide⟩ (Nat.le_of_ble_eq_true rfl) ⟨by decide, by decide⟩ (fun u q hw hf => ?_)
  show ω9 _ [(0, .ref b), (1, .int v1)] [.ref q] 6
  refine r_astore_n C9 (lv' := [(2, .ref q), (0, .ref b), (1, .int v1)]) dL_tryBack_6 rfl (by decide) rfl ?_
  refine r_ldc (v := (-9999001)) C9 dL_tryBack_7 w_2_40 ?_
  exact RT.1 _ _ _ _ _ dL_tryBack_9 rfl rfl ⟨u, hw, rfl, rfl⟩ (mrg_fst hC hf)
set_option maxRecDepth 100000 in
theorem wn_tryBack_S {l : Launch} {E : Ev} {b : Nat} {v1 : Int32} {w wc : va_W} {is : List Nat} {fs : List Value} {pw : va_W → Prop} (hM : Th l E yX5_restore cX5_restore 2 (some FieldType.int) 7 110 [.ref b, .int v1] wc pw "java/lang/IllegalStateException") (hC : is.map (fun i => w[i]?) = wc.map some) (hn : va_nd is = true) (hr : wc[0]? = some (b, .inr (5, fs))) : CtN l E yL_tryBack method_30_code 3 (some FieldType.int) (some [(0, 5, 6, 13), (0, 5, 10, 23)]) 8 131 1 [.ref b, .int v1] w (fun v9 w9 => ∃ u : va_W, pw u ∧ v9 = some (.int (-9999003)) ∧ w9 = mrg w is u) := by
  refine ctn_of_ctx (ctx_of (by decide +kernel) (Nat.le_of_ble_eq_true rfl) (fun ω ω9 C C9 RT up TC => ?_))
  show ω w [(0, .ref b), (1, .int v1)] [] 0
  refine r_aload_n C (i := 0) 0 dL_tryBack_0 rfl rfl ?_
  refine r_iload_n C (i := 1) 1 dL_tryBack_1 rfl rfl ?_
  refine TC "java/lang/IllegalStateException" [(0, 5, 6, 13)] (0, 5, 10, 23) [] rfl (List.forall_mem_cons.mpr ⟨⟨by decide, "java/lang/IndexOutOfBoundsException", w_1_162, nc_SB⟩, fun _ h => absurd h List.not_mem_nil⟩) (by decide) w_2_48 cs_S _ pw _ _ [] _ 2 _ _ _ _ _ 5 _ _ _ _ _ is _ _ hM lk_X5_restore w_4_225 rfl dL_tryBack_2 rfl hC hn hr ⟨by decide, by decide⟩ (Nat.le_of_ble_eq_true rfl) ⟨by decide, by decide⟩ (fun u q hw hf => ?_)
  show ω9 _ [(0, .ref b), (1, .int v1)] [.ref q] 10
  refine r_astore_n C9 (lv' := [(2, .ref q), (0, .ref b), (1, .int v1)]) dL_tryBack_10 rfl (by decide) rfl ?_
  refine r_ldc (v := (-9999003)) C9 dL_tryBack_11 w_2_98 ?_
  exact RT.1 _ _ _ _ _ dL_tryBack_13 rfl rfl ⟨u, hw, rfl, rfl⟩ (mrg_fst hC hf)
set_option maxRecDepth 100000 in
theorem wo_addSlip {l : Launch} {E : Ev} {b : Nat} {v1 : Int32} {v2 : Int32} {v3 : Int32} {v4 : Int32} {w wc : va_W} {is : List Nat} {fs : List Value} {post : Option Value → va_W → Prop} (hM : Ct l E yX5_slip cX5_slip 6 (some FieldType.int) 7 111 [.ref b, .int v1, .int v2, .int v3, .int v4] wc post) (hq : PoR wc post) (hC : is.map (fun i => w[i]?) = wc.map some) (hn : va_nd is = true) (hr : wc[0]? = some (b, .inr (5, fs))) : CtN l E yL_addSlip method_3_code 6 (some FieldType.int) (some [(0, 9, 10, 13), (0, 9, 15, 20), (0, 9, 20, 23)]) 8 136 0 [.ref b, .int v1, .int v2, .int v3, .int v4] w (fun v9 w9 => ∃ u : va_W, post v9 u ∧ w9 = mrg w is u) := by
  refine ctn_of (by decide +kernel) (Nat.le_of_ble_eq_true rfl) (fun Ω hB => ?_)
  have C := hB.1 0 (Nat.le_refl 0)
  show Ω 0 w [(0, .ref b), (1, .int v1), (2, .int v2), (3, .int v3), (4, .int v4)] [] 0
  refine r_aload_n C (i := 0) 0 dL_addSlip_0 rfl rfl ?_
  refine r_iload_n C (i := 1) 1 dL_addSlip_1 rfl rfl ?_
  refine r_iload_n C (i := 2) 2 dL_addSlip_2 rfl rfl ?_
  refine r_iload_n C (i := 3) 3 dL_addSlip_3 rfl rfl ?_
  refine r_iload C (i := 4) 4 dL_addSlip_4 rfl ?_
  refine r_callV (rest := []) C hM lk_X5_slip w_5_5 is (ci := 5) rfl dL_addSlip_6 rfl hC hn hr ⟨by decide, by decide⟩ (Nat.le_of_ble_eq_true rfl) (fun v u hp => ?_)
  obtain ⟨⟨r, rfl⟩, hf⟩ := hq v u hp
  exact (hB.2.2.1 0 (Nat.le_refl 0)).1 _ _ _ _ _ dL_addSlip_9 rfl rfl ⟨u, hp, rfl⟩ (mrg_fst hC hf)
set_option maxRecDepth 100000 in
theorem wn_addSlip_B {l : Launch} {E : Ev} {b : Nat} {v1 : Int32} {v2 : Int32} {v3 : Int32} {v4 : Int32} {w wc : va_W} {is : List Nat} {fs : List Value} {pw : va_W → Prop} (hM : Th l E yX5_slip cX5_slip 6 (some FieldType.int) 7 111 [.ref b, .int v1, .int v2, .int v3, .int v4] wc pw "java/lang/IndexOutOfBoundsException") (hC : is.map (fun i => w[i]?) = wc.map some) (hn : va_nd is = true) (hr : wc[0]? = some (b, .inr (5, fs))) : CtN l E yL_addSlip method_3_code 6 (some FieldType.int) (some [(0, 9, 10, 13), (0, 9, 15, 20), (0, 9, 20, 23)]) 8 136 1 [.ref b, .int v1, .int v2, .int v3, .int v4] w (fun v9 w9 => ∃ u : va_W, pw u ∧ v9 = some (.int (-9999001)) ∧ w9 = mrg w is u) := by
  refine ctn_of_ctx (ctx_of (by decide +kernel) (Nat.le_of_ble_eq_true rfl) (fun ω ω9 C C9 RT up TC => ?_))
  show ω w [(0, .ref b), (1, .int v1), (2, .int v2), (3, .int v3), (4, .int v4)] [] 0
  refine r_aload_n C (i := 0) 0 dL_addSlip_0 rfl rfl ?_
  refine r_iload_n C (i := 1) 1 dL_addSlip_1 rfl rfl ?_
  refine r_iload_n C (i := 2) 2 dL_addSlip_2 rfl rfl ?_
  refine r_iload_n C (i := 3) 3 dL_addSlip_3 rfl rfl ?_
  refine r_iload C (i := 4) 4 dL_addSlip_4 rfl ?_
  refine TC "java/lang/IndexOutOfBoundsException" [] (0, 9, 10, 13) [(0, 9, 15, 20), (0, 9, 20, 23)] rfl (fun _ h => absurd h List.not_mem_nil) (by decide) w_1_162 cs_B _ pw _ _ [] _ 6 _ _ _ _ _ 5 _ _ _ _ _ is _ _ hM lk_X5_slip w_5_5 rfl dL_addSlip_6 rfl hC hn hr ⟨by decide, by decide⟩ (Nat.le_of_ble_eq_true rfl) ⟨by decide, by decide⟩ (fun u q hw hf => ?_)
  show ω9 _ [(0, .ref b), (1, .int v1), (2, .int v2), (3, .int v3), (4, .int v4)] [.ref q] 10
  refine r_astore C9 (lv' := [(5, .ref q), (0, .ref b), (1, .int v1), (2, .int v2), (3, .int v3), (4, .int v4)]) dL_addSlip_10 (by decide) rfl ?_
  refine r_ldc (v := (-9999001)) C9 dL_addSlip_12 w_2_40 ?_
  exact RT.1 _ _ _ _ _ dL_addSlip_14 rfl rfl ⟨u, hw, rfl, rfl⟩ (mrg_fst hC hf)
set_option maxRecDepth 100000 in
theorem wn_addSlip_A {l : Launch} {E : Ev} {b : Nat} {v1 : Int32} {v2 : Int32} {v3 : Int32} {v4 : Int32} {w wc : va_W} {is : List Nat} {fs : List Value} {pw : va_W → Prop} (hM : Th l E yX5_slip cX5_slip 6 (some FieldType.int) 7 111 [.ref b, .int v1, .int v2, .int v3, .int v4] wc pw "java/lang/IllegalArgumentException") (hC : is.map (fun i => w[i]?) = wc.map some) (hn : va_nd is = true) (hr : wc[0]? = some (b, .inr (5, fs))) : CtN l E yL_addSlip method_3_code 6 (some FieldType.int) (some [(0, 9, 10, 13), (0, 9, 15, 20), (0, 9, 20, 23)]) 8 136 1 [.ref b, .int v1, .int v2, .int v3, .int v4] w (fun v9 w9 => ∃ u : va_W, pw u ∧ v9 = some (.int (-9999002)) ∧ w9 = mrg w is u) := by
  refine ctn_of_ctx (ctx_of (by decide +kernel) (Nat.le_of_ble_eq_true rfl) (fun ω ω9 C C9 RT up TC => ?_))
  show ω w [(0, .ref b), (1, .int v1), (2, .int v2), (3, .int v3), (4, .int v4)] [] 0
  refine r_aload_n C (i := 0) 0 dL_addSlip_0 rfl rfl ?_
  refine r_iload_n C (i := 1) 1 dL_addSlip_1 rfl rfl ?_
  refine r_iload_n C (i := 2) 2 dL_addSlip_2 rfl rfl ?_
  refine r_iload_n C (i := 3) 3 dL_addSlip_3 rfl rfl ?_
  refine r_iload C (i := 4) 4 dL_addSlip_4 rfl ?_
  refine TC "java/lang/IllegalArgumentException" [(0, 9, 10, 13)] (0, 9, 15, 20) [(0, 9, 20, 23)] rfl (List.forall_mem_cons.mpr ⟨⟨by decide, "java/lang/IndexOutOfBoundsException", w_1_162, nc_AB⟩, fun _ h => absurd h List.not_mem_nil⟩) (by decide) w_2_47 cs_A _ pw _ _ [] _ 6 _ _ _ _ _ 5 _ _ _ _ _ is _ _ hM lk_X5_slip w_5_5 rfl dL_addSlip_6 rfl hC hn hr ⟨by decide, by decide⟩ (Nat.le_of_ble_eq_true rfl) ⟨by decide, by decide⟩ (fun u q hw hf => ?_)
  show ω9 _ [(0, .ref b), (1, .int v1), (2, .int v2), (3, .int v3), (4, .int v4)] [.ref q] 15
  refine r_astore C9 (lv' := [(5, .ref q), (0, .ref b), (1, .int v1), (2, .int v2), (3, .int v3), (4, .int v4)]) dL_addSlip_15 (by decide) rfl ?_
  refine r_ldc (v := (-9999002)) C9 dL_addSlip_17 w_2_97 ?_
  exact RT.1 _ _ _ _ _ dL_addSlip_19 rfl rfl ⟨u, hw, rfl, rfl⟩ (mrg_fst hC hf)
set_option maxRecDepth 100000 in
theorem wn_addSlip_S {l : Launch} {E : Ev} {b : Nat} {v1 : Int32} {v2 : Int32} {v3 : Int32} {v4 : Int32} {w wc : va_W} {is : List Nat} {fs : List Value} {pw : va_W → Prop} (hM : Th l E yX5_slip cX5_slip 6 (some FieldType.int) 7 111 [.ref b, .int v1, .int v2, .int v3, .int v4] wc pw "java/lang/IllegalStateException") (hC : is.map (fun i => w[i]?) = wc.map some) (hn : va_nd is = true) (hr : wc[0]? = some (b, .inr (5, fs))) : CtN l E yL_addSlip method_3_code 6 (some FieldType.int) (some [(0, 9, 10, 13), (0, 9, 15, 20), (0, 9, 20, 23)]) 8 136 1 [.ref b, .int v1, .int v2, .int v3, .int v4] w (fun v9 w9 => ∃ u : va_W, pw u ∧ v9 = some (.int (-9999003)) ∧ w9 = mrg w is u) := by
  refine ctn_of_ctx (ctx_of (by decide +kernel) (Nat.le_of_ble_eq_true rfl) (fun ω ω9 C C9 RT up TC => ?_))
  show ω w [(0, .ref b), (1, .int v1), (2, .int v2), (3, .int v3), (4, .int v4)] [] 0
  refine r_aload_n C (i := 0) 0 dL_addSlip_0 rfl rfl ?_
  refine r_iload_n C (i := 1) 1 dL_addSlip_1 rfl rfl ?_
  refine r_iload_n C (i := 2) 2 dL_addSlip_2 rfl rfl ?_
  refine r_iload_n C (i := 3) 3 dL_addSlip_3 rfl rfl ?_
  refine r_iload C (i := 4) 4 dL_addSlip_4 rfl ?_
  refine TC "java/lang/IllegalStateException" [(0, 9, 10, 13), (0, 9, 15, 20)] (0, 9, 20, 23) [] rfl (List.forall_mem_cons.mpr ⟨⟨by decide, "java/lang/IndexOutOfBoundsException", w_1_162, nc_SB⟩, List.forall_mem_cons.mpr ⟨⟨by decide, "java/lang/IllegalArgumentException", w_2_47, nc_SA⟩, fun _ h => absurd h List.not_mem_nil⟩⟩) (by decide) w_2_48 cs_S _ pw _ _ [] _ 6 _ _ _ _ _ 5 _ _ _ _ _ is _ _ hM lk_X5_slip w_5_5 rfl dL_addSlip_6 rfl hC hn hr ⟨by decide, by decide⟩ (Nat.le_of_ble_eq_true rfl) ⟨by decide, by decide⟩ (fun u q hw hf => ?_)
  show ω9 _ [(0, .ref b), (1, .int v1), (2, .int v2), (3, .int v3), (4, .int v4)] [.ref q] 20
  refine r_astore C9 (lv' := [(5, .ref q), (0, .ref b), (1, .int v1), (2, .int v2), (3, .int v3), (4, .int v4)]) dL_addSlip_20 (by decide) rfl ?_
  refine r_ldc (v := (-9999003)) C9 dL_addSlip_22 w_2_98 ?_
  exact RT.1 _ _ _ _ _ dL_addSlip_24 rfl rfl ⟨u, hw, rfl, rfl⟩ (mrg_fst hC hf)
set_option maxRecDepth 100000 in
theorem wo_doScript {l : Launch} {E : Ev} {b : Nat} {v1 : Int32} {v2 : Int64} {w wc : va_W} {is : List Nat} {fs : List Value} {post : Option Value → va_W → Prop} (hM : Ct l E yX5_runScript cX5_runScript 6 (some FieldType.int) 6 143 [.ref b, .int v1, .long v2] wc post) (hq : PoR wc post) (hC : is.map (fun i => w[i]?) = wc.map some) (hn : va_nd is = true) (hr : wc[0]? = some (b, .inr (5, fs))) : CtN l E yL_doScript method_4_code 5 (some FieldType.int) (some [(0, 6, 7, 20)]) 7 168 0 [.ref b, .int v1, .long v2] w (fun v9 w9 => ∃ u : va_W, post v9 u ∧ w9 = mrg w is u) := by
  refine ctn_of (by decide +kernel) (Nat.le_of_ble_eq_true rfl) (fun Ω hB => ?_)
  have C := hB.1 0 (Nat.le_refl 0)
  show Ω 0 w [(0, .ref b), (1, .int v1), (2, .long v2)] [] 0
  refine r_aload_n C (i := 0) 0 dL_doScript_0 rfl rfl ?_
  refine r_iload_n C (i := 1) 1 dL_doScript_1 rfl rfl ?_
  refine r_lload_n C (i := 2) 2 dL_doScript_2 rfl rfl ?_
  refine r_callV (rest := []) C hM lk_X5_runScript w_5_15 is (ci := 5) rfl dL_doScript_3 rfl hC hn hr ⟨by decide, by decide⟩ (Nat.le_of_ble_eq_true rfl) (fun v u hp => ?_)
  obtain ⟨⟨r, rfl⟩, hf⟩ := hq v u hp
  exact (hB.2.2.1 0 (Nat.le_refl 0)).1 _ _ _ _ _ dL_doScript_6 rfl rfl ⟨u, hp, rfl⟩ (mrg_fst hC hf)
set_option maxRecDepth 100000 in
theorem wn_doScript_A {l : Launch} {E : Ev} {b : Nat} {v1 : Int32} {v2 : Int64} {w wc : va_W} {is : List Nat} {fs : List Value} {pw : va_W → Prop} (hM : Th l E yX5_runScript cX5_runScript 6 (some FieldType.int) 6 143 [.ref b, .int v1, .long v2] wc pw "java/lang/IllegalArgumentException") (hC : is.map (fun i => w[i]?) = wc.map some) (hn : va_nd is = true) (hr : wc[0]? = some (b, .inr (5, fs))) : CtN l E yL_doScript method_4_code 5 (some FieldType.int) (some [(0, 6, 7, 20)]) 7 168 1 [.ref b, .int v1, .long v2] w (fun v9 w9 => ∃ u : va_W, pw u ∧ v9 = some (.int (-9999002)) ∧ w9 = mrg w is u) := by
  refine ctn_of_ctx (ctx_of (by decide +kernel) (Nat.le_of_ble_eq_true rfl) (fun ω ω9 C C9 RT up TC => ?_))
  show ω w [(0, .ref b), (1, .int v1), (2, .long v2)] [] 0
  refine r_aload_n C (i := 0) 0 dL_doScript_0 rfl rfl ?_
  refine r_iload_n C (i := 1) 1 dL_doScript_1 rfl rfl ?_
  refine r_lload_n C (i := 2) 2 dL_doScript_2 rfl rfl ?_
  refine TC "java/lang/IllegalArgumentException" [] (0, 6, 7, 20) [] rfl (fun _ h => absurd h List.not_mem_nil) (by decide) w_2_47 cs_A _ pw _ _ [] _ 3 _ _ _ _ _ 5 _ _ _ _ _ is _ _ hM lk_X5_runScript w_5_15 rfl dL_doScript_3 rfl hC hn hr ⟨by decide, by decide⟩ (Nat.le_of_ble_eq_true rfl) ⟨by decide, by decide⟩ (fun u q hw hf => ?_)
  show ω9 _ [(0, .ref b), (1, .int v1), (2, .long v2)] [.ref q] 7
  refine r_astore C9 (lv' := [(4, .ref q), (0, .ref b), (1, .int v1), (2, .long v2)]) dL_doScript_7 (by decide) rfl ?_
  refine r_ldc (v := (-9999002)) C9 dL_doScript_9 w_2_97 ?_
  exact RT.1 _ _ _ _ _ dL_doScript_11 rfl rfl ⟨u, hw, rfl, rfl⟩ (mrg_fst hC hf)
set_option maxRecDepth 100000 in
theorem wo_doSimulate {l : Launch} {E : Ev} {b : Nat} {v1 : Int64} {v2 : Int32} {w wc : va_W} {is : List Nat} {fs : List Value} {post : Option Value → va_W → Prop} (hM : Ct l E yX5_simulate cX5_simulate 7 (some FieldType.int) 6 117 [.ref b, .long v1, .int v2] wc post) (hq : PoR wc post) (hC : is.map (fun i => w[i]?) = wc.map some) (hn : va_nd is = true) (hr : wc[0]? = some (b, .inr (5, fs))) : CtN l E yL_doSimulate method_5_code 5 (some FieldType.int) (some [(0, 6, 7, 20)]) 7 143 0 [.ref b, .long v1, .int v2] w (fun v9 w9 => ∃ u : va_W, post v9 u ∧ w9 = mrg w is u) := by
  refine ctn_of (by decide +kernel) (Nat.le_of_ble_eq_true rfl) (fun Ω hB => ?_)
  have C := hB.1 0 (Nat.le_refl 0)
  show Ω 0 w [(0, .ref b), (1, .long v1), (3, .int v2)] [] 0
  refine r_aload_n C (i := 0) 0 dL_doSimulate_0 rfl rfl ?_
  refine r_lload_n C (i := 1) 1 dL_doSimulate_1 rfl rfl ?_
  refine r_iload_n C (i := 3) 2 dL_doSimulate_2 rfl rfl ?_
  refine r_callV (rest := []) C hM lk_X5_simulate w_5_41 is (ci := 5) rfl dL_doSimulate_3 rfl hC hn hr ⟨by decide, by decide⟩ (Nat.le_of_ble_eq_true rfl) (fun v u hp => ?_)
  obtain ⟨⟨r, rfl⟩, hf⟩ := hq v u hp
  exact (hB.2.2.1 0 (Nat.le_refl 0)).1 _ _ _ _ _ dL_doSimulate_6 rfl rfl ⟨u, hp, rfl⟩ (mrg_fst hC hf)
set_option maxRecDepth 100000 in
theorem wn_doSimulate_A {l : Launch} {E : Ev} {b : Nat} {v1 : Int64} {v2 : Int32} {w wc : va_W} {is : List Nat} {fs : List Value} {pw : va_W → Prop} (hM : Th l E yX5_simulate cX5_simulate 7 (some FieldType.int) 6 117 [.ref b, .long v1, .int v2] wc pw "java/lang/IllegalArgumentException") (hC : is.map (fun i => w[i]?) = wc.map some) (hn : va_nd is = true) (hr : wc[0]? = some (b, .inr (5, fs))) : CtN l E yL_doSimulate method_5_code 5 (some FieldType.int) (some [(0, 6, 7, 20)]) 7 143 1 [.ref b, .long v1, .int v2] w (fun v9 w9 => ∃ u : va_W, pw u ∧ v9 = some (.int (-9999002)) ∧ w9 = mrg w is u) := by
  refine ctn_of_ctx (ctx_of (by decide +kernel) (Nat.le_of_ble_eq_true rfl) (fun ω ω9 C C9 RT up TC => ?_))
  show ω w [(0, .ref b), (1, .long v1), (3, .int v2)] [] 0
  refine r_aload_n C (i := 0) 0 dL_doSimulate_0 rfl rfl ?_
  refine r_lload_n C (i := 1) 1 dL_doSimulate_1 rfl rfl ?_
  refine r_iload_n C (i := 3) 2 dL_doSimulate_2 rfl rfl ?_
  refine TC "java/lang/IllegalArgumentException" [] (0, 6, 7, 20) [] rfl (fun _ h => absurd h List.not_mem_nil) (by decide) w_2_47 cs_A _ pw _ _ [] _ 3 _ _ _ _ _ 5 _ _ _ _ _ is _ _ hM lk_X5_simulate w_5_41 rfl dL_doSimulate_3 rfl hC hn hr ⟨by decide, by decide⟩ (Nat.le_of_ble_eq_true rfl) ⟨by decide, by decide⟩ (fun u q hw hf => ?_)
  show ω9 _ [(0, .ref b), (1, .long v1), (3, .int v2)] [.ref q] 7
  refine r_astore C9 (lv' := [(4, .ref q), (0, .ref b), (1, .long v1), (3, .int v2)]) dL_doSimulate_7 (by decide) rfl ?_
  refine r_ldc (v := (-9999002)) C9 dL_doSimulate_9 w_2_97 ?_
  exact RT.1 _ _ _ _ _ dL_doSimulate_11 rfl rfl ⟨u, hw, rfl, rfl⟩ (mrg_fst hC hf)
