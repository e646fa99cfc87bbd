set_option maxRecDepth 100000 in
set_option maxHeartbeats 1000000 in
theorem c_X5_addActor {l : Launch} {E : Ev} {hB b1 b2 b3 b4 b5 b6 b7 b8 b9 b10 : Nat} {c1 : Nat} {f : Nat → Int32} {σ : Sg} (hR : RepC σ f) (hW : Wf σ) {c3 od cnt : Nat} {D : Nat → Int32} {hs : Nat → Sg} (hH : HistC hs cnt od D) {x : Nat} (hx : x ≤ 9) (hA : sA σ < 10) : Ct l E yX5_addActor cX5_addActor 3 (some FieldType.int) 6 90 [.ref hB, .int (nI x)] [(hB, .inr (5, [.ref b1, .ref b2, .ref b3, .ref b4, .ref b5, .ref b6, .ref b7, .ref b8, .ref b9, .ref b10])), (b1, .inr (4, [.ref c1])), (c1, .inl (eI E, 265, .inl f)), (b3, .inr (1, [.ref c3, .int (nI od), .int (nI cnt)])), (c3, .inl (eI E, 3710, .inl D))] (fun v9 w9 => ∃ (f2 : Nat → Int32) (od2 : Nat) (D2 : Nat → Int32), v9 = some (.int (nI (sA σ))) ∧ w9 = [(hB, .inr (5, [.ref b1, .ref b2, .ref b3, .ref b4, .ref b5, .ref b6, .ref b7, .ref b8, .ref b9, .ref b10])), (b1, .inr (4, [.ref c1])), (c1, .inl (eI E, 265, .inl f2)), (b3, .inr (1, [.ref c3, .int (nI od2), .int (nI (pushN cnt))])), (c3, .inl (eI E, 3710, .inl D2))] ∧ RepC (oHire σ x) f2 ∧ HistC (pushH hs cnt σ) (pushN cnt) od2 D2) := by
  have hwP := hW.P
  have hwA := hW.A
  have hwS := hW.S
  refine ct_of (by decide +kernel) (Nat.le_of_ble_eq_true rfl) (fun ω C RT => ?_)
  show ω [(hB, .inr (5, [.ref b1, .ref b2, .ref b3, .ref b4, .ref b5, .ref b6, .ref b7, .ref b8, .ref b9, .ref b10])), (b1, .inr (4, [.ref c1])), (c1, .inl (eI E, 265, .inl f)), (b3, .inr (1, [.ref c3, .int (nI od), .int (nI cnt)])), (c3, .inl (eI E, 3710, .inl D))] [(0, .ref hB), (1, .int (nI x))] [] 0
  refine r_iload_n C (i := 1) 1 dX5_addActor_0 rfl rfl ?_
  refine r_if_ltF C (y := 0) (tgt := 10) dX5_addActor_1 (by decide) (fun z => ((by omega) : ¬ (x < 0)) ((z_ltN (by omega)).mp z)) ?_
  refine r_iload_n C (i := 1) 1 dX5_addActor_4 rfl rfl ?_
  refine r_bipush C dX5_addActor_5 kb_9 ?_
  refine r_icmp_leT C 21 dX5_addActor_7 (by decide) ((c_leNN (by omega) (by omega)).mpr (by omega)) ?_
  refine r_aload_n C (i := 0) 0 dX5_addActor_21 rfl rfl ?_
  refine r_get C 0 0 uX5 rfl rfl (by decide) w_1_128 rfl dX5_addActor_22 ?_
  refine r_iload_n C (i := 1) 1 dX5_addActor_25 rfl rfl ?_
  refine r_readV (rest := []) C (c_X4_canHire (h0 := b1) (q1 := c1) (f := f) (σ := σ) (x := x) (hR := hR) (hW := hW) (hx := (by omega))) lk_X4_canHire w_4_67 [1, 2] rfl dX5_addActor_26 rfl rfl rfl rfl ⟨by decide, by decide⟩ (Nat.le_of_ble_eq_true rfl) (st' := [.int (bP (x ≤ 9 ∧ sA σ < 10))]) rfl ?_
  refine r_if_neT C (y := 0) 43 dX5_addActor_29 (by decide) (z_neB.mpr (by omega)) ?_
  refine r_aload_n C (i := 0) 0 dX5_addActor_43 rfl rfl ?_
  refine r_get C 0 2 uX5 rfl rfl (by decide) w_1_130 rfl dX5_addActor_44 ?_
  refine r_aload_n C (i := 0) 0 dX5_addActor_47 rfl rfl ?_
  refine r_get C 0 0 uX5 rfl rfl (by decide) w_1_128 rfl dX5_addActor_48 ?_
  refine r_callV (rest := []) C (c_X1_remember (hh := b3) (hr := c3) (od := od) (cnt := cnt) (h0 := b1) (q1 := c1) (f := f) (σ := σ) (hs := hs) (D := D) (hH := hH) (hR := hR) (hW := hW)) lk_X1_remember w_2_13 [3, 4, 1, 2] rfl dX5_addActor_51 rfl rfl rfl rfl ⟨by decide, by decide⟩ (Nat.le_of_ble_eq_true rfl) ?_
  rintro _ _ ⟨od_1, D_2, rfl, rfl, hH_3⟩
  show ω [(hB, .inr (5, [.ref b1, .ref b2, .ref b3, .ref b4, .ref b5, .ref b6, .ref b7, .ref b8, .ref b9, .ref b10])), (b1, .inr (4, [.ref c1])), (c1, .inl (eI E, 265, .inl f)), (b3, .inr (1, [.ref c3, .int (nI od_1), .int (nI (pushN cnt))])), (c3, .inl (eI E, 3710, .inl D_2))] [(0, .ref hB), (1, .int (nI x))] [] 54
  refine r_aload_n C (i := 0) 0 dX5_addActor_54 rfl rfl ?_
  refine r_get C 0 0 uX5 rfl rfl (by decide) w_1_128 rfl dX5_addActor_55 ?_
  refine r_readV (rest := []) C (c_X4_actors (h0 := b1) (q1 := c1) (f := f) (σ := σ) (hR := hR) (hW := hW)) lk_X4_actors w_3_40 [1, 2] rfl dX5_addActor_58 rfl rfl rfl rfl ⟨by decide, by decide⟩ (Nat.le_of_ble_eq_true rfl) (st' := [.int (nI (sA σ))]) rfl ?_
  refine r_istore_n C (lv' := [(2, .int (nI (sA σ))), (0, .ref hB), (1, .int (nI x))]) dX5_addActor_61 rfl (by decide) rfl ?_
  refine r_aload_n C (i := 0) 1 dX5_addActor_62 rfl rfl ?_
  refine r_get C 0 0 uX5 rfl rfl (by decide) w_1_128 rfl dX5_addActor_63 ?_
  refine r_iload_n C (i := 1) 2 dX5_addActor_66 rfl rfl ?_
  refine r_callV (rest := []) C (c_X4_hire (h0 := b1) (q1 := c1) (f := f) (σ := σ) (x := x) (hR := hR) (hW := hW) (hx := (by omega))) lk_X4_hire w_2_205 [1, 2] rfl dX5_addActor_67 rfl rfl rfl rfl ⟨by decide, by decide⟩ (Nat.le_of_ble_eq_true rfl) ?_
  rintro _ _ ⟨f_4, rfl, rfl, hR_5⟩
  have hW_6 : Wf (tHire σ x) := tHire_wf hW
  show ω [(hB, .inr (5, [.ref b1, .ref b2, .ref b3, .ref b4, .ref b5, .ref b6, .ref b7, .ref b8, .ref b9, .ref b10])), (b1, .inr (4, [.ref c1])), (c1, .inl (eI E, 265, .inl f_4)), (b3, .inr (1, [.ref c3, .int (nI od_1), .int (nI (pushN cnt))])), (c3, .inl (eI E, 3710, .inl D_2))] [(2, .int (nI (sA σ))), (0, .ref hB), (1, .int (nI x))] [.int (bP (x ≤ 9 ∧ sA σ < 10))] 70
  refine r_pop C dX5_addActor_70 rfl ?_
  refine r_iload_n C (i := 2) 0 dX5_addActor_71 rfl rfl ?_
  exact RT.1 _ _ _ _ _ dX5_addActor_72 rfl rfl (⟨_, _, _, rfl, rfl, (by have e : tHire σ x = oHire σ x := if_pos ⟨hx, hA⟩; exact e ▸ hR_5), hH_3⟩) rfl
set_option maxRecDepth 100000 in
set_option maxHeartbeats 1000000 in
theorem c_X5_addPart {l : Launch} {E : Ev} {hB b1 b2 b3 b4 b5 b6 b7 b8 b9 b10 : Nat} {c1 : Nat} {f : Nat → Int32} {σ : Sg} (hR : RepC σ f) (hW : Wf σ) {c3 od cnt : Nat} {D : Nat → Int32} {hs : Nat → Sg} (hH : HistC hs cnt od D) (hP : sP σ < 6) : Ct l E yX5_addPart cX5_addPart 2 (some FieldType.int) 6 109 [.ref hB] [(hB, .inr (5, [.ref b1, .ref b2, .ref b3, .ref b4, .ref b5, .ref b6, .ref b7, .ref b8, .ref b9, .ref b10])), (b1, .inr (4, [.ref c1])), (c1, .inl (eI E, 265, .inl f)), (b3, .inr (1, [.ref c3, .int (nI od), .int (nI cnt)])), (c3, .inl (eI E, 3710, .inl D))] (fun v9 w9 => ∃ (f2 : Nat → Int32) (od2 : Nat) (D2 : Nat → Int32), v9 = some (.int (nI (sP σ))) ∧ w9 = [(hB, .inr (5, [.ref b1, .ref b2, .ref b3, .ref b4, .ref b5, .ref b6, .ref b7, .ref b8, .ref b9, .ref b10])), (b1, .inr (4, [.ref c1])), (c1, .inl (eI E, 265, .inl f2)), (b3, .inr (1, [.ref c3, .int (nI od2), .int (nI (pushN cnt))])), (c3, .inl (eI E, 3710, .inl D2))] ∧ RepC (oPart σ) f2 ∧ HistC (pushH hs cnt σ) (pushN cnt) od2 D2) := by
  have hwP := hW.P
  have hwA := hW.A
  have hwS := hW.S
  refine ct_of (by decide +kernel) (Nat.le_of_ble_eq_true rfl) (fun ω C RT => ?_)
  show ω [(hB, .inr (5, [.ref b1, .ref b2, .ref b3, .ref b4, .ref b5, .ref b6, .ref b7, .ref b8, .ref b9, .ref b10])), (b1, .inr (4, [.ref c1])), (c1, .inl (eI E, 265, .inl f)), (b3, .inr (1, [.ref c3, .int (nI od), .int (nI cnt)])), (c3, .inl (eI E, 3710, .inl D))] [(0, .ref hB)] [] 0
  refine r_aload_n C (i := 0) 0 dX5_addPart_0 rfl rfl ?_
  refine r_get C 0 0 uX5 rfl rfl (by decide) w_1_128 rfl dX5_addPart_1 ?_
  refine r_readV (rest := []) C (c_X4_canOpenPart (h0 := b1) (q1 := c1) (f := f) (σ := σ) (hR := hR) (hW := hW)) lk_X4_canOpenPart w_4_76 [1, 2] rfl dX5_addPart_4 rfl rfl rfl rfl ⟨by decide, by decide⟩ (Nat.le_of_ble_eq_true rfl) (st' := [.int (bP (sP σ < 6))]) rfl ?_
  refine r_if_neT C (y := 0) 21 dX5_addPart_7 (by decide) (z_neB.mpr (by omega)) ?_
  refine r_aload_n C (i := 0) 0 dX5_addPart_21 rfl rfl ?_
  refine r_get C 0 2 uX5 rfl rfl (by decide) w_1_130 rfl dX5_addPart_22 ?_
  refine r_aload_n C (i := 0) 0 dX5_addPart_25 rfl rfl ?_
  refine r_get C 0 0 uX5 rfl rfl (by decide) w_1_128 rfl dX5_addPart_26 ?_
  refine r_callV (rest := []) C (c_X1_remember (hh := b3) (hr := c3) (od := od) (cnt := cnt) (h0 := b1) (q1 := c1) (f := f) (σ := σ) (hs := hs) (D := D) (hH := hH) (hR := hR) (hW := hW)) lk_X1_remember w_2_13 [3, 4, 1, 2] rfl dX5_addPart_29 rfl rfl rfl rfl ⟨by decide, by decide⟩ (Nat.le_of_ble_eq_true rfl) ?_
  rintro _ _ ⟨od_1, D_2, rfl, rfl, hH_3⟩
  show ω [(hB, .inr (5, [.ref b1, .ref b2, .ref b3, .ref b4, .ref b5, .ref b6, .ref b7, .ref b8, .ref b9, .ref b10])), (b1, .inr (4, [.ref c1])), (c1, .inl (eI E, 265, .inl f)), (b3, .inr (1, [.ref c3, .int (nI od_1), .int (nI (pushN cnt))])), (c3, .inl (eI E, 3710, .inl D_2))] [(0, .ref hB)] [] 32
  refine r_aload_n C (i := 0) 0 dX5_addPart_32 rfl rfl ?_
  refine r_get C 0 0 uX5 rfl rfl (by decide) w_1_128 rfl dX5_addPart_33 ?_
  refine r_readV (rest := []) C (c_X4_parts (h0 := b1) (q1 := c1) (f := f) (σ := σ) (hR := hR) (hW := hW)) lk_X4_parts w_3_36 [1, 2] rfl dX5_addPart_36 rfl rfl rfl rfl ⟨by decide, by decide⟩ (Nat.le_of_ble_eq_true rfl) (st' := [.int (nI (sP σ))]) rfl ?_
  refine r_istore_n C (lv' := [(1, .int (nI (sP σ))), (0, .ref hB)]) dX5_addPart_39 rfl (by decide) rfl ?_
  refine r_aload_n C (i := 0) 1 dX5_addPart_40 rfl rfl ?_
  refine r_get C 0 0 uX5 rfl rfl (by decide) w_1_128 rfl dX5_addPart_41 ?_
  refine r_callV (rest := []) C (c_X4_openPart (h0 := b1) (q1 := c1) (f := f) (σ := σ) (hR := hR) (hW := hW)) lk_X4_openPart w_2_214 [1, 2] rfl dX5_addPart_44 rfl rfl rfl rfl ⟨by decide, by decide⟩ (Nat.le_of_ble_eq_true rfl) ?_
  rintro _ _ ⟨f_4, rfl, rfl, hR_5⟩
  have hW_6 : Wf (tPart σ) := tPart_wf hW
  show ω [(hB, .inr (5, [.ref b1, .ref b2, .ref b3, .ref b4, .ref b5, .ref b6, .ref b7, .ref b8, .ref b9, .ref b10])), (b1, .inr (4, [.ref c1])), (c1, .inl (eI E, 265, .inl f_4)), (b3, .inr (1, [.ref c3, .int (nI od_1), .int (nI (pushN cnt))])), (c3, .inl (eI E, 3710, .inl D_2))] [(1, .int (nI (sP σ))), (0, .ref hB)] [.int (bP (sP σ < 6))] 47
  refine r_pop C dX5_addPart_47 rfl ?_
  refine r_iload_n C (i := 1) 0 dX5_addPart_48 rfl rfl ?_
  exact RT.1 _ _ _ _ _ dX5_addPart_49 rfl rfl (⟨_, _, _, rfl, rfl, (by have e : tPart σ = oPart σ := if_pos hP; exact e ▸ hR_5), hH_3⟩) rfl
set_option maxRecDepth 100000 in
set_option maxHeartbeats 1000000 in
theorem c_X5_cast {l : Launch} {E : Ev} {hB b1 b2 b3 b4 b5 b6 b7 b8 b9 b10 : Nat} {c1 : Nat} {f : Nat → Int32} {σ : Sg} (hR : RepC σ f) (hW : Wf σ) {c3 od cnt : Nat} {D : Nat → Int32} {hs : Nat → Sg} (hH : HistC hs cnt od D) {p a n : Nat} (hp : p < sP σ) (ha : a < sA σ) (hn : n < 20) : Ct l E yX5_cast cX5_cast 5 (some FieldType.int) 6 90 [.ref hB, .int (nI p), .int (nI a), .int (nI n)] [(hB, .inr (5, [.ref b1, .ref b2, .ref b3, .ref b4, .ref b5, .ref b6, .ref b7, .ref b8, .ref b9, .ref b10])), (b1, .inr (4, [.ref c1])), (c1, .inl (eI E, 265, .inl f)), (b3, .inr (1, [.ref c3, .int (nI od), .int (nI cnt)])), (c3, .inl (eI E, 3710, .inl D))] (fun v9 w9 => ∃ (f2 : Nat → Int32) (od2 : Nat) (D2 : Nat → Int32), v9 = some (.int (mI (sR σ p n))) ∧ w9 = [(hB, .inr (5, [.ref b1, .ref b2, .ref b3, .ref b4, .ref b5, .ref b6, .ref b7, .ref b8, .ref b9, .ref b10])), (b1, .inr (4, [.ref c1])), (c1, .inl (eI E, 265, .inl f2)), (b3, .inr (1, [.ref c3, .int (nI od2), .int (nI (pushN cnt))])), (c3, .inl (eI E, 3710, .inl D2))] ∧ RepC (oCast σ p (a + 1) n) f2 ∧ HistC (pushH hs cnt σ) (pushN cnt) od2 D2) := by
  have hwP := hW.P
  have hwA := hW.A
  have hwS := hW.S
  refine ct_of (by decide +kernel) (Nat.le_of_ble_eq_true rfl) (fun ω C RT => ?_)
  show ω [(hB, .inr (5, [.ref b1, .ref b2, .ref b3, .ref b4, .ref b5, .ref b6, .ref b7, .ref b8, .ref b9, .ref b10])), (b1, .inr (4, [.ref c1])), (c1, .inl (eI E, 265, .inl f)), (b3, .inr (1, [.ref c3, .int (nI od), .int (nI cnt)])), (c3, .inl (eI E, 3710, .inl D))] [(0, .ref hB), (1, .int (nI p)), (2, .int (nI a)), (3, .int (nI n))] [] 0
  refine r_aload_n C (i := 0) 0 dX5_cast_0 rfl rfl ?_
  refine r_get C 0 0 uX5 rfl rfl (by decide) w_1_128 rfl dX5_cast_1 ?_
  refine r_iload_n C (i := 1) 1 dX5_cast_4 rfl rfl ?_
  refine r_iload_n C (i := 2) 2 dX5_cast_5 rfl rfl ?_
  refine r_iload_n C (i := 3) 3 dX5_cast_6 rfl rfl ?_
  refine r_readV (rest := []) C (c_X4_canRecast__n (h0 := b1) (q1 := c1) (f := f) (σ := σ) (p := p) (a := a) (n := n) (hR := hR) (hW := hW) (hp := (by omega)) (ha := (by omega)) (hn := (by omega))) lk_X4_canRecast w_4_85 [1, 2] rfl dX5_cast_7 rfl rfl rfl rfl ⟨by decide, by decide⟩ (Nat.le_of_ble_eq_true rfl) (st' := [.int (bP (p < sP σ ∧ n < 20 ∧ a < sA σ))]) rfl ?_
  refine r_if_neT C (y := 0) 24 dX5_cast_10 (by decide) (z_neB.mpr (by omega)) ?_
  refine r_aload_n C (i := 0) 0 dX5_cast_24 rfl rfl ?_
  refine r_get C 0 2 uX5 rfl rfl (by decide) w_1_130 rfl dX5_cast_25 ?_
  refine r_aload_n C (i := 0) 0 dX5_cast_28 rfl rfl ?_
  refine r_get C 0 0 uX5 rfl rfl (by decide) w_1_128 rfl dX5_cast_29 ?_
  refine r_callV (rest := []) C (c_X1_remember (hh := b3) (hr := c3) (od := od) (cnt := cnt) (h0 := b1) (q1 := c1) (f := f) (σ := σ) (hs := hs) (D := D) (hH := hH) (hR := hR) (hW := hW)) lk_X1_remember w_2_13 [3, 4, 1, 2] rfl dX5_cast_32 rfl rfl rfl rfl ⟨by decide, by decide⟩ (Nat.le_of_ble_eq_true rfl) ?_
  rintro _ _ ⟨od_1, D_2, rfl, rfl, hH_3⟩
  show ω [(hB, .inr (5, [.ref b1, .ref b2, .ref b3, .ref b4, .ref b5, .ref b6, .ref b7, .ref b8, .ref b9, .ref b10])), (b1, .inr (4, [.ref c1])), (c1, .inl (eI E, 265, .inl f)), (b3, .inr (1, [.ref c3, .int (nI od_1), .int (nI (pushN cnt))])), (c3, .inl (eI E, 3710, .inl D_2))] [(0, .ref hB), (1, .int (nI p)), (2, .int (nI a)), (3, .int (nI n))] [] 35
  refine r_aload_n C (i := 0) 0 dX5_cast_35 rfl rfl ?_
  refine r_get C 0 0 uX5 rfl rfl (by decide) w_1_128 rfl dX5_cast_36 ?_
  refine r_iload_n C (i := 1) 1 dX5_cast_39 rfl rfl ?_
  refine r_iload_n C (i := 3) 3 dX5_cast_40 rfl rfl ?_
  refine r_readV (rest := []) C (c_X4_principal (h0 := b1) (q1 := c1) (f := f) (σ := σ) (p := p) (n := n) (hR := hR) (hW := hW) (hp := (by omega)) (hn := (by omega))) lk_X4_principal w_3_197 [1, 2] rfl dX5_cast_41 rfl rfl rfl rfl ⟨by decide, by decide⟩ (Nat.le_of_ble_eq_true rfl) (st' := [.int (mI (sR σ p n))]) rfl ?_
  refine r_istore C (lv' := [(4, .int (mI (sR σ p n))), (0, .ref hB), (1, .int (nI p)), (2, .int (nI a)), (3, .int (nI n))]) dX5_cast_44 (by decide) rfl ?_
  refine r_aload_n C (i := 0) 1 dX5_cast_46 rfl rfl ?_
  refine r_get C 0 0 uX5 rfl rfl (by decide) w_1_128 rfl dX5_cast_47 ?_
  refine r_iload_n C (i := 1) 2 dX5_cast_50 rfl rfl ?_
  refine r_iload_n C (i := 2) 3 dX5_cast_51 rfl rfl ?_
  refine r_iload_n C (i := 3) 4 dX5_cast_52 rfl rfl ?_
  refine r_callV (rest := []) C (c_X4_recast__n (h0 := b1) (q1 := c1) (f := f) (σ := σ) (p := p) (a := a) (n := n) (hR := hR) (hW := hW) (hp := (by omega)) (ha := (by omega)) (hn := (by omega))) lk_X4_recast w_2_239 [1, 2] rfl dX5_cast_53 rfl rfl rfl rfl ⟨by decide, by decide⟩ (Nat.le_of_ble_eq_true rfl) ?_
  rintro _ _ ⟨f_4, rfl, rfl, hR_5⟩
  have hW_6 : Wf (tCast σ p (a + 1) n) := tCast_wf hW
  show ω [(hB, .inr (5, [.ref b1, .ref b2, .ref b3, .ref b4, .ref b5, .ref b6, .ref b7, .ref b8, .ref b9, .ref b10])), (b1, .inr (4, [.ref c1])), (c1, .inl (eI E, 265, .inl f_4)), (b3, .inr (1, [.ref c3, .int (nI od_1), .int (nI (pushN cnt))])), (c3, .inl (eI E, 3710, .inl D_2))] [(4, .int (mI (sR σ p n))), (0, .ref hB), (1, .int (nI p)), (2, .int (nI a)), (3, .int (nI n))] [.int (bP (p < sP σ ∧ n < 20 ∧ a < sA σ))] 56
  refine r_pop C dX5_cast_56 rfl ?_
  refine r_iload C (i := 4) 0 dX5_cast_57 rfl ?_
  exact RT.1 _ _ _ _ _ dX5_cast_59 rfl rfl (⟨_, _, _, rfl, rfl, (by have e : tCast σ p (a + 1) n = oCast σ p (a + 1) n := if_pos ⟨hp, hn, ha⟩; exact e ▸ hR_5), hH_3⟩) rfl
set_option maxRecDepth 100000 in
set_option maxHeartbeats 1000000 in
theorem c_X5_cast__m {l : Launch} {E : Ev} {hB b1 b2 b3 b4 b5 b6 b7 b8 b9 b10 : Nat} {c1 : Nat} {f : Nat → Int32} {σ : Sg} (hR : RepC σ f) (hW : Wf σ) {c3 od cnt : Nat} {D : Nat → Int32} {hs : Nat → Sg} (hH : HistC hs cnt od D) {p x n : Nat} (hp : p < sP σ) (hx : x ≤ sA σ) (hn : n < 20) : Ct l E yX5_cast cX5_cast 5 (some FieldType.int) 6 90 [.ref hB, .int (nI p), .int (mI x), .int (nI n)] [(hB, .inr (5, [.ref b1, .ref b2, .ref b3, .ref b4, .ref b5, .ref b6, .ref b7, .ref b8, .ref b9, .ref b10])), (b1, .inr (4, [.ref c1])), (c1, .inl (eI E, 265, .inl f)), (b3, .inr (1, [.ref c3, .int (nI od), .int (nI cnt)])), (c3, .inl (eI E, 3710, .inl D))] (fun v9 w9 => ∃ (f2 : Nat → Int32) (od2 : Nat) (D2 : Nat → Int32), v9 = some (.int (mI (sR σ p n))) ∧ w9 = [(hB, .inr (5, [.ref b1, .ref b2, .ref b3, .ref b4, .ref b5, .ref b6, .ref b7, .ref b8, .ref b9, .ref b10])), (b1, .inr (4, [.ref c1])), (c1, .inl (eI E, 265, .inl f2)), (b3, .inr (1, [.ref c3, .int (nI od2), .int (nI (pushN cnt))])), (c3, .inl (eI E, 3710, .inl D2))] ∧ RepC (oCast σ p x n) f2 ∧ HistC (pushH hs cnt σ) (pushN cnt) od2 D2) := by
  have hwP := hW.P
  have hwA := hW.A
  have hwS := hW.S
  refine ct_of (by decide +kernel) (Nat.le_of_ble_eq_true rfl) (fun ω C RT => ?_)
  show ω [(hB, .inr (5, [.ref b1, .ref b2, .ref b3, .ref b4, .ref b5, .ref b6, .ref b7, .ref b8, .ref b9, .ref b10])), (b1, .inr (4, [.ref c1])), (c1, .inl (eI E, 265, .inl f)), (b3, .inr (1, [.ref c3, .int (nI od), .int (nI cnt)])), (c3, .inl (eI E, 3710, .inl D))] [(0, .ref hB), (1, .int (nI p)), (2, .int (mI x)), (3, .int (nI n))] [] 0
  refine r_aload_n C (i := 0) 0 dX5_cast_0 rfl rfl ?_
  refine r_get C 0 0 uX5 rfl rfl (by decide) w_1_128 rfl dX5_cast_1 ?_
  refine r_iload_n C (i := 1) 1 dX5_cast_4 rfl rfl ?_
  refine r_iload_n C (i := 2) 2 dX5_cast_5 rfl rfl ?_
  refine r_iload_n C (i := 3) 3 dX5_cast_6 rfl rfl ?_
  refine r_readV (rest := []) C (c_X4_canRecast (h0 := b1) (q1 := c1) (f := f) (σ := σ) (p := p) (x := x) (n := n) (hR := hR) (hW := hW) (hp := (by omega)) (hx := (by omega)) (hn := (by omega))) lk_X4_canRecast w_4_85 [1, 2] rfl dX5_cast_7 rfl rfl rfl rfl ⟨by decide, by decide⟩ (Nat.le_of_ble_eq_true rfl) (st' := [.int (bP (p < sP σ ∧ n < 20 ∧ x ≤ sA σ))]) rfl ?_
  refine r_if_neT C (y := 0) 24 dX5_cast_10 (by decide) (z_neB.mpr (by omega)) ?_
  refine r_aload_n C (i := 0) 0 dX5_cast_24 rfl rfl ?_
  refine r_get C 0 2 uX5 rfl rfl (by decide) w_1_130 rfl dX5_cast_25 ?_
  refine r_aload_n C (i := 0) 0 dX5_cast_28 rfl rfl ?_
  refine r_get C 0 0 uX5 rfl rfl (by decide) w_1_128 rfl dX5_cast_29 ?_
  refine r_callV (rest := []) C (c_X1_remember (hh := b3) (hr := c3) (od := od) (cnt := cnt) (h0 := b1) (q1 := c1) (f := f) (σ := σ) (hs := hs) (D := D) (hH := hH) (hR := hR) (hW := hW)) lk_X1_remember w_2_13 [3, 4, 1, 2] rfl dX5_cast_32 rfl rfl rfl rfl ⟨by decide, by decide⟩ (Nat.le_of_ble_eq_true rfl) ?_
  rintro _ _ ⟨od_1, D_2, rfl, rfl, hH_3⟩
  show ω [(hB, .inr (5, [.ref b1, .ref b2, .ref b3, .ref b4, .ref b5, .ref b6, .ref b7, .ref b8, .ref b9, .ref b10])), (b1, .inr (4, [.ref c1])), (c1, .inl (eI E, 265, .inl f)), (b3, .inr (1, [.ref c3, .int (nI od_1), .int (nI (pushN cnt))])), (c3, .inl (eI E, 3710, .inl D_2))] [(0, .ref hB), (1, .int (nI p)), (2, .int (mI x)), (3, .int (nI n))] [] 35
  refine r_aload_n C (i := 0) 0 dX5_cast_35 rfl rfl ?_
  refine r_get C 0 0 uX5 rfl rfl (by decide) w_1_128 rfl dX5_cast_36 ?_
  refine r_iload_n C (i := 1) 1 dX5_cast_39 rfl rfl ?_
  refine r_iload_n C (i := 3) 3 dX5_cast_40 rfl rfl ?_
  refine r_readV (rest := []) C (c_X4_principal (h0 := b1) (q1 := c1) (f := f) (σ := σ) (p := p) (n := n) (hR := hR) (hW := hW) (hp := (by omega)) (hn := (by omega))) lk_X4_principal w_3_197 [1, 2] rfl dX5_cast_41 rfl rfl rfl rfl ⟨by decide, by decide⟩ (Nat.le_of_ble_eq_true rfl) (st' := [.int (mI (sR σ p n))]) rfl ?_
  refine r_istore C (lv' := [(4, .int (mI (sR σ p n))), (0, .ref hB), (1, .int (nI p)), (2, .int (mI x)), (3, .int (nI n))]) dX5_cast_44 (by decide) rfl ?_
  refine r_aload_n C (i := 0) 1 dX5_cast_46 rfl rfl ?_
  refine r_get C 0 0 uX5 rfl rfl (by decide) w_1_128 rfl dX5_cast_47 ?_
  refine r_iload_n C (i := 1) 2 dX5_cast_50 rfl rfl ?_
  refine r_iload_n C (i := 2) 3 dX5_cast_51 rfl rfl ?_
  refine r_iload_n C (i := 3) 4 dX5_cast_52 rfl rfl ?_
  refine r_callV (rest := []) C (c_X4_recast (h0 := b1) (q1 := c1) (f := f) (σ := σ) (p := p) (x := x) (n := n) (hR := hR) (hW := hW) (hp := (by omega)) (hx := (by omega)) (hn := (by omega))) lk_X4_recast w_2_239 [1, 2] rfl dX5_cast_53 rfl rfl rfl rfl ⟨by decide, by decide⟩ (Nat.le_of_ble_eq_true rfl) ?_
  rintro _ _ ⟨f_4, rfl, rfl, hR_5⟩
  have hW_6 : Wf (tCast σ p x n) := tCast_wf hW
  show ω [(hB, .inr (5, [.ref b1, .ref b2, .ref b3, .ref b4, .ref b5, .ref b6, .ref b7, .ref b8, .ref b9, .ref b10])), (b1, .inr (4, [.ref c1])), (c1, .inl (eI E, 265, .inl f_4)), (b3, .inr (1, [.ref c3, .int (nI od_1), .int (nI (pushN cnt))])), (c3, .inl (eI E, 3710, .inl D_2))] [(4, .int (mI (sR σ p n))), (0, .ref hB), (1, .int (nI p)), (2, .int (mI x)), (3, .int (nI n))] [.int (bP (p < sP σ ∧ n < 20 ∧ x ≤ sA σ))] 56
  refine r_pop C dX5_cast_56 rfl ?_
  refine r_iload C (i := 4) 0 dX5_cast_57 rfl ?_
  exact RT.1 _ _ _ _ _ dX5_cast_59 rfl rfl (⟨_, _, _, rfl, rfl, (by have e : tCast σ p x n = oCast σ p x n := if_pos ⟨hp, hn, hx⟩; exact e ▸ hR_5), hH_3⟩) rfl
set_option maxRecDepth 100000 in
set_option maxHeartbeats 1000000 in
theorem c_X5_understudy {l : Launch} {E : Ev} {hB b1 b2 b3 b4 b5 b6 b7 b8 b9 b10 : Nat} {c1 : Nat} {f : Nat → Int32} {σ : Sg} (hR : RepC σ f) (hW : Wf σ) {c3 od cnt : Nat} {D : Nat → Int32} {hs : Nat → Sg} (hH : HistC hs cnt od D) {p a : Nat} (hp : p < sP σ) (ha : a < sA σ) (hC : sC σ p < 4) (hrk : rk σ p a = 0) : Ct l E yX5_understudy cX5_understudy 3 (some FieldType.int) 7 111 [.ref hB, .int (nI p), .int (nI a)] [(hB, .inr (5, [.ref b1, .ref b2, .ref b3, .ref b4, .ref b5, .ref b6, .ref b7, .ref b8, .ref b9, .ref b10])), (b1, .inr (4, [.ref c1])), (c1, .inl (eI E, 265, .inl f)), (b3, .inr (1, [.ref c3, .int (nI od), .int (nI cnt)])), (c3, .inl (eI E, 3710, .inl D))] (fun v9 w9 => ∃ (f2 : Nat → Int32) (od2 : Nat) (D2 : Nat → Int32), v9 = some (.int (nI (sC σ p + 1))) ∧ w9 = [(hB, .inr (5, [.ref b1, .ref b2, .ref b3, .ref b4, .ref b5, .ref b6, .ref b7, .ref b8, .ref b9, .ref b10])), (b1, .inr (4, [.ref c1])), (c1, .inl (eI E, 265, .inl f2)), (b3, .inr (1, [.ref c3, .int (nI od2), .int (nI (pushN cnt))])), (c3, .inl (eI E, 3710, .inl D2))] ∧ RepC (oStudy σ p a) f2 ∧ HistC (pushH hs cnt σ) (pushN cnt) od2 D2) := by
  have hwP := hW.P
  have hwA := hW.A
  have hwS := hW.S
  refine ct_of (by decide +kernel) (Nat.le_of_ble_eq_true rfl) (fun ω C RT => ?_)
  show ω [(hB, .inr (5, [.ref b1, .ref b2, .ref b3, .ref b4, .ref b5, .ref b6, .ref b7, .ref b8, .ref b9, .ref b10])), (b1, .inr (4, [.ref c1])), (c1, .inl (eI E, 265, .inl f)), (b3, .inr (1, [.ref c3, .int (nI od), .int (nI cnt)])), (c3, .inl (eI E, 3710, .inl D))] [(0, .ref hB), (1, .int (nI p)), (2, .int (nI a))] [] 0
  refine r_aload_n C (i := 0) 0 dX5_understudy_0 rfl rfl ?_
  refine r_iload_n C (i := 1) 1 dX5_understudy_1 rfl rfl ?_
  refine r_readV (rest := []) C (c_X5_requirePart (hB := hB) (b1 := b1) (b2 := b2) (b3 := b3) (b4 := b4) (b5 := b5) (b6 := b6) (b7 := b7) (b8 := b8) (b9 := b9) (b10 := b10) (c1 := c1) (f := f) (σ := σ) (p := p) (hR := hR) (hW := hW) (hx := (by omega))) lk_X5_requirePart w_3_183 [0, 1, 2] rfl dX5_understudy_2 rfl rfl rfl rfl ⟨by decide, by decide⟩ (Nat.le_of_ble_eq_true rfl) (st' := []) rfl ?_
  refine r_aload_n C (i := 0) 0 dX5_understudy_5 rfl rfl ?_
  refine r_iload_n C (i := 2) 2 dX5_understudy_6 rfl rfl ?_
  refine r_readV (rest := []) C (c_X5_requireActor (hB := hB) (b1 := b1) (b2 := b2) (b3 := b3) (b4 := b4) (b5 := b5) (b6 := b6) (b7 := b7) (b8 := b8) (b9 := b9) (b10 := b10) (c1 := c1) (f := f) (σ := σ) (a := a) (hR := hR) (hW := hW) (hx := (by omega))) lk_X5_requireActor w_1_167 [0, 1, 2] rfl dX5_understudy_7 rfl rfl rfl rfl ⟨by decide, by decide⟩ (Nat.le_of_ble_eq_true rfl) (st' := []) rfl ?_
  refine r_aload_n C (i := 0) 0 dX5_understudy_10 rfl rfl ?_
  refine r_get C 0 0 uX5 rfl rfl (by decide) w_1_128 rfl dX5_understudy_11 ?_
  refine r_iload_n C (i := 1) 1 dX5_understudy_14 rfl rfl ?_
  refine r_iload_n C (i := 2) 2 dX5_understudy_15 rfl rfl ?_
  refine r_readV (rest := []) C (c_X4_canAddUnderstudy (h0 := b1) (q1 := c1) (f := f) (σ := σ) (p := p) (a := a) (hR := hR) (hW := hW) (hp := (by omega)) (ha := (by omega))) lk_X4_canAddUnderstudy w_4_94 [1, 2] rfl dX5_understudy_16 rfl rfl rfl rfl ⟨by decide, by decide⟩ (Nat.le_of_ble_eq_true rfl) (st' := [.int (bP (p < sP σ ∧ a < sA σ ∧ sC σ p < 4 ∧ rk σ p a = 0))]) rfl ?_
  refine r_if_neT C (y := 0) 33 dX5_understudy_19 (by decide) (z_neB.mpr (by omega)) ?_
  refine r_aload_n C (i := 0) 0 dX5_understudy_33 rfl rfl ?_
  refine r_get C 0 2 uX5 rfl rfl (by decide) w_1_130 rfl dX5_understudy_34 ?_
  refine r_aload_n C (i := 0) 0 dX5_understudy_37 rfl rfl ?_
  refine r_get C 0 0 uX5 rfl rfl (by decide) w_1_128 rfl dX5_understudy_38 ?_
  refine r_callV (rest := []) C (c_X1_remember (hh := b3) (hr := c3) (od := od) (cnt := cnt) (h0 := b1) (q1 := c1) (f := f) (σ := σ) (hs := hs) (D := D) (hH := hH) (hR := hR) (hW := hW)) lk_X1_remember w_2_13 [3, 4, 1, 2] rfl dX5_understudy_41 rfl rfl rfl rfl ⟨by decide, by decide⟩ (Nat.le_of_ble_eq_true rfl) ?_
  rintro _ _ ⟨od_1, D_2, rfl, rfl, hH_3⟩
  show ω [(hB, .inr (5, [.ref b1, .ref b2, .ref b3, .ref b4, .ref b5, .ref b6, .ref b7, .ref b8, .ref b9, .ref b10])), (b1, .inr (4, [.ref c1])), (c1, .inl (eI E, 265, .inl f)), (b3, .inr (1, [.ref c3, .int (nI od_1), .int (nI (pushN cnt))])), (c3, .inl (eI E, 3710, .inl D_2))] [(0, .ref hB), (1, .int (nI p)), (2, .int (nI a))] [] 44
  refine r_aload_n C (i := 0) 0 dX5_understudy_44 rfl rfl ?_
  refine r_get C 0 0 uX5 rfl rfl (by decide) w_1_128 rfl dX5_understudy_45 ?_
  refine r_iload_n C (i := 1) 1 dX5_understudy_48 rfl rfl ?_
  refine r_iload_n C (i := 2) 2 dX5_understudy_49 rfl rfl ?_
  refine r_callV (rest := []) C (c_X4_addUnderstudy (h0 := b1) (q1 := c1) (f := f) (σ := σ) (p := p) (a := a) (hR := hR) (hW := hW) (hp := (by omega)) (ha := (by omega))) lk_X4_addUnderstudy w_3_0 [1, 2] rfl dX5_understudy_50 rfl rfl rfl rfl ⟨by decide, by decide⟩ (Nat.le_of_ble_eq_true rfl) ?_
  rintro _ _ ⟨f_4, rfl, rfl, hR_5⟩
  have hW_6 : Wf (tStudy σ p a) := tStudy_wf hW
  show ω [(hB, .inr (5, [.ref b1, .ref b2, .ref b3, .ref b4, .ref b5, .ref b6, .ref b7, .ref b8, .ref b9, .ref b10])), (b1, .inr (4, [.ref c1])), (c1, .inl (eI E, 265, .inl f_4)), (b3, .inr (1, [.ref c3, .int (nI od_1), .int (nI (pushN cnt))])), (c3, .inl (eI E, 3710, .inl D_2))] [(0, .ref hB), (1, .int (nI p)), (2, .int (nI a))] [.int (bP (p < sP σ ∧ a < sA σ ∧ sC σ p < 4 ∧ rk σ p a = 0))] 53
  refine r_pop C dX5_understudy_53 rfl ?_
  have hwf7 : Wf (tStudy σ p a) := tStudy_wf hW
  have hpS : p < sP (tStudy σ p a) := by rw [show tStudy σ p a = oStudy σ p a from if_pos ⟨hp, ha, hC, hrk⟩]; exact hp
  refine r_aload_n C (i := 0) 0 dX5_understudy_54 rfl rfl ?_
  refine r_get C 0 0 uX5 rfl rfl (by decide) w_1_128 rfl dX5_understudy_55 ?_
  refine r_iload_n C (i := 1) 1 dX5_understudy_58 rfl rfl ?_
  refine r_readV (rest := []) C (c_X4_understudies (h0 := b1) (q1 := c1) (f := f_4) (σ := (tStudy σ p a)) (p := p) (hR := hR_5) (hW := hwf7) (hp := hpS)) lk_X4_understudies w_4_96 [1, 2] rfl dX5_understudy_59 rfl rfl rfl rfl ⟨by decide, by decide⟩ (Nat.le_of_ble_eq_true rfl) (st' := [.int (nI (sC (tStudy σ p a) p))]) rfl ?_
  have hc2 : sC (tStudy σ p a) p = sC σ p + 1 := by rw [show tStudy σ p a = oStudy σ p a from if_pos ⟨hp, ha, hC, hrk⟩, study_C, if_pos rfl]
  exact RT.1 _ _ _ _ _ dX5_understudy_62 rfl rfl (⟨_, _, _, sv (congrArg nI hc2), rfl, (by have e : tStudy σ p a = oStudy σ p a := if_pos ⟨hp, ha, hC, hrk⟩; exact e ▸ hR_5), hH_3⟩) rfl
set_option maxRecDepth 100000 in
set_option maxHeartbeats 1000000 in
theorem c_X5_release {l : Launch} {E : Ev} {hB b1 b2 b3 b4 b5 b6 b7 b8 b9 b10 : Nat} {c1 : Nat} {f : Nat → Int32} {σ : Sg} (hR : RepC σ f) (hW : Wf σ) {c3 od cnt : Nat} {D : Nat → Int32} {hs : Nat → Sg} (hH : HistC hs cnt od D) {p a : Nat} (hp : p < sP σ) (ha : a < sA σ) (hrk : rk σ p a ≠ 0) : Ct l E yX5_release cX5_release 4 (some FieldType.int) 7 111 [.ref hB, .int (nI p), .int (nI a)] [(hB, .inr (5, [.ref b1, .ref b2, .ref b3, .ref b4, .ref b5, .ref b6, .ref b7, .ref b8, .ref b9, .ref b10])), (b1, .inr (4, [.ref c1])), (c1, .inl (eI E, 265, .inl f)), (b3, .inr (1, [.ref c3, .int (nI od), .int (nI cnt)])), (c3, .inl (eI E, 3710, .inl D))] (fun v9 w9 => ∃ (f2 : Nat → Int32) (od2 : Nat) (D2 : Nat → Int32), v9 = some (.int (nI (rk σ p a - 1))) ∧ w9 = [(hB, .inr (5, [.ref b1, .ref b2, .ref b3, .ref b4, .ref b5, .ref b6, .ref b7, .ref b8, .ref b9, .ref b10])), (b1, .inr (4, [.ref c1])), (c1, .inl (eI E, 265, .inl f2)), (b3, .inr (1, [.ref c3, .int (nI od2), .int (nI (pushN cnt))])), (c3, .inl (eI E, 3710, .inl D2))] ∧ RepC (oRel σ p (rk σ p a - 1)) f2 ∧ HistC (pushH hs cnt σ) (pushN cnt) od2 D2) := by
  have hwP := hW.P
  have hwA := hW.A
  have hwS := hW.S
  have hrl := rk_le σ p a
  have hwC := hW.C hp
  refine ct_of (by decide +kernel) (Nat.le_of_ble_eq_true rfl) (fun ω C RT => ?_)
  show ω [(hB, .inr (5, [.ref b1, .ref b2, .ref b3, .ref b4, .ref b5, .ref b6, .ref b7, .ref b8, .ref b9, .ref b10])), (b1, .inr (4, [.ref c1])), (c1, .inl (eI E, 265, .inl f)), (b3, .inr (1, [.ref c3, .int (nI od), .int (nI cnt)])), (c3, .inl (eI E, 3710, .inl D))] [(0, .ref hB), (1, .int (nI p)), (2, .int (nI a))] [] 0
  refine r_aload_n C (i := 0) 0 dX5_release_0 rfl rfl ?_
  refine r_iload_n C (i := 1) 1 dX5_release_1 rfl rfl ?_
  refine r_readV (rest := []) C (c_X5_requirePart (hB := hB) (b1 := b1) (b2 := b2) (b3 := b3) (b4 := b4) (b5 := b5) (b6 := b6) (b7 := b7) (b8 := b8) (b9 := b9) (b10 := b10) (c1 := c1) (f := f) (σ := σ) (p := p) (hR := hR) (hW := hW) (hx := (by omega))) lk_X5_requirePart w_3_183 [0, 1, 2] rfl dX5_release_2 rfl rfl rfl rfl ⟨by decide, by decide⟩ (Nat.le_of_ble_eq_true rfl) (st' := []) rfl ?_
  refine r_aload_n C (i := 0) 0 dX5_release_5 rfl rfl ?_
  refine r_iload_n C (i := 2) 2 dX5_release_6 rfl rfl ?_
  refine r_readV (rest := []) C (c_X5_requireActor (hB := hB) (b1 := b1) (b2 := b2) (b3 := b3) (b4 := b4) (b5 := b5) (b6 := b6) (b7 := b7) (b8 := b8) (b9 := b9) (b10 := b10) (c1 := c1) (f := f) (σ := σ) (a := a) (hR := hR) (hW := hW) (hx := (by omega))) lk_X5_requireActor w_1_167 [0, 1, 2] rfl dX5_release_7 rfl rfl rfl rfl ⟨by decide, by decide⟩ (Nat.le_of_ble_eq_true rfl) (st' := []) rfl ?_
  refine r_aload_n C (i := 0) 0 dX5_release_10 rfl rfl ?_
  refine r_get C 0 0 uX5 rfl rfl (by decide) w_1_128 rfl dX5_release_11 ?_
  refine r_iload_n C (i := 1) 1 dX5_release_14 rfl rfl ?_
  refine r_iload_n C (i := 2) 2 dX5_release_15 rfl rfl ?_
  refine r_readV (rest := []) C (c_X4_rankOf (h0 := b1) (q1 := c1) (f := f) (σ := σ) (p := p) (a := a) (hR := hR) (hW := hW) (hp := (by omega)) (ha := (by omega))) lk_X4_rankOf w_4_104 [1, 2] rfl dX5_release_16 rfl rfl rfl rfl ⟨by decide, by decide⟩ (Nat.le_of_ble_eq_true rfl) (st' := [.int (mI (rk σ p a))]) rfl ?_
  refine r_istore_n C (lv' := [(3, .int (mI (rk σ p a))), (0, .ref hB), (1, .int (nI p)), (2, .int (nI a))]) dX5_release_19 rfl (by decide) rfl ?_
  refine r_iload_n C (i := 3) 0 dX5_release_20 rfl rfl ?_
  refine r_iconst C dX5_release_21 ki_m1 ?_
  refine r_icmp_neT C 36 dX5_release_22 (by decide) ((c_neMM (by omega) (by omega)).mpr (by omega)) ?_
  refine r_aload_n C (i := 0) 1 dX5_release_36 rfl rfl ?_
  refine r_get C 0 2 uX5 rfl rfl (by decide) w_1_130 rfl dX5_release_37 ?_
  refine r_aload_n C (i := 0) 1 dX5_release_40 rfl rfl ?_
  refine r_get C 0 0 uX5 rfl rfl (by decide) w_1_128 rfl dX5_release_41 ?_
  refine r_callV (rest := []) C (c_X1_remember (hh := b3) (hr := c3) (od := od) (cnt := cnt) (h0 := b1) (q1 := c1) (f := f) (σ := σ) (hs := hs) (D := D) (hH := hH) (hR := hR) (hW := hW)) lk_X1_remember w_2_13 [3, 4, 1, 2] rfl dX5_release_44 rfl rfl rfl rfl ⟨by decide, by decide⟩ (Nat.le_of_ble_eq_true rfl) ?_
  rintro _ _ ⟨od_1, D_2, rfl, rfl, hH_3⟩
  show ω [(hB, .inr (5, [.ref b1, .ref b2, .ref b3, .ref b4, .ref b5, .ref b6, .ref b7, .ref b8, .ref b9, .ref b10])), (b1, .inr (4, [.ref c1])), (c1, .inl (eI E, 265, .inl f)), (b3, .inr (1, [.ref c3, .int (nI od_1), .int (nI (pushN cnt))])), (c3, .inl (eI E, 3710, .inl D_2))] [(3, .int (mI (rk σ p a))), (0, .ref hB), (1, .int (nI p)), (2, .int (nI a))] [] 47
  refine r_aload_n C (i := 0) 1 dX5_release_47 rfl rfl ?_
  refine r_get C 0 0 uX5 rfl rfl (by decide) w_1_128 rfl dX5_release_48 ?_
  refine r_iload_n C (i := 1) 2 dX5_release_51 rfl rfl ?_
  refine r_iload_n C (i := 2) 3 dX5_release_52 rfl rfl ?_
  refine r_callV (rest := []) C (c_X4_dropUnderstudy (h0 := b1) (q1 := c1) (f := f) (σ := σ) (p := p) (a := a) (hR := hR) (hW := hW) (hp := (by omega)) (ha := (by omega))) lk_X4_dropUnderstudy w_4_106 [1, 2] rfl dX5_release_53 rfl rfl rfl rfl ⟨by decide, by decide⟩ (Nat.le_of_ble_eq_true rfl) ?_
  rintro _ _ ⟨f_4, rfl, rfl, hR_5⟩
  have hW_6 : Wf (tRel σ p a) := tRel_wf hW
  show ω [(hB, .inr (5, [.ref b1, .ref b2, .ref b3, .ref b4, .ref b5, .ref b6, .ref b7, .ref b8, .ref b9, .ref b10])), (b1, .inr (4, [.ref c1])), (c1, .inl (eI E, 265, .inl f_4)), (b3, .inr (1, [.ref c3, .int (nI od_1), .int (nI (pushN cnt))])), (c3, .inl (eI E, 3710, .inl D_2))] [(3, .int (mI (rk σ p a))), (0, .ref hB), (1, .int (nI p)), (2, .int (nI a))] [.int (bP (p < sP σ ∧ a < sA σ ∧ rk σ p a ≠ 0))] 56
  refine r_pop C dX5_release_56 rfl ?_
  refine r_iload_n C (i := 3) 0 dX5_release_57 rfl rfl ?_
  exact RT.1 _ _ _ _ _ dX5_release_58 rfl rfl (⟨_, _, _, sv (by rw [show rk σ p a = rk σ p a - 1 + 1 from by omega, mI_s, Nat.add_sub_cancel]), rfl, (by have e : tRel σ p a = oRel σ p (rk σ p a - 1) := if_pos ⟨hp, ha, hrk⟩; exact e ▸ hR_5), hH_3⟩) rfl
set_option maxRecDepth 100000 in
set_option maxHeartbeats 1000000 in
theorem c_X5_ill {l : Launch} {E : Ev} {hB b1 b2 b3 b4 b5 b6 b7 b8 b9 b10 : Nat} {c1 : Nat} {f : Nat → Int32} {σ : Sg} (hR : RepC σ f) (hW : Wf σ) {c3 od cnt : Nat} {D : Nat → Int32} {hs : Nat → Sg} (hH : HistC hs cnt od D) {a n b : Nat} (ha : a < sA σ) (hn : n < 20) (hb : b ≤ 1) : Ct l E yX5_ill cX5_ill 4 (some FieldType.int) 7 111 [.ref hB, .int (nI a), .int (nI n), .int (nI b)] [(hB, .inr (5, [.ref b1, .ref b2, .ref b3, .ref b4, .ref b5, .ref b6, .ref b7, .ref b8, .ref b9, .ref b10])), (b1, .inr (4, [.ref c1])), (c1, .inl (eI E, 265, .inl f)), (b3, .inr (1, [.ref c3, .int (nI od), .int (nI cnt)])), (c3, .inl (eI E, 3710, .inl D))] (fun v9 w9 => ∃ (f2 : Nat → Int32) (od2 : Nat) (D2 : Nat → Int32), v9 = some (.int (nI (cntI (oIll σ a n b) a 20))) ∧ w9 = [(hB, .inr (5, [.ref b1, .ref b2, .ref b3, .ref b4, .ref b5, .ref b6, .ref b7, .ref b8, .ref b9, .ref b10])), (b1, .inr (4, [.ref c1])), (c1, .inl (eI E, 265, .inl f2)), (b3, .inr (1, [.ref c3, .int (nI od2), .int (nI (pushN cnt))])), (c3, .inl (eI E, 3710, .inl D2))] ∧ RepC (oIll σ a n b) f2 ∧ HistC (pushH hs cnt σ) (pushN cnt) od2 D2) := by
  have hwP := hW.P
  have hwA := hW.A
  have hwS := hW.S
  refine ct_of (by decide +kernel) (Nat.le_of_ble_eq_true rfl) (fun ω C RT => ?_)
  show ω [(hB, .inr (5, [.ref b1, .ref b2, .ref b3, .ref b4, .ref b5, .ref b6, .ref b7, .ref b8, .ref b9, .ref b10])), (b1, .inr (4, [.ref c1])), (c1, .inl (eI E, 265, .inl f)), (b3, .inr (1, [.ref c3, .int (nI od), .int (nI cnt)])), (c3, .inl (eI E, 3710, .inl D))] [(0, .ref hB), (1, .int (nI a)), (2, .int (nI n)), (3, .int (nI b))] [] 0
  refine r_aload_n C (i := 0) 0 dX5_ill_0 rfl rfl ?_
  refine r_iload_n C (i := 1) 1 dX5_ill_1 rfl rfl ?_
  refine r_readV (rest := []) C (c_X5_requireActor (hB := hB) (b1 := b1) (b2 := b2) (b3 := b3) (b4 := b4) (b5 := b5) (b6 := b6) (b7 := b7) (b8 := b8) (b9 := b9) (b10 := b10) (c1 := c1) (f := f) (σ := σ) (a := a) (hR := hR) (hW := hW) (hx := (by omega))) lk_X5_requireActor w_1_167 [0, 1, 2] rfl dX5_ill_2 rfl rfl rfl rfl ⟨by decide, by decide⟩ (Nat.le_of_ble_eq_true rfl) (st' := []) rfl ?_
  refine r_iload_n C (i := 2) 2 dX5_ill_5 rfl rfl ?_
  refine r_readS (rest := []) C (c_X5_requireNight (n := n) (hn := (by omega))) lk_X5_requireNight w_2_3 [] dX5_ill_6 rfl rfl rfl ⟨by decide, by decide⟩ (Nat.le_of_ble_eq_true rfl) (st' := []) rfl ?_
  refine r_aload_n C (i := 0) 0 dX5_ill_9 rfl rfl ?_
  refine r_get C 0 2 uX5 rfl rfl (by decide) w_1_130 rfl dX5_ill_10 ?_
  refine r_aload_n C (i := 0) 0 dX5_ill_13 rfl rfl ?_
  refine r_get C 0 0 uX5 rfl rfl (by decide) w_1_128 rfl dX5_ill_14 ?_
  refine r_callV (rest := []) C (c_X1_remember (hh := b3) (hr := c3) (od := od) (cnt := cnt) (h0 := b1) (q1 := c1) (f := f) (σ := σ) (hs := hs) (D := D) (hH := hH) (hR := hR) (hW := hW)) lk_X1_remember w_2_13 [3, 4, 1, 2] rfl dX5_ill_17 rfl rfl rfl rfl ⟨by decide, by decide⟩ (Nat.le_of_ble_eq_true rfl) ?_
  rintro _ _ ⟨od_1, D_2, rfl, rfl, hH_3⟩
  show ω [(hB, .inr (5, [.ref b1, .ref b2, .ref b3, .ref b4, .ref b5, .ref b6, .ref b7, .ref b8, .ref b9, .ref b10])), (b1, .inr (4, [.ref c1])), (c1, .inl (eI E, 265, .inl f)), (b3, .inr (1, [.ref c3, .int (nI od_1), .int (nI (pushN cnt))])), (c3, .inl (eI E, 3710, .inl D_2))] [(0, .ref hB), (1, .int (nI a)), (2, .int (nI n)), (3, .int (nI b))] [] 20
  refine r_aload_n C (i := 0) 0 dX5_ill_20 rfl rfl ?_
  refine r_get C 0 0 uX5 rfl rfl (by decide) w_1_128 rfl dX5_ill_21 ?_
  refine r_iload_n C (i := 1) 1 dX5_ill_24 rfl rfl ?_
  refine r_iload_n C (i := 2) 2 dX5_ill_25 rfl rfl ?_
  refine r_iload_n C (i := 3) 3 dX5_ill_26 rfl rfl ?_
  refine r_callV (rest := []) C (c_X4_changeIllness (h0 := b1) (q1 := c1) (f := f) (σ := σ) (a := a) (n := n) (b := b) (hR := hR) (hW := hW) (ha := (by omega)) (hn := (by omega)) (hb := (by omega))) lk_X4_changeIllness w_2_27 [1, 2] rfl dX5_ill_27 rfl rfl rfl rfl ⟨by decide, by decide⟩ (Nat.le_of_ble_eq_true rfl) ?_
  rintro _ _ ⟨f_4, rfl, rfl, hR_5⟩
  have hW_6 : Wf (tIll σ a n b) := tIll_wf hW (by omega)
  show ω [(hB, .inr (5, [.ref b1, .ref b2, .ref b3, .ref b4, .ref b5, .ref b6, .ref b7, .ref b8, .ref b9, .ref b10])), (b1, .inr (4, [.ref c1])), (c1, .inl (eI E, 265, .inl f_4)), (b3, .inr (1, [.ref c3, .int (nI od_1), .int (nI (pushN cnt))])), (c3, .inl (eI E, 3710, .inl D_2))] [(0, .ref hB), (1, .int (nI a)), (2, .int (nI n)), (3, .int (nI b))] [.int (bP (a < sA σ ∧ n < 20))] 30
  refine r_pop C dX5_ill_30 rfl ?_
  have hwf7 : Wf (tIll σ a n b) := tIll_wf hW hb
  refine r_aload_n C (i := 0) 0 dX5_ill_31 rfl rfl ?_
  refine r_get C 0 0 uX5 rfl rfl (by decide) w_1_128 rfl dX5_ill_32 ?_
  refine r_iload_n C (i := 1) 1 dX5_ill_35 rfl rfl ?_
  refine r_readV (rest := []) C (c_X4_illNights (h0 := b1) (q1 := c1) (f := f_4) (σ := (tIll σ a n b)) (a := a) (hR := hR_5) (hW := hwf7) (ha := (by omega))) lk_X4_illNights w_2_33 [1, 2] rfl dX5_ill_36 rfl rfl rfl rfl ⟨by decide, by decide⟩ (Nat.le_of_ble_eq_true rfl) (st' := [.int (nI (cntI (tIll σ a n b) a 20))]) rfl ?_
  exact RT.1 _ _ _ _ _ dX5_ill_39 rfl rfl (⟨_, _, _, sv (by rw [show tIll σ a n b = oIll σ a n b from if_pos ⟨ha, hn⟩]), rfl, (by have e : tIll σ a n b = oIll σ a n b := if_pos ⟨ha, hn⟩; exact e ▸ hR_5), hH_3⟩) rfl
set_option maxRecDepth 100000 in
set_option maxHeartbeats 1000000 in
theorem c_X5_slip {l : Launch} {E : Ev} {hB b1 b2 b3 b4 b5 b6 b7 b8 b9 b10 : Nat} {c1 : Nat} {f : Nat → Int32} {σ : Sg} (hR : RepC σ f) (hW : Wf σ) {c3 od cnt : Nat} {D : Nat → Int32} {hs : Nat → Sg} (hH : HistC hs cnt od D) {n p a x : Nat} (hn : n < 20) (hp : p < sP σ) (ha : a < sA σ) (hx : x < 24) (hS : sS σ < 20) : Ct l E yX5_slip cX5_slip 6 (some FieldType.int) 7 111 [.ref hB, .int (nI n), .int (nI p), .int (nI a), .int (nI x)] [(hB, .inr (5, [.ref b1, .ref b2, .ref b3, .ref b4, .ref b5, .ref b6, .ref b7, .ref b8, .ref b9, .ref b10])), (b1, .inr (4, [.ref c1])), (c1, .inl (eI E, 265, .inl f)), (b3, .inr (1, [.ref c3, .int (nI od), .int (nI cnt)])), (c3, .inl (eI E, 3710, .inl D))] (fun v9 w9 => ∃ (f2 : Nat → Int32) (od2 : Nat) (D2 : Nat → Int32), v9 = some (.int (nI (sS σ))) ∧ w9 = [(hB, .inr (5, [.ref b1, .ref b2, .ref b3, .ref b4, .ref b5, .ref b6, .ref b7, .ref b8, .ref b9, .ref b10])), (b1, .inr (4, [.ref c1])), (c1, .inl (eI E, 265, .inl f2)), (b3, .inr (1, [.ref c3, .int (nI od2), .int (nI (pushN cnt))])), (c3, .inl (eI E, 3710, .inl D2))] ∧ RepC (oSlip σ n p a x) f2 ∧ HistC (pushH hs cnt σ) (pushN cnt) od2 D2) := by
  have hwP := hW.P
  have hwA := hW.A
  have hwS := hW.S
  refine ct_of (by decide +kernel) (Nat.le_of_ble_eq_true rfl) (fun ω C RT => ?_)
  show ω [(hB, .inr (5, [.ref b1, .ref b2, .ref b3, .ref b4, .ref b5, .ref b6, .ref b7, .ref b8, .ref b9, .ref b10])), (b1, .inr (4, [.ref c1])), (c1, .inl (eI E, 265, .inl f)), (b3, .inr (1, [.ref c3, .int (nI od), .int (nI cnt)])), (c3, .inl (eI E, 3710, .inl D))] [(0, .ref hB), (1, .int (nI n)), (2, .int (nI p)), (3, .int (nI a)), (4, .int (nI x))] [] 0
  refine r_iload_n C (i := 1) 1 dX5_slip_0 rfl rfl ?_
  refine r_readS (rest := []) C (c_X5_requireNight (n := n) (hn := (by omega))) lk_X5_requireNight w_2_3 [] dX5_slip_1 rfl rfl rfl ⟨by decide, by decide⟩ (Nat.le_of_ble_eq_true rfl) (st' := []) rfl ?_
  refine r_aload_n C (i := 0) 0 dX5_slip_4 rfl rfl ?_
  refine r_iload_n C (i := 2) 2 dX5_slip_5 rfl rfl ?_
  refine r_readV (rest := []) C (c_X5_requirePart (hB := hB) (b1 := b1) (b2 := b2) (b3 := b3) (b4 := b4) (b5 := b5) (b6 := b6) (b7 := b7) (b8 := b8) (b9 := b9) (b10 := b10) (c1 := c1) (f := f) (σ := σ) (p := p) (hR := hR) (hW := hW) (hx := (by omega))) lk_X5_requirePart w_3_183 [0, 1, 2] rfl dX5_slip_6 rfl rfl rfl rfl ⟨by decide, by decide⟩ (Nat.le_of_ble_eq_true rfl) (st' := []) rfl ?_
  refine r_aload_n C (i := 0) 0 dX5_slip_9 rfl rfl ?_
  refine r_iload_n C (i := 3) 3 dX5_slip_10 rfl rfl ?_
  refine r_readV (rest := []) C (c_X5_requireActor (hB := hB) (b1 := b1) (b2 := b2) (b3 := b3) (b4 := b4) (b5 := b5) (b6 := b6) (b7 := b7) (b8 := b8) (b9 := b9) (b10 := b10) (c1 := c1) (f := f) (σ := σ) (a := a) (hR := hR) (hW := hW) (hx := (by omega))) lk_X5_requireActor w_1_167 [0, 1, 2] rfl dX5_slip_11 rfl rfl rfl rfl ⟨by decide, by decide⟩ (Nat.le_of_ble_eq_true rfl) (st' := []) rfl ?_
  refine r_iload C (i := 4) 4 dX5_slip_14 rfl ?_
  refine r_if_ltF C (y := 0) (tgt := 26) dX5_slip_16 (by decide) (fun z => ((by omega) : ¬ (x < 0)) ((z_ltN (by omega)).mp z)) ?_
  refine r_iload C (i := 4) 4 dX5_slip_19 rfl ?_
  refine r_bipush C dX5_slip_21 kb_24 ?_
  refine r_icmp_ltT C 37 dX5_slip_23 (by decide) ((c_ltNN (by omega) (by omega)).mpr (by omega)) ?_
  refine r_aload_n C (i := 0) 0 dX5_slip_37 rfl rfl ?_
  refine r_get C 0 0 uX5 rfl rfl (by decide) w_1_128 rfl dX5_slip_38 ?_
  refine r_iload_n C (i := 1) 1 dX5_slip_41 rfl rfl ?_
  refine r_iload_n C (i := 2) 2 dX5_slip_42 rfl rfl ?_
  refine r_iload_n C (i := 3) 3 dX5_slip_43 rfl rfl ?_
  refine r_iload C (i := 4) 4 dX5_slip_44 rfl ?_
  refine r_readV (rest := []) C (c_X4_canAddSlip (h0 := b1) (q1 := c1) (f := f) (σ := σ) (n := n) (p := p) (a := a) (h := x) (hR := hR) (hW := hW) (hn := (by omega)) (hp := (by omega)) (ha := (by omega)) (hh := (by omega))) lk_X4_canAddSlip w_5_10 [1, 2] rfl dX5_slip_46 rfl rfl rfl rfl ⟨by decide, by decide⟩ (Nat.le_of_ble_eq_true rfl) (st' := [.int (bP (n < 20 ∧ p < sP σ ∧ a < sA σ ∧ x < 24 ∧ sS σ < 20))]) rfl ?_
  refine r_if_neT C (y := 0) 63 dX5_slip_49 (by decide) (z_neB.mpr (by omega)) ?_
  refine r_aload_n C (i := 0) 0 dX5_slip_63 rfl rfl ?_
  refine r_get C 0 2 uX5 rfl rfl (by decide) w_1_130 rfl dX5_slip_64 ?_
  refine r_aload_n C (i := 0) 0 dX5_slip_67 rfl rfl ?_
  refine r_get C 0 0 uX5 rfl rfl (by decide) w_1_128 rfl dX5_slip_68 ?_
  refine r_callV (rest := []) C (c_X1_remember (hh := b3) (hr := c3) (od := od) (cnt := cnt) (h0 := b1) (q1 := c1) (f := f) (σ := σ) (hs := hs) (D := D) (hH := hH) (hR := hR) (hW := hW)) lk_X1_remember w_2_13 [3, 4, 1, 2] rfl dX5_slip_71 rfl rfl rfl rfl ⟨by decide, by decide⟩ (Nat.le_of_ble_eq_true rfl) ?_
  rintro _ _ ⟨od_1, D_2, rfl, rfl, hH_3⟩
  show ω [(hB, .inr (5, [.ref b1, .ref b2, .ref b3, .ref b4, .ref b5, .ref b6, .ref b7, .ref b8, .ref b9, .ref b10])), (b1, .inr (4, [.ref c1])), (c1, .inl (eI E, 265, .inl f)), (b3, .inr (1, [.ref c3, .int (nI od_1), .int (nI (pushN cnt))])), (c3, .inl (eI E, 3710, .inl D_2))] [(0, .ref hB), (1, .int (nI n)), (2, .int (nI p)), (3, .int (nI a)), (4, .int (nI x))] [] 74
  refine r_aload_n C (i := 0) 0 dX5_slip_74 rfl rfl ?_
  refine r_get C 0 0 uX5 rfl rfl (by decide) w_1_128 rfl dX5_slip_75 ?_
  refine r_readV (rest := []) C (c_X4_slips (h0 := b1) (q1 := c1) (f := f) (σ := σ) (hR := hR) (hW := hW)) lk_X4_slips w_3_44 [1, 2] rfl dX5_slip_78 rfl rfl rfl rfl ⟨by decide, by decide⟩ (Nat.le_of_ble_eq_true rfl) (st' := [.int (nI (sS σ))]) rfl ?_
  refine r_istore C (lv' := [(5, .int (nI (sS σ))), (0, .ref hB), (1, .int (nI n)), (2, .int (nI p)), (3, .int (nI a)), (4, .int (nI x))]) dX5_slip_81 (by decide) rfl ?_
  refine r_aload_n C (i := 0) 1 dX5_slip_83 rfl rfl ?_
  refine r_get C 0 0 uX5 rfl rfl (by decide) w_1_128 rfl dX5_slip_84 ?_
  refine r_iload_n C (i := 1) 2 dX5_slip_87 rfl rfl ?_
  refine r_iload_n C (i := 2) 3 dX5_slip_88 rfl rfl ?_
  refine r_iload_n C (i := 3) 4 dX5_slip_89 rfl rfl ?_
  refine r_iload C (i := 4) 5 dX5_slip_90 rfl ?_
  refine r_callV (rest := []) C (c_X4_addSlip (h0 := b1) (q1 := c1) (f := f) (σ := σ) (n := n) (p := p) (a := a) (x := x) (hR := hR) (hW := hW) (hn := (by omega)) (hp := (by omega)) (ha := (by omega)) (hx := (by omega))) lk_X4_addSlip w_3_20 [1, 2] rfl dX5_slip_92 rfl rfl rfl rfl ⟨by decide, by decide⟩ (Nat.le_of_ble_eq_true rfl) ?_
  rintro _ _ ⟨f_4, rfl, rfl, hR_5⟩
  have hW_6 : Wf (tSlip σ n p a x) := tSlip_wf hW
  show ω [(hB, .inr (5, [.ref b1, .ref b2, .ref b3, .ref b4, .ref b5, .ref b6, .ref b7, .ref b8, .ref b9, .ref b10])), (b1, .inr (4, [.ref c1])), (c1, .inl (eI E, 265, .inl f_4)), (b3, .inr (1, [.ref c3, .int (nI od_1), .int (nI (pushN cnt))])), (c3, .inl (eI E, 3710, .inl D_2))] [(5, .int (nI (sS σ))), (0, .ref hB), (1, .int (nI n)), (2, .int (nI p)), (3, .int (nI a)), (4, .int (nI x))] [.int (bP (n < 20 ∧ p < sP σ ∧ a < sA σ ∧ x < 24 ∧ sS σ < 20))] 95
  refine r_pop C dX5_slip_95 rfl ?_
  refine r_iload C (i := 5) 0 dX5_slip_96 rfl ?_
  exact RT.1 _ _ _ _ _ dX5_slip_98 rfl rfl (⟨_, _, _, rfl, rfl, (by have e : tSlip σ n p a x = oSlip σ n p a x := if_pos ⟨hn, hp, ha, hx, hS⟩; exact e ▸ hR_5), hH_3⟩) rfl
set_option maxRecDepth 100000 in
set_option maxHeartbeats 1000000 in
theorem c_X5_lose {l : Launch} {E : Ev} {hB b1 b2 b3 b4 b5 b6 b7 b8 b9 b10 : Nat} {c1 : Nat} {f : Nat → Int32} {σ : Sg} (hR : RepC σ f) (hW : Wf σ) {c3 od cnt : Nat} {D : Nat → Int32} {hs : Nat → Sg} (hH : HistC hs cnt od D) {k : Nat} (hk : k < sS σ) : Ct l E yX5_lose cX5_lose 2 (some FieldType.int) 7 111 [.ref hB, .int (nI k)] [(hB, .inr (5, [.ref b1, .ref b2, .ref b3, .ref b4, .ref b5, .ref b6, .ref b7, .ref b8, .ref b9, .ref b10])), (b1, .inr (4, [.ref c1])), (c1, .inl (eI E, 265, .inl f)), (b3, .inr (1, [.ref c3, .int (nI od), .int (nI cnt)])), (c3, .inl (eI E, 3710, .inl D))] (fun v9 w9 => ∃ (f2 : Nat → Int32) (od2 : Nat) (D2 : Nat → Int32), v9 = some (.int (nI (sS σ - 1))) ∧ w9 = [(hB, .inr (5, [.ref b1, .ref b2, .ref b3, .ref b4, .ref b5, .ref b6, .ref b7, .ref b8, .ref b9, .ref b10])), (b1, .inr (4, [.ref c1])), (c1, .inl (eI E, 265, .inl f2)), (b3, .inr (1, [.ref c3, .int (nI od2), .int (nI (pushN cnt))])), (c3, .inl (eI E, 3710, .inl D2))] ∧ RepC (oLose σ k) f2 ∧ HistC (pushH hs cnt σ) (pushN cnt) od2 D2) := by
  have hwP := hW.P
  have hwA := hW.A
  have hwS := hW.S
  refine ct_of (by decide +kernel) (Nat.le_of_ble_eq_true rfl) (fun ω C RT => ?_)
  show ω [(hB, .inr (5, [.ref b1, .ref b2, .ref b3, .ref b4, .ref b5, .ref b6, .ref b7, .ref b8, .ref b9, .ref b10])), (b1, .inr (4, [.ref c1])), (c1, .inl (eI E, 265, .inl f)), (b3, .inr (1, [.ref c3, .int (nI od), .int (nI cnt)])), (c3, .inl (eI E, 3710, .inl D))] [(0, .ref hB), (1, .int (nI k))] [] 0
  refine r_aload_n C (i := 0) 0 dX5_lose_0 rfl rfl ?_
  refine r_iload_n C (i := 1) 1 dX5_lose_1 rfl rfl ?_
  refine r_readV (rest := []) C (c_X5_requireSlip (hB := hB) (b1 := b1) (b2 := b2) (b3 := b3) (b4 := b4) (b5 := b5) (b6 := b6) (b7 := b7) (b8 := b8) (b9 := b9) (b10 := b10) (c1 := c1) (f := f) (σ := σ) (k := k) (hR := hR) (hW := hW) (hx := (by omega))) lk_X5_requireSlip w_4_33 [0, 1, 2] rfl dX5_lose_2 rfl rfl rfl rfl ⟨by decide, by decide⟩ (Nat.le_of_ble_eq_true rfl) (st' := []) rfl ?_
  refine r_aload_n C (i := 0) 0 dX5_lose_5 rfl rfl ?_
  refine r_get C 0 2 uX5 rfl rfl (by decide) w_1_130 rfl dX5_lose_6 ?_
  refine r_aload_n C (i := 0) 0 dX5_lose_9 rfl rfl ?_
  refine r_get C 0 0 uX5 rfl rfl (by decide) w_1_128 rfl dX5_lose_10 ?_
  refine r_callV (rest := []) C (c_X1_remember (hh := b3) (hr := c3) (od := od) (cnt := cnt) (h0 := b1) (q1 := c1) (f := f) (σ := σ) (hs := hs) (D := D) (hH := hH) (hR := hR) (hW := hW)) lk_X1_remember w_2_13 [3, 4, 1, 2] rfl dX5_lose_13 rfl rfl rfl rfl ⟨by decide, by decide⟩ (Nat.le_of_ble_eq_true rfl) ?_
  rintro _ _ ⟨od_1, D_2, rfl, rfl, hH_3⟩
  show ω [(hB, .inr (5, [.ref b1, .ref b2, .ref b3, .ref b4, .ref b5, .ref b6, .ref b7, .ref b8, .ref b9, .ref b10])), (b1, .inr (4, [.ref c1])), (c1, .inl (eI E, 265, .inl f)), (b3, .inr (1, [.ref c3, .int (nI od_1), .int (nI (pushN cnt))])), (c3, .inl (eI E, 3710, .inl D_2))] [(0, .ref hB), (1, .int (nI k))] [] 16
  refine r_aload_n C (i := 0) 0 dX5_lose_16 rfl rfl ?_
  refine r_get C 0 0 uX5 rfl rfl (by decide) w_1_128 rfl dX5_lose_17 ?_
  refine r_iload_n C (i := 1) 1 dX5_lose_20 rfl rfl ?_
  refine r_callV (rest := []) C (c_X4_dropSlip (h0 := b1) (q1 := c1) (f := f) (σ := σ) (k := k) (hR := hR) (hW := hW) (hk := (by omega))) lk_X4_dropSlip w_4_117 [1, 2] rfl dX5_lose_21 rfl rfl rfl rfl ⟨by decide, by decide⟩ (Nat.le_of_ble_eq_true rfl) ?_
  rintro _ _ ⟨f_4, rfl, rfl, hR_5⟩
  have hW_6 : Wf (tLose σ k) := tLose_wf hW
  show ω [(hB, .inr (5, [.ref b1, .ref b2, .ref b3, .ref b4, .ref b5, .ref b6, .ref b7, .ref b8, .ref b9, .ref b10])), (b1, .inr (4, [.ref c1])), (c1, .inl (eI E, 265, .inl f_4)), (b3, .inr (1, [.ref c3, .int (nI od_1), .int (nI (pushN cnt))])), (c3, .inl (eI E, 3710, .inl D_2))] [(0, .ref hB), (1, .int (nI k))] [.int (bP (k < sS σ))] 24
  refine r_pop C dX5_lose_24 rfl ?_
  have hwf7 : Wf (tLose σ k) := tLose_wf hW
  refine r_aload_n C (i := 0) 0 dX5_lose_25 rfl rfl ?_
  refine r_get C 0 0 uX5 rfl rfl (by decide) w_1_128 rfl dX5_lose_26 ?_
  refine r_readV (rest := []) C (c_X4_slips (h0 := b1) (q1 := c1) (f := f_4) (σ := (tLose σ k)) (hR := hR_5) (hW := hwf7)) lk_X4_slips w_3_44 [1, 2] rfl dX5_lose_29 rfl rfl rfl rfl ⟨by decide, by decide⟩ (Nat.le_of_ble_eq_true rfl) (st' := [.int (nI (sS (tLose σ k)))]) rfl ?_
  exact RT.1 _ _ _ _ _ dX5_lose_32 rfl rfl (⟨_, _, _, sv (by rw [show tLose σ k = oLose σ k from if_pos hk]; rfl), rfl, (by have e : tLose σ k = oLose σ k := if_pos hk; exact e ▸ hR_5), hH_3⟩) rfl
set_option maxRecDepth 100000 in
set_option maxHeartbeats 1000000 in
theorem c_X5_set {l : Launch} {E : Ev} {hB b1 b2 b3 b4 b5 b6 b7 b8 b9 b10 : Nat} {c1 : Nat} {f : Nat → Int32} {σ : Sg} (hR : RepC σ f) (hW : Wf σ) {c3 od cnt : Nat} {D : Nat → Int32} {hs : Nat → Sg} (hH : HistC hs cnt od D) {w v : Nat} (hw : w < 2) (hv : v ≤ (if w = 0 then 99 else 9)) : Ct l E yX5_set cX5_set 4 (some FieldType.int) 7 110 [.ref hB, .int (nI w), .int (nI v)] [(hB, .inr (5, [.ref b1, .ref b2, .ref b3, .ref b4, .ref b5, .ref b6, .ref b7, .ref b8, .ref b9, .ref b10])), (b1, .inr (4, [.ref c1])), (c1, .inl (eI E, 265, .inl f)), (b3, .inr (1, [.ref c3, .int (nI od), .int (nI cnt)])), (c3, .inl (eI E, 3710, .inl D))] (fun v9 w9 => ∃ (f2 : Nat → Int32) (od2 : Nat) (D2 : Nat → Int32), v9 = some (.int (nI (sO σ w))) ∧ w9 = [(hB, .inr (5, [.ref b1, .ref b2, .ref b3, .ref b4, .ref b5, .ref b6, .ref b7, .ref b8, .ref b9, .ref b10])), (b1, .inr (4, [.ref c1])), (c1, .inl (eI E, 265, .inl f2)), (b3, .inr (1, [.ref c3, .int (nI od2), .int (nI (pushN cnt))])), (c3, .inl (eI E, 3710, .inl D2))] ∧ RepC (oSet σ w v) f2 ∧ HistC (pushH hs cnt σ) (pushN cnt) od2 D2) := by
  have hwP := hW.P
  have hwA := hW.A
  have hwS := hW.S
  have hv9 : v < 2147483648 := by split at hv <;> omega
  refine ct_of (by decide +kernel) (Nat.le_of_ble_eq_true rfl) (fun ω C RT => ?_)
  show ω [(hB, .inr (5, [.ref b1, .ref b2, .ref b3, .ref b4, .ref b5, .ref b6, .ref b7, .ref b8, .ref b9, .ref b10])), (b1, .inr (4, [.ref c1])), (c1, .inl (eI E, 265, .inl f)), (b3, .inr (1, [.ref c3, .int (nI od), .int (nI cnt)])), (c3, .inl (eI E, 3710, .inl D))] [(0, .ref hB), (1, .int (nI w)), (2, .int (nI v))] [] 0
  refine r_iload_n C (i := 1) 1 dX5_set_0 rfl rfl ?_
  refine r_readS (rest := []) C (c_X5_requireSetting (w := w) (hw := (by omega))) lk_X5_requireSetting w_4_54 [] dX5_set_1 rfl rfl rfl ⟨by decide, by decide⟩ (Nat.le_of_ble_eq_true rfl) (st' := []) rfl ?_
  refine r_iload_n C (i := 2) 2 dX5_set_4 rfl rfl ?_
  refine r_if_ltF C (y := 0) (tgt := 23) dX5_set_5 (by decide) (fun z => ((by omega) : ¬ (v < 0)) ((z_ltN (by omega)).mp z)) ?_
  refine r_iload_n C (i := 2) 2 dX5_set_8 rfl rfl ?_
  refine r_iload_n C (i := 1) 1 dX5_set_9 rfl rfl ?_
  refine r_if_ne C (y := 0) (c9 := w ≠ 0) 18 dX5_set_10 (by decide) (z_neN (by omega)) (fun h10_1 => ?_) (fun h10_1 => ?_)
  · rw [if_neg (by omega)] at hv
    refine r_bipush C dX5_set_18 kb_9 ?_
    refine r_icmp_leT C 34 dX5_set_20 (by decide) ((c_leNN (by omega) (by omega)).mpr (by omega)) ?_
    refine r_aload_n C (i := 0) 0 dX5_set_34 rfl rfl ?_
    refine r_get C 0 2 uX5 rfl rfl (by decide) w_1_130 rfl dX5_set_35 ?_
    refine r_aload_n C (i := 0) 0 dX5_set_38 rfl rfl ?_
    refine r_get C 0 0 uX5 rfl rfl (by decide) w_1_128 rfl dX5_set_39 ?_
    refine r_callV (rest := []) C (c_X1_remember (hh := b3) (hr := c3) (od := od) (cnt := cnt) (h0 := b1) (q1 := c1) (f := f) (σ := σ) (hs := hs) (D := D) (hH := hH) (hR := hR) (hW := hW)) lk_X1_remember w_2_13 [3, 4, 1, 2] rfl dX5_set_42 rfl rfl rfl rfl ⟨by decide, by decide⟩ (Nat.le_of_ble_eq_true rfl) ?_
    rintro _ _ ⟨od_2, D_3, rfl, rfl, hH_4⟩
    show ω [(hB, .inr (5, [.ref b1, .ref b2, .ref b3, .ref b4, .ref b5, .ref b6, .ref b7, .ref b8, .ref b9, .ref b10])), (b1, .inr (4, [.ref c1])), (c1, .inl (eI E, 265, .inl f)), (b3, .inr (1, [.ref c3, .int (nI od_2), .int (nI (pushN cnt))])), (c3, .inl (eI E, 3710, .inl D_3))] [(0, .ref hB), (1, .int (nI w)), (2, .int (nI v))] [] 45
    refine r_aload_n C (i := 0) 0 dX5_set_45 rfl rfl ?_
    refine r_get C 0 0 uX5 rfl rfl (by decide) w_1_128 rfl dX5_set_46 ?_
    refine r_iload_n C (i := 1) 1 dX5_set_49 rfl rfl ?_
    refine r_readV (rest := []) C (c_X4_option (h0 := b1) (q1 := c1) (f := f) (σ := σ) (i := w) (hR := hR) (hW := hW) (hi := (by omega))) lk_X4_option w_4_58 [1, 2] rfl dX5_set_50 rfl rfl rfl rfl ⟨by decide, by decide⟩ (Nat.le_of_ble_eq_true rfl) (st' := [.int (nI (sO σ w))]) rfl ?_
    refine r_istore_n C (lv' := [(3, .int (nI (sO σ w))), (0, .ref hB), (1, .int (nI w)), (2, .int (nI v))]) dX5_set_53 rfl (by decide) rfl ?_
    refine r_aload_n C (i := 0) 1 dX5_set_54 rfl rfl ?_
    refine r_get C 0 0 uX5 rfl rfl (by decide) w_1_128 rfl dX5_set_55 ?_
    refine r_iload_n C (i := 1) 2 dX5_set_58 rfl rfl ?_
    refine r_iload_n C (i := 2) 3 dX5_set_59 rfl rfl ?_
    refine r_callV (rest := []) C (c_X4_setOption (h0 := b1) (q1 := c1) (f := f) (σ := σ) (w := w) (v := v) (hR := hR) (hW := hW) (hw := (by omega)) (hv := (by omega))) lk_X4_setOption w_4_130 [1, 2] rfl dX5_set_60 rfl rfl rfl rfl ⟨by decide, by decide⟩ (Nat.le_of_ble_eq_true rfl) ?_
    rintro _ _ ⟨f_5, rfl, rfl, hR_6⟩
    show ω [(hB, .inr (5, [.ref b1, .ref b2, .ref b3, .ref b4, .ref b5, .ref b6, .ref b7, .ref b8, .ref b9, .ref b10])), (b1, .inr (4, [.ref c1])), (c1, .inl (eI E, 265, .inl f_5)), (b3, .inr (1, [.ref c3, .int (nI od_2), .int (nI (pushN cnt))])), (c3, .inl (eI E, 3710, .inl D_3))] [(3, .int (nI (sO σ w))), (0, .ref hB), (1, .int (nI w)), (2, .int (nI v))] [] 63
    refine r_iload_n C (i := 3) 0 dX5_set_63 rfl rfl ?_
    exact RT.1 _ _ _ _ _ dX5_set_64 rfl rfl (⟨_, _, _, rfl, rfl, hR_6, hH_4⟩) rfl
  · rw [if_pos (by omega)] at hv
    refine r_bipush C dX5_set_13 kb_99 ?_
    refine r_goto C 20 dX5_set_15 (by decide) ?_
    refine r_icmp_leT C 34 dX5_set_20 (by decide) ((c_leNN (by omega) (by omega)).mpr (by omega)) ?_
    refine r_aload_n C (i := 0) 0 dX5_set_34 rfl rfl ?_
    refine r_get C 0 2 uX5 rfl rfl (by decide) w_1_130 rfl dX5_set_35 ?_
    refine r_aload_n C (i := 0) 0 dX5_set_38 rfl rfl ?_
    refine r_get C 0 0 uX5 rfl rfl (by decide) w_1_128 rfl dX5_set_39 ?_
    refine r_callV (rest := []) C (c_X1_remember (hh := b3) (hr := c3) (od := od) (cnt := cnt) (h0 := b1) (q1 := c1) (f := f) (σ := σ) (hs := hs) (D := D) (hH := hH) (hR := hR) (hW := hW)) lk_X1_remember w_2_13 [3, 4, 1, 2] rfl dX5_set_42 rfl rfl rfl rfl ⟨by decide, by decide⟩ (Nat.le_of_ble_eq_true rfl) ?_
    rintro _ _ ⟨od_7, D_8, rfl, rfl, hH_9⟩
    show ω [(hB, .inr (5, [.ref b1, .ref b2, .ref b3, .ref b4, .ref b5, .ref b6, .ref b7, .ref b8, .ref b9, .ref b10])), (b1, .inr (4, [.ref c1])), (c1, .inl (eI E, 265, .inl f)), (b3, .inr (1, [.ref c3, .int (nI od_7), .int (nI (pushN cnt))])), (c3, .inl (eI E, 3710, .inl D_8))] [(0, .ref hB), (1, .int (nI w)), (2, .int (nI v))] [] 45
    refine r_aload_n C (i := 0) 0 dX5_set_45 rfl rfl ?_
    refine r_get C 0 0 uX5 rfl rfl (by decide) w_1_128 rfl dX5_set_46 ?_
    refine r_iload_n C (i := 1) 1 dX5_set_49 rfl rfl ?_
    refine r_readV (rest := []) C (c_X4_option (h0 := b1) (q1 := c1) (f := f) (σ := σ) (i := w) (hR := hR) (hW := hW) (hi := (by omega))) lk_X4_option w_4_58 [1, 2] rfl dX5_set_50 rfl rfl rfl rfl ⟨by decide, by decide⟩ (Nat.le_of_ble_eq_true rfl) (st' := [.int (nI (sO σ w))]) rfl ?_
    refine r_istore_n C (lv' := [(3, .int (nI (sO σ w))), (0, .ref hB), (1, .int (nI w)), (2, .int (nI v))]) dX5_set_53 rfl (by decide) rfl ?_
    refine r_aload_n C (i := 0) 1 dX5_set_54 rfl rfl ?_
    refine r_get C 0 0 uX5 rfl rfl (by decide) w_1_128 rfl dX5_set_55 ?_
    refine r_iload_n C (i := 1) 2 dX5_set_58 rfl rfl ?_
    refine r_iload_n C (i := 2) 3 dX5_set_59 rfl rfl ?_
    refine r_callV (rest := []) C (c_X4_setOption (h0 := b1) (q1 := c1) (f := f) (σ := σ) (w := w) (v := v) (hR := hR) (hW := hW) (hw := (by omega)) (hv := (by omega))) lk_X4_setOption w_4_130 [1, 2] rfl dX5_set_60 rfl rfl rfl rfl ⟨by decide, by decide⟩ (Nat.le_of_ble_eq_true rfl) ?_
    rintro _ _ ⟨f_10, rfl, rfl, hR_11⟩
    show ω [(hB, .inr (5, [.ref b1, .ref b2, .ref b3, .ref b4, .ref b5, .ref b6, .ref b7, .ref b8, .ref b9, .ref b10])), (b1, .inr (4, [.ref c1])), (c1, .inl (eI E, 265, .inl f_10)), (b3, .inr (1, [.ref c3, .int (nI od_7), .int (nI (pushN cnt))])), (c3, .inl (eI E, 3710, .inl D_8))] [(3, .int (nI (sO σ w))), (0, .ref hB), (1, .int (nI w)), (2, .int (nI v))] [] 63
    refine r_iload_n C (i := 3) 0 dX5_set_63 rfl rfl ?_
    exact RT.1 _ _ _ _ _ dX5_set_64 rfl rfl (⟨_, _, _, rfl, rfl, hR_11, hH_9⟩) rfl
set_option maxRecDepth 100000 in
set_option maxHeartbeats 1000000 in
theorem c_X5_undo {l : Launch} {E : Ev} {hB b1 b2 b3 b4 b5 b6 b7 b8 b9 b10 : Nat} {c1 : Nat} {f : Nat → Int32} {σ : Sg} (hR : RepC σ f) (hW : Wf σ) {c3 od cnt : Nat} {D : Nat → Int32} {hs : Nat → Sg} (hH : HistC hs cnt od D) (hc : 0 < cnt) : Ct l E yX5_undo cX5_undo 1 (some FieldType.int) 6 90 [.ref hB] [(hB, .inr (5, [.ref b1, .ref b2, .ref b3, .ref b4, .ref b5, .ref b6, .ref b7, .ref b8, .ref b9, .ref b10])), (b1, .inr (4, [.ref c1])), (c1, .inl (eI E, 265, .inl f)), (b3, .inr (1, [.ref c3, .int (nI od), .int (nI cnt)])), (c3, .inl (eI E, 3710, .inl D))] (fun v9 w9 => ∃ f2 : Nat → Int32, v9 = some (.int (nI (cnt - 1))) ∧ w9 = [(hB, .inr (5, [.ref b1, .ref b2, .ref b3, .ref b4, .ref b5, .ref b6, .ref b7, .ref b8, .ref b9, .ref b10])), (b1, .inr (4, [.ref c1])), (c1, .inl (eI E, 265, .inl f2)), (b3, .inr (1, [.ref c3, .int (nI od), .int (nI (cnt - 1))])), (c3, .inl (eI E, 3710, .inl D))] ∧ RepC (hs (cnt - 1)) f2 ∧ HistC hs (cnt - 1) od D) := by
  have hwP := hW.P
  have hwA := hW.A
  have hwS := hW.S
  have h14 := hH.1
  refine ct_of (by decide +kernel) (Nat.le_of_ble_eq_true rfl) (fun ω C RT => ?_)
  show ω [(hB, .inr (5, [.ref b1, .ref b2, .ref b3, .ref b4, .ref b5, .ref b6, .ref b7, .ref b8, .ref b9, .ref b10])), (b1, .inr (4, [.ref c1])), (c1, .inl (eI E, 265, .inl f)), (b3, .inr (1, [.ref c3, .int (nI od), .int (nI cnt)])), (c3, .inl (eI E, 3710, .inl D))] [(0, .ref hB)] [] 0
  refine r_aload_n C (i := 0) 0 dX5_undo_0 rfl rfl ?_
  refine r_get C 0 2 uX5 rfl rfl (by decide) w_1_130 rfl dX5_undo_1 ?_
  refine r_readV (rest := []) C (c_X1_size (hh := b3) (hr := c3) (od := od) (cnt := cnt) ) lk_X1_size w_4_141 [3] rfl dX5_undo_4 rfl rfl rfl rfl ⟨by decide, by decide⟩ (Nat.le_of_ble_eq_true rfl) (st' := [.int (nI cnt)]) rfl ?_
  refine r_if_neT C (y := 0) 21 dX5_undo_7 (by decide) ((z_neN (by omega)).mpr (by omega)) ?_
  refine r_aload_n C (i := 0) 0 dX5_undo_21 rfl rfl ?_
  refine r_get C 0 2 uX5 rfl rfl (by decide) w_1_130 rfl dX5_undo_22 ?_
  refine r_aload_n C (i := 0) 0 dX5_undo_25 rfl rfl ?_
  refine r_get C 0 0 uX5 rfl rfl (by decide) w_1_128 rfl dX5_undo_26 ?_
  refine r_callV (rest := []) C (c_X1_takeBack (hh := b3) (hr := c3) (od := od) (cnt := cnt) (h0 := b1) (q1 := c1) (f := f) (hs := hs) (D := D) (hH := hH) (hc := (by omega))) lk_X1_takeBack w_4_146 [3, 4, 1, 2] rfl dX5_undo_29 rfl rfl rfl rfl ⟨by decide, by decide⟩ (Nat.le_of_ble_eq_true rfl) ?_
  rintro _ _ ⟨f_1, rfl, rfl, hR_2, hH_3⟩
  show ω [(hB, .inr (5, [.ref b1, .ref b2, .ref b3, .ref b4, .ref b5, .ref b6, .ref b7, .ref b8, .ref b9, .ref b10])), (b1, .inr (4, [.ref c1])), (c1, .inl (eI E, 265, .inl f_1)), (b3, .inr (1, [.ref c3, .int (nI od), .int (nI (cnt - 1))])), (c3, .inl (eI E, 3710, .inl D))] [(0, .ref hB)] [] 32
  refine r_aload_n C (i := 0) 0 dX5_undo_32 rfl rfl ?_
  refine r_get C 0 2 uX5 rfl rfl (by decide) w_1_130 rfl dX5_undo_33 ?_
  refine r_readV (rest := []) C (c_X1_size (hh := b3) (hr := c3) (od := od) (cnt := cnt - 1) ) lk_X1_size w_4_141 [3] rfl dX5_undo_36 rfl rfl rfl rfl ⟨by decide, by decide⟩ (Nat.le_of_ble_eq_true rfl) (st' := [.int (nI (cnt - 1))]) rfl ?_
  exact RT.1 _ _ _ _ _ dX5_undo_39 rfl rfl (⟨_, rfl, rfl, hR_2, hH_3⟩) rfl
def KeepC (ks : Nat → Sg) (kd : Nat → Nat) (K Z : Nat → Int32) : Prop := ∀ i, i < 2 → kd i ≤ 1 ∧ Z i = nI (kd i) ∧ (kd i = 1 → Wf (ks i) ∧ RepC (ks i) (fun j => K (i * 265 + j)))
theorem KeepC_s {ks : Nat → Sg} {kd : Nat → Nat} {K Z g : Nat → Int32} {σ : Sg} (h : KeepC ks kd K Z) {s : Nat} (hs : s < 2) (hW : Wf σ) (hR : RepC σ g) : KeepC (fun i => if i = s then σ else ks i) (fun i => if i = s then 1 else kd i) (va_cpy g K 0 (s * 265) 265) (upd Z s (nI 1)) := by
  intro i hi
  obtain ⟨h1, h2, h3⟩ := h i hi
  show (if i = s then 1 else kd i) ≤ 1 ∧ _ = nI (if i = s then 1 else kd i) ∧ ((if i = s then 1 else kd i) = 1 → Wf (if i = s then σ else ks i) ∧ RepC (if i = s then σ else ks i) (fun j => va_cpy g K 0 (s * 265) 265 (i * 265 + j)))
  by_cases e : i = s
  · subst e
    rw [if_pos rfl, if_pos rfl]
    refine ⟨Nat.le_refl 1, pk_us, fun _ => ⟨hW, RepC_eq hW hR (fun j hj => ?_)⟩⟩
    show va_cpy g K 0 (i * 265) 265 (i * 265 + j) = g j
    unfold va_cpy
    rw [if_pos (by omega), show 0 + (i * 265 + j - i * 265) = j from by omega]
  · rw [if_neg e, if_neg e]
    refine ⟨h1, (pk_un e).trans h2, fun z => ⟨(h3 z).1, RepC_eq (h3 z).1 (h3 z).2 (fun j hj => ?_)⟩⟩
    show va_cpy g K 0 (s * 265) 265 (i * 265 + j) = K (i * 265 + j)
    unfold va_cpy
    rw [if_neg (by omega)]
set_option maxRecDepth 100000 in
set_option maxHeartbeats 1000000 in
theorem c_X5_save {l : Launch} {E : Ev} {hB b1 b2 b3 b4 b5 b6 b7 b8 b9 b10 : Nat} {c1 : Nat} {f : Nat → Int32} {σ : Sg} (hR : RepC σ f) (hW : Wf σ) {ks : Nat → Sg} {kd : Nat → Nat} {K Z : Nat → Int32} (hK : KeepC ks kd K Z) {s : Nat} (hs : s < 2) : Ct l E yX5_save cX5_save 2 (some FieldType.int) 7 110 [.ref hB, .int (nI s)] [(hB, .inr (5, [.ref b1, .ref b2, .ref b3, .ref b4, .ref b5, .ref b6, .ref b7, .ref b8, .ref b9, .ref b10])), (b1, .inr (4, [.ref c1])), (c1, .inl (eI E, 265, .inl f)), (b4, .inl (eI E, 530, .inl K)), (b5, .inl (eZ E, 2, .inl Z))] (fun v9 w9 => ∃ K2 Z2 : Nat → Int32, v9 = some (.int (nI (sS σ))) ∧ w9 = [(hB, .inr (5, [.ref b1, .ref b2, .ref b3, .ref b4, .ref b5, .ref b6, .ref b7, .ref b8, .ref b9, .ref b10])), (b1, .inr (4, [.ref c1])), (c1, .inl (eI E, 265, .inl f)), (b4, .inl (eI E, 530, .inl K2)), (b5, .inl (eZ E, 2, .inl Z2))] ∧ KeepC (fun i => if i = s then σ else ks i) (fun i => if i = s then 1 else kd i) K2 Z2) := by
  have hwP := hW.P
  have hwA := hW.A
  have hwS := hW.S
  refine ct_of (by decide +kernel) (Nat.le_of_ble_eq_true rfl) (fun ω C RT => ?_)
  show ω [(hB, .inr (5, [.ref b1, .ref b2, .ref b3, .ref b4, .ref b5, .ref b6, .ref b7, .ref b8, .ref b9, .ref b10])), (b1, .inr (4, [.ref c1])), (c1, .inl (eI E, 265, .inl f)), (b4, .inl (eI E, 530, .inl K)), (b5, .inl (eZ E, 2, .inl Z))] [(0, .ref hB), (1, .int (nI s))] [] 0
  refine r_iload_n C (i := 1) 1 dX5_save_0 rfl rfl ?_
  refine r_readS (rest := []) C (c_X5_requireSlot (w := s) (hw := (by omega))) lk_X5_requireSlot w_4_217 [] dX5_save_1 rfl rfl rfl ⟨by decide, by decide⟩ (Nat.le_of_ble_eq_true rfl) (st' := []) rfl ?_
  refine r_aload_n C (i := 0) 0 dX5_save_4 rfl rfl ?_
  refine r_get C 0 0 uX5 rfl rfl (by decide) w_1_128 rfl dX5_save_5 ?_
  refine r_aload_n C (i := 0) 0 dX5_save_8 rfl rfl ?_
  refine r_get C 0 3 uX5 rfl rfl (by decide) w_1_131 rfl dX5_save_9 ?_
  refine r_iload_n C (i := 1) 1 dX5_save_12 rfl rfl ?_
  refine r_callV (rest := []) C (c_X4_storeIn__s (h0 := b1) (q1 := c1) (q2 := b4) (f := f) (F := K) (k := s) (hk := (by omega))) lk_X4_storeIn w_4_221 [1, 2, 3] rfl dX5_save_13 rfl rfl rfl rfl ⟨by decide, by decide⟩ (Nat.le_of_ble_eq_true rfl) ?_
  rintro _ _ ⟨rfl, rfl⟩
  show ω [(hB, .inr (5, [.ref b1, .ref b2, .ref b3, .ref b4, .ref b5, .ref b6, .ref b7, .ref b8, .ref b9, .ref b10])), (b1, .inr (4, [.ref c1])), (c1, .inl (eI E, 265, .inl f)), (b4, .inl (eI E, 530, .inl (va_cpy f K 0 (s * 265) 265))), (b5, .inl (eZ E, 2, .inl Z))] [(0, .ref hB), (1, .int (nI s))] [] 16
  refine r_aload_n C (i := 0) 0 dX5_save_16 rfl rfl ?_
  refine r_get C 0 4 uX5 rfl rfl (by decide) w_1_132 rfl dX5_save_17 ?_
  refine r_iload_n C (i := 1) 1 dX5_save_20 rfl rfl ?_
  refine r_iconst C dX5_save_21 ki_1 ?_
  refine r_zast (j := s) (ws' := [(hB, .inr (5, [.ref b1, .ref b2, .ref b3, .ref b4, .ref b5, .ref b6, .ref b7, .ref b8, .ref b9, .ref b10])), (b1, .inr (4, [.ref c1])), (c1, .inl (eI E, 265, .inl f)), (b4, .inl (eI E, 530, .inl (va_cpy f K 0 (s * 265) 265))), (b5, .inl (eZ E, 2, .inl (upd Z s (nI 1))))]) C 4 rfl (by omega) (by decide) vnar_1 rfl dX5_save_22 ?_
  refine r_aload_n C (i := 0) 0 dX5_save_23 rfl rfl ?_
  refine r_get C 0 0 uX5 rfl rfl (by decide) w_1_128 rfl dX5_save_24 ?_
  refine r_readV (rest := []) C (c_X4_slips (h0 := b1) (q1 := c1) (f := f) (σ := σ) (hR := hR) (hW := hW)) lk_X4_slips w_3_44 [1, 2] rfl dX5_save_27 rfl rfl rfl rfl ⟨by decide, by decide⟩ (Nat.le_of_ble_eq_true rfl) (st' := [.int (nI (sS σ))]) rfl ?_
  exact RT.1 _ _ _ _ _ dX5_save_30 rfl rfl (⟨_, _, rfl, rfl, KeepC_s hK hs hW hR⟩) rfl
set_option maxRecDepth 100000 in
set_option maxHeartbeats 1000000 in
theorem c_X5_restore {l : Launch} {E : Ev} {hB b1 b2 b3 b4 b5 b6 b7 b8 b9 b10 : Nat} {c1 : Nat} {f : Nat → Int32} {σ : Sg} (hR : RepC σ f) (hW : Wf σ) {c3 od cnt : Nat} {ks : Nat → Sg} {kd : Nat → Nat} {K Z : Nat → Int32} (hK : KeepC ks kd K Z) {s : Nat} (hs : s < 2) (hk1 : kd s = 1) : Ct l E yX5_restore cX5_restore 2 (some FieldType.int) 7 110 [.ref hB, .int (nI s)] [(hB, .inr (5, [.ref b1, .ref b2, .ref b3, .ref b4, .ref b5, .ref b6, .ref b7, .ref b8, .ref b9, .ref b10])), (b1, .inr (4, [.ref c1])), (c1, .inl (eI E, 265, .inl f)), (b3, .inr (1, [.ref c3, .int (nI od), .int (nI cnt)])), (b4, .inl (eI E, 530, .inl K)), (b5, .inl (eZ E, 2, .inl Z))] (fun v9 w9 => ∃ f2 : Nat → Int32, v9 = some (.int (nI (sS (ks s)))) ∧ w9 = [(hB, .inr (5, [.ref b1, .ref b2, .ref b3, .ref b4, .ref b5, .ref b6, .ref b7, .ref b8, .ref b9, .ref b10])), (b1, .inr (4, [.ref c1])), (c1, .inl (eI E, 265, .inl f2)), (b3, .inr (1, [.ref c3, .int (nI 0), .int (nI 0)])), (b4, .inl (eI E, 530, .inl K)), (b5, .inl (eZ E, 2, .inl Z))] ∧ RepC (ks s) f2) := by
  have hwP := hW.P
  have hwA := hW.A
  have hwS := hW.S
  refine ct_of (by decide +kernel) (Nat.le_of_ble_eq_true rfl) (fun ω C RT => ?_)
  show ω [(hB, .inr (5, [.ref b1, .ref b2, .ref b3, .ref b4, .ref b5, .ref b6, .ref b7, .ref b8, .ref b9, .ref b10])), (b1, .inr (4, [.ref c1])), (c1, .inl (eI E, 265, .inl f)), (b3, .inr (1, [.ref c3, .int (nI od), .int (nI cnt)])), (b4, .inl (eI E, 530, .inl K)), (b5, .inl (eZ E, 2, .inl Z))] [(0, .ref hB), (1, .int (nI s))] [] 0
  refine r_iload_n C (i := 1) 1 dX5_restore_0 rfl rfl ?_
  refine r_readS (rest := []) C (c_X5_requireSlot (w := s) (hw := (by omega))) lk_X5_requireSlot w_4_217 [] dX5_restore_1 rfl rfl rfl ⟨by decide, by decide⟩ (Nat.le_of_ble_eq_true rfl) (st' := []) rfl ?_
  refine r_aload_n C (i := 0) 0 dX5_restore_4 rfl rfl ?_
  refine r_get C 0 4 uX5 rfl rfl (by decide) w_1_132 rfl dX5_restore_5 ?_
  refine r_iload_n C (i := 1) 1 dX5_restore_8 rfl rfl ?_
  refine r_zald (j := s) (v := nI 1) C 5 rfl (by omega) (by decide) ((hK s hs).2.1.trans (by rw [hk1])) dX5_restore_9 ?_
  refine r_if_neT C (y := 0) 24 dX5_restore_10 (by decide) ((z_neN (by omega)).mpr (by decide)) ?_
  refine r_aload_n C (i := 0) 0 dX5_restore_24 rfl rfl ?_
  refine r_get C 0 0 uX5 rfl rfl (by decide) w_1_128 rfl dX5_restore_25 ?_
  refine r_aload_n C (i := 0) 0 dX5_restore_28 rfl rfl ?_
  refine r_get C 0 3 uX5 rfl rfl (by decide) w_1_131 rfl dX5_restore_29 ?_
  refine r_iload_n C (i := 1) 1 dX5_restore_32 rfl rfl ?_
  refine r_callV (rest := []) C (c_X4_fetchFrom__s (h0 := b1) (q1 := c1) (q2 := b4) (f := f) (F := K) (k := s) (σ := (ks s)) (hk := (by omega)) (hW := (((hK s hs).2.2 hk1).1)) (hF := (((hK s hs).2.2 hk1).2))) lk_X4_fetchFrom w_4_230 [1, 2, 4] rfl dX5_restore_33 rfl rfl rfl rfl ⟨by decide, by decide⟩ (Nat.le_of_ble_eq_true rfl) ?_
  rintro _ _ ⟨f_1, rfl, rfl, hR_2⟩
  show ω [(hB, .inr (5, [.ref b1, .ref b2, .ref b3, .ref b4, .ref b5, .ref b6, .ref b7, .ref b8, .ref b9, .ref b10])), (b1, .inr (4, [.ref c1])), (c1, .inl (eI E, 265, .inl f_1)), (b3, .inr (1, [.ref c3, .int (nI od), .int (nI cnt)])), (b4, .inl (eI E, 530, .inl K)), (b5, .inl (eZ E, 2, .inl Z))] [(0, .ref hB), (1, .int (nI s))] [] 36
  refine r_aload_n C (i := 0) 0 dX5_restore_36 rfl rfl ?_
  refine r_get C 0 2 uX5 rfl rfl (by decide) w_1_130 rfl dX5_restore_37 ?_
  refine r_callV (rest := []) C (c_X1_forget (hh := b3) (hr := c3) (od := od) (cnt := cnt) ) lk_X1_forget w_2_192 [3] rfl dX5_restore_40 rfl rfl rfl rfl ⟨by decide, by decide⟩ (Nat.le_of_ble_eq_true rfl) ?_
  rintro _ _ ⟨rfl, rfl⟩
  show ω [(hB, .inr (5, [.ref b1, .ref b2, .ref b3, .ref b4, .ref b5, .ref b6, .ref b7, .ref b8, .ref b9, .ref b10])), (b1, .inr (4, [.ref c1])), (c1, .inl (eI E, 265, .inl f_1)), (b3, .inr (1, [.ref c3, .int (nI 0), .int (nI 0)])), (b4, .inl (eI E, 530, .inl K)), (b5, .inl (eZ E, 2, .inl Z))] [(0, .ref hB), (1, .int (nI s))] [] 43
  have hwf3 : Wf (ks s) := ((hK s hs).2.2 hk1).1
  refine r_aload_n C (i := 0) 0 dX5_restore_43 rfl rfl ?_
  refine r_get C 0 0 uX5 rfl rfl (by decide) w_1_128 rfl dX5_restore_44 ?_
  refine r_readV (rest := []) C (c_X4_slips (h0 := b1) (q1 := c1) (f := f_1) (σ := (ks s)) (hR := hR_2) (hW := hwf3)) lk_X4_slips w_3_44 [1, 2] rfl dX5_restore_47 rfl rfl rfl rfl ⟨by decide, by decide⟩ (Nat.le_of_ble_eq_true rfl) (st' := [.int (nI (sS (ks s)))]) rfl ?_
  exact RT.1 _ _ _ _ _ dX5_restore_50 rfl rfl (⟨_, rfl, rfl, hR_2⟩) rfl
