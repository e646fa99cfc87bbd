set_option maxRecDepth 100000 in
set_option maxHeartbeats 1000000 in
theorem c_X6_readCommand__a0 {l : Launch} {E : Ev} {hM rf x1 sz x3 x4 x5 ac x7 x8 x9 x10 x11 ou : Nat} {r : Nat} {g : Nat → Int32} {σ : Sg} (hR : RepM σ g) (hW : Wf σ) {tx : Nat → Int32} {sg : Nat → Nat} (hT : TxR sg sz tx) {i : Nat} (hi : i < sz) (hc : sg i = 97) (hg : ∀ j, j < 0 → gd sg sz i j) (hb : ¬ gd sg sz i 0) : Ct l E yX6_readCommand cX6_readCommand 6 (some FieldType.boolean) 4 94 [.ref hM, .ref r] [(hM, .inr (6, [.int (nI rf), .ref x1, .int (nI sz), .ref x3, .ref x4, .ref x5, .int (nI ac), .ref x7, .ref x8, .ref x9, .ref x10, .ref x11, .int (nI i), .int (nI ou)])), (x1, .inl (eI E, 120, .inl tx)), (r, .inl (eI E, 255, .inl g))] (fun v9 w9 => v9 = some (.int (nI 0)) ∧ w9 = [(hM, .inr (6, [.int (nI rf), .ref x1, .int (nI sz), .ref x3, .ref x4, .ref x5, .int (nI ac), .ref x7, .ref x8, .ref x9, .ref x10, .ref x11, .int (nI (i + 1)), .int (nI ou)])), (x1, .inl (eI E, 120, .inl tx)), (r, .inl (eI E, 255, .inl g))]) := by
  have hwP := hW.P
  have hwA := hW.A
  have hwS := hW.S
  have hTz := hT.1
  have hb9 : ¬ _ := fun z => hb ((gdL_a0 hc).mpr z)
  refine ct_of (by decide +kernel) (Nat.le_of_ble_eq_true rfl) (fun ω C RT => ?_)
  show ω [(hM, .inr (6, [.int (nI rf), .ref x1, .int (nI sz), .ref x3, .ref x4, .ref x5, .int (nI ac), .ref x7, .ref x8, .ref x9, .ref x10, .ref x11, .int (nI i), .int (nI ou)])), (x1, .inl (eI E, 120, .inl tx)), (r, .inl (eI E, 255, .inl g))] [(0, .ref hM), (1, .ref r)] [] 0
  refine r_aload_n C (i := 0) 0 dX6_readCommand_0 rfl rfl ?_
  refine r_get C 0 1 uX6 rfl rfl (by decide) w_5_62 rfl dX6_readCommand_1 ?_
  refine r_aload_n C (i := 0) 0 dX6_readCommand_4 rfl rfl ?_
  refine r_get C 0 12 uX6 rfl rfl (by decide) w_5_73 rfl dX6_readCommand_5 ?_
  refine r_iald (j := i) (v := nI 97) C 1 rfl (by omega) (by decide) ((hT.2 i hi).1.trans (by rw [hc])) dX6_readCommand_8 ?_
  refine r_istore_n C (lv' := [(2, .int (nI 97)), (0, .ref hM), (1, .ref r)]) dX6_readCommand_9 rfl (by decide) rfl ?_
  refine r_aload_n C (i := 0) 1 dX6_readCommand_10 rfl rfl ?_
  refine r_dup C dX6_readCommand_11 rfl ?_
  refine r_get C 0 12 uX6 rfl rfl (by decide) w_5_73 rfl dX6_readCommand_12 ?_
  refine r_iconst C dX6_readCommand_15 ki_1 ?_
  refine r_iadd (v := nI (i + 1)) C dX6_readCommand_16 (nI_add _ _) ?_
  refine r_put (ws' := [(hM, .inr (6, [.int (nI rf), .ref x1, .int (nI sz), .ref x3, .ref x4, .ref x5, .int (nI ac), .ref x7, .ref x8, .ref x9, .ref x10, .ref x11, .int (nI (i + 1)), .int (nI ou)])), (x1, .inl (eI E, 120, .inl tx)), (r, .inl (eI E, 255, .inl g))]) C 0 12 uX6 rfl tyX6_ok nmX6 rfl (by decide) w_5_73 rfl (tyX6_ok 12 (by decide)) rfl rfl (Nat.le_of_ble_eq_true rfl) rfl dX6_readCommand_17 ?_
  refine r_iload_n C (i := 2) 0 dX6_readCommand_20 rfl rfl ?_
  refine r_look (off := 59) C 80 dX6_readCommand_21 (by decide) (by decide) (by decide) ?_
  refine r_aload_n C (i := 0) 1 dX6_readCommand_80 rfl rfl ?_
  refine r_iconst C dX6_readCommand_81 ki_0 ?_
  refine r_iconst C dX6_readCommand_82 ki_1 ?_
  refine r_bipush C dX6_readCommand_83 kb_9 ?_
  refine r_callV (rest := []) C (c_X6_figures__1b (hM := hM) (rf := rf) (x1 := x1) (sz := sz) (x3 := x3) (x4 := x4) (x5 := x5) (ac := ac) (x7 := x7) (x8 := x8) (x9 := x9) (x10 := x10) (x11 := x11) (sp := i + 1) (ou := ou) (tx := tx) (sg := sg) (x := 0) (h := 9) (hT := hT) (hsp := (by omega)) (hx := (by omega)) (hh := (by omega)) (h1 := (show ¬ (i + 1 < sz ∧ 48 ≤ sg (i + 1) ∧ sg (i + 1) ≤ 57 ∧ sg (i + 1) ≤ 48 + 9) by omega))) lk_X6_figures w_5_136 [0, 1] rfl dX6_readCommand_85 rfl rfl rfl rfl ⟨by decide, by decide⟩ (Nat.le_of_ble_eq_true rfl) ?_
  rintro _ _ ⟨rfl, rfl⟩
  show ω [(hM, .inr (6, [.int (nI rf), .ref x1, .int (nI sz), .ref x3, .ref x4, .ref x5, .int (nI ac), .ref x7, .ref x8, .ref x9, .ref x10, .ref x11, .int (nI (i + 1)), .int (nI ou)])), (x1, .inl (eI E, 120, .inl tx)), (r, .inl (eI E, 255, .inl g))] [(2, .int (nI 97)), (0, .ref hM), (1, .ref r)] [.int (mI 0)] 88
  refine r_istore_n C (lv' := [(3, .int (mI 0)), (2, .int (nI 97)), (0, .ref hM), (1, .ref r)]) dX6_readCommand_88 rfl (by decide) rfl ?_
  refine r_iload_n C (i := 3) 0 dX6_readCommand_89 rfl rfl ?_
  refine r_iconst C dX6_readCommand_90 ki_m1 ?_
  refine r_icmp_eqT C 126 dX6_readCommand_91 (by decide) ((c_eqMM (by omega) (by omega)).mpr (by decide)) ?_
  refine r_iconst C dX6_readCommand_126 ki_0 ?_
  exact RT.1 _ _ _ _ _ dX6_readCommand_127 rfl nar_0 (⟨rfl, rfl⟩) rfl
set_option maxRecDepth 100000 in
set_option maxHeartbeats 1000000 in
theorem c_X6_readCommand__c0 {l : Launch} {E : Ev} {hM rf x1 sz x3 x4 x5 ac x7 x8 x9 x10 x11 ou : Nat} {r : Nat} {g : Nat → Int32} {σ : Sg} (hR : RepM σ g) (hW : Wf σ) {tx : Nat → Int32} {sg : Nat → Nat} (hT : TxR sg sz tx) {i : Nat} (hi : i < sz) (hc : sg i = 99) (hg : ∀ j, j < 0 → gd sg sz i j) (hb : ¬ gd sg sz i 0) : Ct l E yX6_readCommand cX6_readCommand 6 (some FieldType.boolean) 4 94 [.ref hM, .ref r] [(hM, .inr (6, [.int (nI rf), .ref x1, .int (nI sz), .ref x3, .ref x4, .ref x5, .int (nI ac), .ref x7, .ref x8, .ref x9, .ref x10, .ref x11, .int (nI i), .int (nI ou)])), (x1, .inl (eI E, 120, .inl tx)), (r, .inl (eI E, 255, .inl g))] (fun v9 w9 => v9 = some (.int (nI 0)) ∧ w9 = [(hM, .inr (6, [.int (nI rf), .ref x1, .int (nI sz), .ref x3, .ref x4, .ref x5, .int (nI ac), .ref x7, .ref x8, .ref x9, .ref x10, .ref x11, .int (nI (i + 1)), .int (nI ou)])), (x1, .inl (eI E, 120, .inl tx)), (r, .inl (eI E, 255, .inl g))]) := by
  have hwP := hW.P
  have hwA := hW.A
  have hwS := hW.S
  have hTz := hT.1
  have hb9 : ¬ _ := fun z => hb ((gdL_c0 hc).mpr z)
  refine ct_of (by decide +kernel) (Nat.le_of_ble_eq_true rfl) (fun ω C RT => ?_)
  show ω [(hM, .inr (6, [.int (nI rf), .ref x1, .int (nI sz), .ref x3, .ref x4, .ref x5, .int (nI ac), .ref x7, .ref x8, .ref x9, .ref x10, .ref x11, .int (nI i), .int (nI ou)])), (x1, .inl (eI E, 120, .inl tx)), (r, .inl (eI E, 255, .inl g))] [(0, .ref hM), (1, .ref r)] [] 0
  refine r_aload_n C (i := 0) 0 dX6_readCommand_0 rfl rfl ?_
  refine r_get C 0 1 uX6 rfl rfl (by decide) w_5_62 rfl dX6_readCommand_1 ?_
  refine r_aload_n C (i := 0) 0 dX6_readCommand_4 rfl rfl ?_
  refine r_get C 0 12 uX6 rfl rfl (by decide) w_5_73 rfl dX6_readCommand_5 ?_
  refine r_iald (j := i) (v := nI 99) C 1 rfl (by omega) (by decide) ((hT.2 i hi).1.trans (by rw [hc])) dX6_readCommand_8 ?_
  refine r_istore_n C (lv' := [(2, .int (nI 99)), (0, .ref hM), (1, .ref r)]) dX6_readCommand_9 rfl (by decide) rfl ?_
  refine r_aload_n C (i := 0) 1 dX6_readCommand_10 rfl rfl ?_
  refine r_dup C dX6_readCommand_11 rfl ?_
  refine r_get C 0 12 uX6 rfl rfl (by decide) w_5_73 rfl dX6_readCommand_12 ?_
  refine r_iconst C dX6_readCommand_15 ki_1 ?_
  refine r_iadd (v := nI (i + 1)) C dX6_readCommand_16 (nI_add _ _) ?_
  refine r_put (ws' := [(hM, .inr (6, [.int (nI rf), .ref x1, .int (nI sz), .ref x3, .ref x4, .ref x5, .int (nI ac), .ref x7, .ref x8, .ref x9, .ref x10, .ref x11, .int (nI (i + 1)), .int (nI ou)])), (x1, .inl (eI E, 120, .inl tx)), (r, .inl (eI E, 255, .inl g))]) C 0 12 uX6 rfl tyX6_ok nmX6 rfl (by decide) w_5_73 rfl (tyX6_ok 12 (by decide)) rfl rfl (Nat.le_of_ble_eq_true rfl) rfl dX6_readCommand_17 ?_
  refine r_iload_n C (i := 2) 0 dX6_readCommand_20 rfl rfl ?_
  refine r_look (off := 132) C 153 dX6_readCommand_21 (by decide) (by decide) (by decide) ?_
  refine r_aload_n C (i := 0) 1 dX6_readCommand_153 rfl rfl ?_
  refine r_iconst C dX6_readCommand_154 ki_0 ?_
  refine r_iconst C dX6_readCommand_155 ki_1 ?_
  refine r_iconst C dX6_readCommand_156 ki_5 ?_
  refine r_callV (rest := []) C (c_X6_figures__1b (hM := hM) (rf := rf) (x1 := x1) (sz := sz) (x3 := x3) (x4 := x4) (x5 := x5) (ac := ac) (x7 := x7) (x8 := x8) (x9 := x9) (x10 := x10) (x11 := x11) (sp := i + 1) (ou := ou) (tx := tx) (sg := sg) (x := 0) (h := 5) (hT := hT) (hsp := (by omega)) (hx := (by omega)) (hh := (by omega)) (h1 := (show ¬ (i + 1 < sz ∧ 48 ≤ sg (i + 1) ∧ sg (i + 1) ≤ 57 ∧ sg (i + 1) ≤ 48 + 5) by omega))) lk_X6_figures w_5_136 [0, 1] rfl dX6_readCommand_157 rfl rfl rfl rfl ⟨by decide, by decide⟩ (Nat.le_of_ble_eq_true rfl) ?_
  rintro _ _ ⟨rfl, rfl⟩
  show ω [(hM, .inr (6, [.int (nI rf), .ref x1, .int (nI sz), .ref x3, .ref x4, .ref x5, .int (nI ac), .ref x7, .ref x8, .ref x9, .ref x10, .ref x11, .int (nI (i + 1)), .int (nI ou)])), (x1, .inl (eI E, 120, .inl tx)), (r, .inl (eI E, 255, .inl g))] [(2, .int (nI 99)), (0, .ref hM), (1, .ref r)] [.int (mI 0)] 160
  refine r_istore_n C (lv' := [(3, .int (mI 0)), (2, .int (nI 99)), (0, .ref hM), (1, .ref r)]) dX6_readCommand_160 rfl (by decide) rfl ?_
  refine r_aload_n C (i := 0) 2 dX6_readCommand_161 rfl rfl ?_
  refine r_iload_n C (i := 3) 0 dX6_readCommand_162 rfl rfl ?_
  refine r_iconst C dX6_readCommand_163 ki_1 ?_
  refine r_bipush C dX6_readCommand_164 kb_9 ?_
  refine r_callV (rest := []) C (c_X6_figures__n1 (hM := hM) (rf := rf) (x1 := x1) (sz := sz) (x3 := x3) (x4 := x4) (x5 := x5) (ac := ac) (x7 := x7) (x8 := x8) (x9 := x9) (x10 := x10) (x11 := x11) (sp := (i + 1)) (ou := ou) (h := 9) ) lk_X6_figures w_5_136 [0] rfl dX6_readCommand_166 rfl rfl rfl rfl ⟨by decide, by decide⟩ (Nat.le_of_ble_eq_true rfl) ?_
  rintro _ _ ⟨rfl, rfl⟩
  show ω [(hM, .inr (6, [.int (nI rf), .ref x1, .int (nI sz), .ref x3, .ref x4, .ref x5, .int (nI ac), .ref x7, .ref x8, .ref x9, .ref x10, .ref x11, .int (nI (i + 1)), .int (nI ou)])), (x1, .inl (eI E, 120, .inl tx)), (r, .inl (eI E, 255, .inl g))] [(3, .int (mI 0)), (2, .int (nI 99)), (0, .ref hM), (1, .ref r)] [.int (mI 0)] 169
  refine r_istore C (lv' := [(4, .int (mI 0)), (3, .int (mI 0)), (2, .int (nI 99)), (0, .ref hM), (1, .ref r)]) dX6_readCommand_169 (by decide) rfl ?_
  refine r_aload_n C (i := 0) 3 dX6_readCommand_171 rfl rfl ?_
  refine r_iload C (i := 4) 0 dX6_readCommand_172 rfl ?_
  refine r_iconst C dX6_readCommand_174 ki_2 ?_
  refine r_bipush C dX6_readCommand_175 kb_19 ?_
  refine r_callV (rest := []) C (c_X6_figures__n2 (hM := hM) (rf := rf) (x1 := x1) (sz := sz) (x3 := x3) (x4 := x4) (x5 := x5) (ac := ac) (x7 := x7) (x8 := x8) (x9 := x9) (x10 := x10) (x11 := x11) (sp := (i + 1)) (ou := ou) (h := 19) ) lk_X6_figures w_5_136 [0] rfl dX6_readCommand_177 rfl rfl rfl rfl ⟨by decide, by decide⟩ (Nat.le_of_ble_eq_true rfl) ?_
  rintro _ _ ⟨rfl, rfl⟩
  show ω [(hM, .inr (6, [.int (nI rf), .ref x1, .int (nI sz), .ref x3, .ref x4, .ref x5, .int (nI ac), .ref x7, .ref x8, .ref x9, .ref x10, .ref x11, .int (nI (i + 1)), .int (nI ou)])), (x1, .inl (eI E, 120, .inl tx)), (r, .inl (eI E, 255, .inl g))] [(4, .int (mI 0)), (3, .int (mI 0)), (2, .int (nI 99)), (0, .ref hM), (1, .ref r)] [.int (mI 0)] 180
  refine r_istore C (lv' := [(5, .int (mI 0)), (4, .int (mI 0)), (3, .int (mI 0)), (2, .int (nI 99)), (0, .ref hM), (1, .ref r)]) dX6_readCommand_180 (by decide) rfl ?_
  refine r_iload C (i := 5) 0 dX6_readCommand_182 rfl ?_
  refine r_iconst C dX6_readCommand_184 ki_m1 ?_
  refine r_icmp_eqT C 234 dX6_readCommand_185 (by decide) ((c_eqMM (by omega) (by omega)).mpr (by decide)) ?_
  refine r_iconst C dX6_readCommand_234 ki_0 ?_
  exact RT.1 _ _ _ _ _ dX6_readCommand_235 rfl nar_0 (⟨rfl, rfl⟩) rfl
set_option maxRecDepth 100000 in
set_option maxHeartbeats 1000000 in
theorem c_X6_readCommand__c1 {l : Launch} {E : Ev} {hM rf x1 sz x3 x4 x5 ac x7 x8 x9 x10 x11 ou : Nat} {r : Nat} {g : Nat → Int32} {σ : Sg} (hR : RepM σ g) (hW : Wf σ) {tx : Nat → Int32} {sg : Nat → Nat} (hT : TxR sg sz tx) {i : Nat} (hi : i < sz) (hc : sg i = 99) (hg : ∀ j, j < 1 → gd sg sz i j) (hb : ¬ gd sg sz i 1) : Ct l E yX6_readCommand cX6_readCommand 6 (some FieldType.boolean) 4 94 [.ref hM, .ref r] [(hM, .inr (6, [.int (nI rf), .ref x1, .int (nI sz), .ref x3, .ref x4, .ref x5, .int (nI ac), .ref x7, .ref x8, .ref x9, .ref x10, .ref x11, .int (nI i), .int (nI ou)])), (x1, .inl (eI E, 120, .inl tx)), (r, .inl (eI E, 255, .inl g))] (fun v9 w9 => v9 = some (.int (nI 0)) ∧ w9 = [(hM, .inr (6, [.int (nI rf), .ref x1, .int (nI sz), .ref x3, .ref x4, .ref x5, .int (nI ac), .ref x7, .ref x8, .ref x9, .ref x10, .ref x11, .int (nI (i + 2)), .int (nI ou)])), (x1, .inl (eI E, 120, .inl tx)), (r, .inl (eI E, 255, .inl g))]) := by
  have hwP := hW.P
  have hwA := hW.A
  have hwS := hW.S
  have hTz := hT.1
  have g0 := (gdL_c0 hc).mp (hg 0 (by decide))
  have hb9 : ¬ _ := fun z => hb ((gdL_c1 hc).mpr z)
  refine ct_of (by decide +kernel) (Nat.le_of_ble_eq_true rfl) (fun ω C RT => ?_)
  show ω [(hM, .inr (6, [.int (nI rf), .ref x1, .int (nI sz), .ref x3, .ref x4, .ref x5, .int (nI ac), .ref x7, .ref x8, .ref x9, .ref x10, .ref x11, .int (nI i), .int (nI ou)])), (x1, .inl (eI E, 120, .inl tx)), (r, .inl (eI E, 255, .inl g))] [(0, .ref hM), (1, .ref r)] [] 0
  refine r_aload_n C (i := 0) 0 dX6_readCommand_0 rfl rfl ?_
  refine r_get C 0 1 uX6 rfl rfl (by decide) w_5_62 rfl dX6_readCommand_1 ?_
  refine r_aload_n C (i := 0) 0 dX6_readCommand_4 rfl rfl ?_
  refine r_get C 0 12 uX6 rfl rfl (by decide) w_5_73 rfl dX6_readCommand_5 ?_
  refine r_iald (j := i) (v := nI 99) C 1 rfl (by omega) (by decide) ((hT.2 i hi).1.trans (by rw [hc])) dX6_readCommand_8 ?_
  refine r_istore_n C (lv' := [(2, .int (nI 99)), (0, .ref hM), (1, .ref r)]) dX6_readCommand_9 rfl (by decide) rfl ?_
  refine r_aload_n C (i := 0) 1 dX6_readCommand_10 rfl rfl ?_
  refine r_dup C dX6_readCommand_11 rfl ?_
  refine r_get C 0 12 uX6 rfl rfl (by decide) w_5_73 rfl dX6_readCommand_12 ?_
  refine r_iconst C dX6_readCommand_15 ki_1 ?_
  refine r_iadd (v := nI (i + 1)) C dX6_readCommand_16 (nI_add _ _) ?_
  refine r_put (ws' := [(hM, .inr (6, [.int (nI rf), .ref x1, .int (nI sz), .ref x3, .ref x4, .ref x5, .int (nI ac), .ref x7, .ref x8, .ref x9, .ref x10, .ref x11, .int (nI (i + 1)), .int (nI ou)])), (x1, .inl (eI E, 120, .inl tx)), (r, .inl (eI E, 255, .inl g))]) C 0 12 uX6 rfl tyX6_ok nmX6 rfl (by decide) w_5_73 rfl (tyX6_ok 12 (by decide)) rfl rfl (Nat.le_of_ble_eq_true rfl) rfl dX6_readCommand_17 ?_
  refine r_iload_n C (i := 2) 0 dX6_readCommand_20 rfl rfl ?_
  refine r_look (off := 132) C 153 dX6_readCommand_21 (by decide) (by decide) (by decide) ?_
  refine r_aload_n C (i := 0) 1 dX6_readCommand_153 rfl rfl ?_
  refine r_iconst C dX6_readCommand_154 ki_0 ?_
  refine r_iconst C dX6_readCommand_155 ki_1 ?_
  refine r_iconst C dX6_readCommand_156 ki_5 ?_
  refine r_callV (rest := []) C (c_X6_figures__1 (hM := hM) (rf := rf) (x1 := x1) (sz := sz) (x3 := x3) (x4 := x4) (x5 := x5) (ac := ac) (x7 := x7) (x8 := x8) (x9 := x9) (x10 := x10) (x11 := x11) (sp := i + 1) (ou := ou) (tx := tx) (sg := sg) (x := 0) (h := 5) (hT := hT) (hsp := (by omega)) (hx := (by omega)) (hh := (by omega)) (h1 := (show i + 1 < sz ∧ 48 ≤ sg (i + 1) ∧ sg (i + 1) ≤ 57 by omega)) (h2 := (show sg (i + 1) ≤ 48 + 5 by omega))) lk_X6_figures w_5_136 [0, 1] rfl dX6_readCommand_157 rfl rfl rfl rfl ⟨by decide, by decide⟩ (Nat.le_of_ble_eq_true rfl) ?_
  rintro _ _ ⟨rfl, rfl⟩
  show ω [(hM, .inr (6, [.int (nI rf), .ref x1, .int (nI sz), .ref x3, .ref x4, .ref x5, .int (nI ac), .ref x7, .ref x8, .ref x9, .ref x10, .ref x11, .int (nI (i + 2)), .int (nI ou)])), (x1, .inl (eI E, 120, .inl tx)), (r, .inl (eI E, 255, .inl g))] [(2, .int (nI 99)), (0, .ref hM), (1, .ref r)] [.int (nI (sg (i + 1) - 48))] 160
  refine r_istore_n C (lv' := [(3, .int (nI (sg (i + 1) - 48))), (2, .int (nI 99)), (0, .ref hM), (1, .ref r)]) dX6_readCommand_160 rfl (by decide) rfl ?_
  refine r_aload_n C (i := 0) 2 dX6_readCommand_161 rfl rfl ?_
  refine r_iload_n C (i := 3) 0 dX6_readCommand_162 rfl rfl ?_
  refine r_iconst C dX6_readCommand_163 ki_1 ?_
  refine r_bipush C dX6_readCommand_164 kb_9 ?_
  refine r_callV (rest := []) C (c_X6_figures__1b (hM := hM) (rf := rf) (x1 := x1) (sz := sz) (x3 := x3) (x4 := x4) (x5 := x5) (ac := ac) (x7 := x7) (x8 := x8) (x9 := x9) (x10 := x10) (x11 := x11) (sp := i + 2) (ou := ou) (tx := tx) (sg := sg) (x := sg (i + 1) - 48) (h := 9) (hT := hT) (hsp := (by omega)) (hx := (by omega)) (hh := (by omega)) (h1 := (show ¬ (i + 2 < sz ∧ 48 ≤ sg (i + 2) ∧ sg (i + 2) ≤ 57 ∧ sg (i + 2) ≤ 48 + 9) by omega))) lk_X6_figures w_5_136 [0, 1] rfl dX6_readCommand_166 rfl rfl rfl rfl ⟨by decide, by decide⟩ (Nat.le_of_ble_eq_true rfl) ?_
  rintro _ _ ⟨rfl, rfl⟩
  show ω [(hM, .inr (6, [.int (nI rf), .ref x1, .int (nI sz), .ref x3, .ref x4, .ref x5, .int (nI ac), .ref x7, .ref x8, .ref x9, .ref x10, .ref x11, .int (nI (i + 2)), .int (nI ou)])), (x1, .inl (eI E, 120, .inl tx)), (r, .inl (eI E, 255, .inl g))] [(3, .int (nI (sg (i + 1) - 48))), (2, .int (nI 99)), (0, .ref hM), (1, .ref r)] [.int (mI 0)] 169
  refine r_istore C (lv' := [(4, .int (mI 0)), (3, .int (nI (sg (i + 1) - 48))), (2, .int (nI 99)), (0, .ref hM), (1, .ref r)]) dX6_readCommand_169 (by decide) rfl ?_
  refine r_aload_n C (i := 0) 3 dX6_readCommand_171 rfl rfl ?_
  refine r_iload C (i := 4) 0 dX6_readCommand_172 rfl ?_
  refine r_iconst C dX6_readCommand_174 ki_2 ?_
  refine r_bipush C dX6_readCommand_175 kb_19 ?_
  refine r_callV (rest := []) C (c_X6_figures__n2 (hM := hM) (rf := rf) (x1 := x1) (sz := sz) (x3 := x3) (x4 := x4) (x5 := x5) (ac := ac) (x7 := x7) (x8 := x8) (x9 := x9) (x10 := x10) (x11 := x11) (sp := (i + 2)) (ou := ou) (h := 19) ) lk_X6_figures w_5_136 [0] rfl dX6_readCommand_177 rfl rfl rfl rfl ⟨by decide, by decide⟩ (Nat.le_of_ble_eq_true rfl) ?_
  rintro _ _ ⟨rfl, rfl⟩
  show ω [(hM, .inr (6, [.int (nI rf), .ref x1, .int (nI sz), .ref x3, .ref x4, .ref x5, .int (nI ac), .ref x7, .ref x8, .ref x9, .ref x10, .ref x11, .int (nI (i + 2)), .int (nI ou)])), (x1, .inl (eI E, 120, .inl tx)), (r, .inl (eI E, 255, .inl g))] [(4, .int (mI 0)), (3, .int (nI (sg (i + 1) - 48))), (2, .int (nI 99)), (0, .ref hM), (1, .ref r)] [.int (mI 0)] 180
  refine r_istore C (lv' := [(5, .int (mI 0)), (4, .int (mI 0)), (3, .int (nI (sg (i + 1) - 48))), (2, .int (nI 99)), (0, .ref hM), (1, .ref r)]) dX6_readCommand_180 (by decide) rfl ?_
  refine r_iload C (i := 5) 0 dX6_readCommand_182 rfl ?_
  refine r_iconst C dX6_readCommand_184 ki_m1 ?_
  refine r_icmp_eqT C 234 dX6_readCommand_185 (by decide) ((c_eqMM (by omega) (by omega)).mpr (by decide)) ?_
  refine r_iconst C dX6_readCommand_234 ki_0 ?_
  exact RT.1 _ _ _ _ _ dX6_readCommand_235 rfl nar_0 (⟨rfl, rfl⟩) rfl
set_option maxRecDepth 100000 in
set_option maxHeartbeats 1000000 in
theorem c_X6_readCommand__c2 {l : Launch} {E : Ev} {hM rf x1 sz x3 x4 x5 ac x7 x8 x9 x10 x11 ou : Nat} {r : Nat} {g : Nat → Int32} {σ : Sg} (hR : RepM σ g) (hW : Wf σ) {tx : Nat → Int32} {sg : Nat → Nat} (hT : TxR sg sz tx) {i : Nat} (hi : i < sz) (hc : sg i = 99) (hg : ∀ j, j < 2 → gd sg sz i j) (hb : ¬ gd sg sz i 2) : Ct l E yX6_readCommand cX6_readCommand 6 (some FieldType.boolean) 4 94 [.ref hM, .ref r] [(hM, .inr (6, [.int (nI rf), .ref x1, .int (nI sz), .ref x3, .ref x4, .ref x5, .int (nI ac), .ref x7, .ref x8, .ref x9, .ref x10, .ref x11, .int (nI i), .int (nI ou)])), (x1, .inl (eI E, 120, .inl tx)), (r, .inl (eI E, 255, .inl g))] (fun v9 w9 => v9 = some (.int (nI 0)) ∧ w9 = [(hM, .inr (6, [.int (nI rf), .ref x1, .int (nI sz), .ref x3, .ref x4, .ref x5, .int (nI ac), .ref x7, .ref x8, .ref x9, .ref x10, .ref x11, .int (nI (i + 3)), .int (nI ou)])), (x1, .inl (eI E, 120, .inl tx)), (r, .inl (eI E, 255, .inl g))]) := by
  have hwP := hW.P
  have hwA := hW.A
  have hwS := hW.S
  have hTz := hT.1
  have g0 := (gdL_c0 hc).mp (hg 0 (by decide))
  have g1 := (gdL_c1 hc).mp (hg 1 (by decide))
  have hb9 : ¬ _ := fun z => hb ((gdL_c2 hc).mpr z)
  refine ct_of (by decide +kernel) (Nat.le_of_ble_eq_true rfl) (fun ω C RT => ?_)
  show ω [(hM, .inr (6, [.int (nI rf), .ref x1, .int (nI sz), .ref x3, .ref x4, .ref x5, .int (nI ac), .ref x7, .ref x8, .ref x9, .ref x10, .ref x11, .int (nI i), .int (nI ou)])), (x1, .inl (eI E, 120, .inl tx)), (r, .inl (eI E, 255, .inl g))] [(0, .ref hM), (1, .ref r)] [] 0
  refine r_aload_n C (i := 0) 0 dX6_readCommand_0 rfl rfl ?_
  refine r_get C 0 1 uX6 rfl rfl (by decide) w_5_62 rfl dX6_readCommand_1 ?_
  refine r_aload_n C (i := 0) 0 dX6_readCommand_4 rfl rfl ?_
  refine r_get C 0 12 uX6 rfl rfl (by decide) w_5_73 rfl dX6_readCommand_5 ?_
  refine r_iald (j := i) (v := nI 99) C 1 rfl (by omega) (by decide) ((hT.2 i hi).1.trans (by rw [hc])) dX6_readCommand_8 ?_
  refine r_istore_n C (lv' := [(2, .int (nI 99)), (0, .ref hM), (1, .ref r)]) dX6_readCommand_9 rfl (by decide) rfl ?_
  refine r_aload_n C (i := 0) 1 dX6_readCommand_10 rfl rfl ?_
  refine r_dup C dX6_readCommand_11 rfl ?_
  refine r_get C 0 12 uX6 rfl rfl (by decide) w_5_73 rfl dX6_readCommand_12 ?_
  refine r_iconst C dX6_readCommand_15 ki_1 ?_
  refine r_iadd (v := nI (i + 1)) C dX6_readCommand_16 (nI_add _ _) ?_
  refine r_put (ws' := [(hM, .inr (6, [.int (nI rf), .ref x1, .int (nI sz), .ref x3, .ref x4, .ref x5, .int (nI ac), .ref x7, .ref x8, .ref x9, .ref x10, .ref x11, .int (nI (i + 1)), .int (nI ou)])), (x1, .inl (eI E, 120, .inl tx)), (r, .inl (eI E, 255, .inl g))]) C 0 12 uX6 rfl tyX6_ok nmX6 rfl (by decide) w_5_73 rfl (tyX6_ok 12 (by decide)) rfl rfl (Nat.le_of_ble_eq_true rfl) rfl dX6_readCommand_17 ?_
  refine r_iload_n C (i := 2) 0 dX6_readCommand_20 rfl rfl ?_
  refine r_look (off := 132) C 153 dX6_readCommand_21 (by decide) (by decide) (by decide) ?_
  refine r_aload_n C (i := 0) 1 dX6_readCommand_153 rfl rfl ?_
  refine r_iconst C dX6_readCommand_154 ki_0 ?_
  refine r_iconst C dX6_readCommand_155 ki_1 ?_
  refine r_iconst C dX6_readCommand_156 ki_5 ?_
  refine r_callV (rest := []) C (c_X6_figures__1 (hM := hM) (rf := rf) (x1 := x1) (sz := sz) (x3 := x3) (x4 := x4) (x5 := x5) (ac := ac) (x7 := x7) (x8 := x8) (x9 := x9) (x10 := x10) (x11 := x11) (sp := i + 1) (ou := ou) (tx := tx) (sg := sg) (x := 0) (h := 5) (hT := hT) (hsp := (by omega)) (hx := (by omega)) (hh := (by omega)) (h1 := (show i + 1 < sz ∧ 48 ≤ sg (i + 1) ∧ sg (i + 1) ≤ 57 by omega)) (h2 := (show sg (i + 1) ≤ 48 + 5 by omega))) lk_X6_figures w_5_136 [0, 1] rfl dX6_readCommand_157 rfl rfl rfl rfl ⟨by decide, by decide⟩ (Nat.le_of_ble_eq_true rfl) ?_
  rintro _ _ ⟨rfl, rfl⟩
  show ω [(hM, .inr (6, [.int (nI rf), .ref x1, .int (nI sz), .ref x3, .ref x4, .ref x5, .int (nI ac), .ref x7, .ref x8, .ref x9, .ref x10, .ref x11, .int (nI (i + 2)), .int (nI ou)])), (x1, .inl (eI E, 120, .inl tx)), (r, .inl (eI E, 255, .inl g))] [(2, .int (nI 99)), (0, .ref hM), (1, .ref r)] [.int (nI (sg (i + 1) - 48))] 160
  refine r_istore_n C (lv' := [(3, .int (nI (sg (i + 1) - 48))), (2, .int (nI 99)), (0, .ref hM), (1, .ref r)]) dX6_readCommand_160 rfl (by decide) rfl ?_
  refine r_aload_n C (i := 0) 2 dX6_readCommand_161 rfl rfl ?_
  refine r_iload_n C (i := 3) 0 dX6_readCommand_162 rfl rfl ?_
  refine r_iconst C dX6_readCommand_163 ki_1 ?_
  refine r_bipush C dX6_readCommand_164 kb_9 ?_
  refine r_callV (rest := []) C (c_X6_figures__1 (hM := hM) (rf := rf) (x1 := x1) (sz := sz) (x3 := x3) (x4 := x4) (x5 := x5) (ac := ac) (x7 := x7) (x8 := x8) (x9 := x9) (x10 := x10) (x11 := x11) (sp := i + 2) (ou := ou) (tx := tx) (sg := sg) (x := sg (i + 1) - 48) (h := 9) (hT := hT) (hsp := (by omega)) (hx := (by omega)) (hh := (by omega)) (h1 := (show i + 2 < sz ∧ 48 ≤ sg (i + 2) ∧ sg (i + 2) ≤ 57 by omega)) (h2 := (show sg (i + 2) ≤ 48 + 9 by omega))) lk_X6_figures w_5_136 [0, 1] rfl dX6_readCommand_166 rfl rfl rfl rfl ⟨by decide, by decide⟩ (Nat.le_of_ble_eq_true rfl) ?_
  rintro _ _ ⟨rfl, rfl⟩
  show ω [(hM, .inr (6, [.int (nI rf), .ref x1, .int (nI sz), .ref x3, .ref x4, .ref x5, .int (nI ac), .ref x7, .ref x8, .ref x9, .ref x10, .ref x11, .int (nI (i + 3)), .int (nI ou)])), (x1, .inl (eI E, 120, .inl tx)), (r, .inl (eI E, 255, .inl g))] [(3, .int (nI (sg (i + 1) - 48))), (2, .int (nI 99)), (0, .ref hM), (1, .ref r)] [.int (nI (sg (i + 2) - 48))] 169
  refine r_istore C (lv' := [(4, .int (nI (sg (i + 2) - 48))), (3, .int (nI (sg (i + 1) - 48))), (2, .int (nI 99)), (0, .ref hM), (1, .ref r)]) dX6_readCommand_169 (by decide) rfl ?_
  refine r_aload_n C (i := 0) 3 dX6_readCommand_171 rfl rfl ?_
  refine r_iload C (i := 4) 0 dX6_readCommand_172 rfl ?_
  refine r_iconst C dX6_readCommand_174 ki_2 ?_
  refine r_bipush C dX6_readCommand_175 kb_19 ?_
  refine r_callV (rest := []) C (c_X6_figures__2b0 (hM := hM) (rf := rf) (x1 := x1) (sz := sz) (x3 := x3) (x4 := x4) (x5 := x5) (ac := ac) (x7 := x7) (x8 := x8) (x9 := x9) (x10 := x10) (x11 := x11) (sp := i + 3) (ou := ou) (tx := tx) (sg := sg) (x := sg (i + 2) - 48) (h := 19) (hT := hT) (hsp := (by omega)) (hx := (by omega)) (hh := (by omega)) (h1 := (show ¬ (i + 3 < sz ∧ 48 ≤ sg (i + 3) ∧ sg (i + 3) ≤ 57 ∧ 10 * (sg (i + 3) - 48) ≤ 19) by omega))) lk_X6_figures w_5_136 [0, 1] rfl dX6_readCommand_177 rfl rfl rfl rfl ⟨by decide, by decide⟩ (Nat.le_of_ble_eq_true rfl) ?_
  rintro _ _ ⟨rfl, rfl⟩
  show ω [(hM, .inr (6, [.int (nI rf), .ref x1, .int (nI sz), .ref x3, .ref x4, .ref x5, .int (nI ac), .ref x7, .ref x8, .ref x9, .ref x10, .ref x11, .int (nI (i + 3)), .int (nI ou)])), (x1, .inl (eI E, 120, .inl tx)), (r, .inl (eI E, 255, .inl g))] [(4, .int (nI (sg (i + 2) - 48))), (3, .int (nI (sg (i + 1) - 48))), (2, .int (nI 99)), (0, .ref hM), (1, .ref r)] [.int (mI 0)] 180
  refine r_istore C (lv' := [(5, .int (mI 0)), (4, .int (nI (sg (i + 2) - 48))), (3, .int (nI (sg (i + 1) - 48))), (2, .int (nI 99)), (0, .ref hM), (1, .ref r)]) dX6_readCommand_180 (by decide) rfl ?_
  refine r_iload C (i := 5) 0 dX6_readCommand_182 rfl ?_
  refine r_iconst C dX6_readCommand_184 ki_m1 ?_
  refine r_icmp_eqT C 234 dX6_readCommand_185 (by decide) ((c_eqMM (by omega) (by omega)).mpr (by decide)) ?_
  refine r_iconst C dX6_readCommand_234 ki_0 ?_
  exact RT.1 _ _ _ _ _ dX6_readCommand_235 rfl nar_0 (⟨rfl, rfl⟩) rfl
set_option maxRecDepth 100000 in
set_option maxHeartbeats 1000000 in
theorem c_X6_readCommand__c3 {l : Launch} {E : Ev} {hM rf x1 sz x3 x4 x5 ac x7 x8 x9 x10 x11 ou : Nat} {r : Nat} {g : Nat → Int32} {σ : Sg} (hR : RepM σ g) (hW : Wf σ) {tx : Nat → Int32} {sg : Nat → Nat} (hT : TxR sg sz tx) {i : Nat} (hi : i < sz) (hc : sg i = 99) (hg : ∀ j, j < 3 → gd sg sz i j) (hb : ¬ gd sg sz i 3) : Ct l E yX6_readCommand cX6_readCommand 6 (some FieldType.boolean) 4 94 [.ref hM, .ref r] [(hM, .inr (6, [.int (nI rf), .ref x1, .int (nI sz), .ref x3, .ref x4, .ref x5, .int (nI ac), .ref x7, .ref x8, .ref x9, .ref x10, .ref x11, .int (nI i), .int (nI ou)])), (x1, .inl (eI E, 120, .inl tx)), (r, .inl (eI E, 255, .inl g))] (fun v9 w9 => v9 = some (.int (nI 0)) ∧ w9 = [(hM, .inr (6, [.int (nI rf), .ref x1, .int (nI sz), .ref x3, .ref x4, .ref x5, .int (nI ac), .ref x7, .ref x8, .ref x9, .ref x10, .ref x11, .int (nI (i + 4)), .int (nI ou)])), (x1, .inl (eI E, 120, .inl tx)), (r, .inl (eI E, 255, .inl g))]) := by
  have hwP := hW.P
  have hwA := hW.A
  have hwS := hW.S
  have hTz := hT.1
  have g0 := (gdL_c0 hc).mp (hg 0 (by decide))
  have g1 := (gdL_c1 hc).mp (hg 1 (by decide))
  have g2 := (gdL_c2 hc).mp (hg 2 (by decide))
  have hb9 : ¬ _ := fun z => hb ((gdL_c3 hc).mpr z)
  refine ct_of (by decide +kernel) (Nat.le_of_ble_eq_true rfl) (fun ω C RT => ?_)
  show ω [(hM, .inr (6, [.int (nI rf), .ref x1, .int (nI sz), .ref x3, .ref x4, .ref x5, .int (nI ac), .ref x7, .ref x8, .ref x9, .ref x10, .ref x11, .int (nI i), .int (nI ou)])), (x1, .inl (eI E, 120, .inl tx)), (r, .inl (eI E, 255, .inl g))] [(0, .ref hM), (1, .ref r)] [] 0
  refine r_aload_n C (i := 0) 0 dX6_readCommand_0 rfl rfl ?_
  refine r_get C 0 1 uX6 rfl rfl (by decide) w_5_62 rfl dX6_readCommand_1 ?_
  refine r_aload_n C (i := 0) 0 dX6_readCommand_4 rfl rfl ?_
  refine r_get C 0 12 uX6 rfl rfl (by decide) w_5_73 rfl dX6_readCommand_5 ?_
  refine r_iald (j := i) (v := nI 99) C 1 rfl (by omega) (by decide) ((hT.2 i hi).1.trans (by rw [hc])) dX6_readCommand_8 ?_
  refine r_istore_n C (lv' := [(2, .int (nI 99)), (0, .ref hM), (1, .ref r)]) dX6_readCommand_9 rfl (by decide) rfl ?_
  refine r_aload_n C (i := 0) 1 dX6_readCommand_10 rfl rfl ?_
  refine r_dup C dX6_readCommand_11 rfl ?_
  refine r_get C 0 12 uX6 rfl rfl (by decide) w_5_73 rfl dX6_readCommand_12 ?_
  refine r_iconst C dX6_readCommand_15 ki_1 ?_
  refine r_iadd (v := nI (i + 1)) C dX6_readCommand_16 (nI_add _ _) ?_
  refine r_put (ws' := [(hM, .inr (6, [.int (nI rf), .ref x1, .int (nI sz), .ref x3, .ref x4, .ref x5, .int (nI ac), .ref x7, .ref x8, .ref x9, .ref x10, .ref x11, .int (nI (i + 1)), .int (nI ou)])), (x1, .inl (eI E, 120, .inl tx)), (r, .inl (eI E, 255, .inl g))]) C 0 12 uX6 rfl tyX6_ok nmX6 rfl (by decide) w_5_73 rfl (tyX6_ok 12 (by decide)) rfl rfl (Nat.le_of_ble_eq_true rfl) rfl dX6_readCommand_17 ?_
  refine r_iload_n C (i := 2) 0 dX6_readCommand_20 rfl rfl ?_
  refine r_look (off := 132) C 153 dX6_readCommand_21 (by decide) (by decide) (by decide) ?_
  refine r_aload_n C (i := 0) 1 dX6_readCommand_153 rfl rfl ?_
  refine r_iconst C dX6_readCommand_154 ki_0 ?_
  refine r_iconst C dX6_readCommand_155 ki_1 ?_
  refine r_iconst C dX6_readCommand_156 ki_5 ?_
  refine r_callV (rest := []) C (c_X6_figures__1 (hM := hM) (rf := rf) (x1 := x1) (sz := sz) (x3 := x3) (x4 := x4) (x5 := x5) (ac := ac) (x7 := x7) (x8 := x8) (x9 := x9) (x10 := x10) (x11 := x11) (sp := i + 1) (ou := ou) (tx := tx) (sg := sg) (x := 0) (h := 5) (hT := hT) (hsp := (by omega)) (hx := (by omega)) (hh := (by omega)) (h1 := (show i + 1 < sz ∧ 48 ≤ sg (i + 1) ∧ sg (i + 1) ≤ 57 by omega)) (h2 := (show sg (i + 1) ≤ 48 + 5 by omega))) lk_X6_figures w_5_136 [0, 1] rfl dX6_readCommand_157 rfl rfl rfl rfl ⟨by decide, by decide⟩ (Nat.le_of_ble_eq_true rfl) ?_
  rintro _ _ ⟨rfl, rfl⟩
  show ω [(hM, .inr (6, [.int (nI rf), .ref x1, .int (nI sz), .ref x3, .ref x4, .ref x5, .int (nI ac), .ref x7, .ref x8, .ref x9, .ref x10, .ref x11, .int (nI (i + 2)), .int (nI ou)])), (x1, .inl (eI E, 120, .inl tx)), (r, .inl (eI E, 255, .inl g))] [(2, .int (nI 99)), (0, .ref hM), (1, .ref r)] [.int (nI (sg (i + 1) - 48))] 160
  refine r_istore_n C (lv' := [(3, .int (nI (sg (i + 1) - 48))), (2, .int (nI 99)), (0, .ref hM), (1, .ref r)]) dX6_readCommand_160 rfl (by decide) rfl ?_
  refine r_aload_n C (i := 0) 2 dX6_readCommand_161 rfl rfl ?_
  refine r_iload_n C (i := 3) 0 dX6_readCommand_162 rfl rfl ?_
  refine r_iconst C dX6_readCommand_163 ki_1 ?_
  refine r_bipush C dX6_readCommand_164 kb_9 ?_
  refine r_callV (rest := []) C (c_X6_figures__1 (hM := hM) (rf := rf) (x1 := x1) (sz := sz) (x3 := x3) (x4 := x4) (x5 := x5) (ac := ac) (x7 := x7) (x8 := x8) (x9 := x9) (x10 := x10) (x11 := x11) (sp := i + 2) (ou := ou) (tx := tx) (sg := sg) (x := sg (i + 1) - 48) (h := 9) (hT := hT) (hsp := (by omega)) (hx := (by omega)) (hh := (by omega)) (h1 := (show i + 2 < sz ∧ 48 ≤ sg (i + 2) ∧ sg (i + 2) ≤ 57 by omega)) (h2 := (show sg (i + 2) ≤ 48 + 9 by omega))) lk_X6_figures w_5_136 [0, 1] rfl dX6_readCommand_166 rfl rfl rfl rfl ⟨by decide, by decide⟩ (Nat.le_of_ble_eq_true rfl) ?_
  rintro _ _ ⟨rfl, rfl⟩
  show ω [(hM, .inr (6, [.int (nI rf), .ref x1, .int (nI sz), .ref x3, .ref x4, .ref x5, .int (nI ac), .ref x7, .ref x8, .ref x9, .ref x10, .ref x11, .int (nI (i + 3)), .int (nI ou)])), (x1, .inl (eI E, 120, .inl tx)), (r, .inl (eI E, 255, .inl g))] [(3, .int (nI (sg (i + 1) - 48))), (2, .int (nI 99)), (0, .ref hM), (1, .ref r)] [.int (nI (sg (i + 2) - 48))] 169
  refine r_istore C (lv' := [(4, .int (nI (sg (i + 2) - 48))), (3, .int (nI (sg (i + 1) - 48))), (2, .int (nI 99)), (0, .ref hM), (1, .ref r)]) dX6_readCommand_169 (by decide) rfl ?_
  refine r_aload_n C (i := 0) 3 dX6_readCommand_171 rfl rfl ?_
  refine r_iload C (i := 4) 0 dX6_readCommand_172 rfl ?_
  refine r_iconst C dX6_readCommand_174 ki_2 ?_
  refine r_bipush C dX6_readCommand_175 kb_19 ?_
  refine r_callV (rest := []) C (c_X6_figures__2b1 (hM := hM) (rf := rf) (x1 := x1) (sz := sz) (x3 := x3) (x4 := x4) (x5 := x5) (ac := ac) (x7 := x7) (x8 := x8) (x9 := x9) (x10 := x10) (x11 := x11) (sp := i + 3) (ou := ou) (tx := tx) (sg := sg) (x := sg (i + 2) - 48) (h := 19) (hT := hT) (hsp := (by omega)) (hx := (by omega)) (hh := (by omega)) (h1 := (show i + 3 < sz ∧ 48 ≤ sg (i + 3) ∧ sg (i + 3) ≤ 57 ∧ 10 * (sg (i + 3) - 48) ≤ 19 by omega)) (h2 := (show ¬ (i + 4 < sz ∧ 48 ≤ sg (i + 4) ∧ sg (i + 4) ≤ 57 ∧ 10 * (sg (i + 3) - 48) + (sg (i + 4) - 48) ≤ 19) by omega))) lk_X6_figures w_5_136 [0, 1] rfl dX6_readCommand_177 rfl rfl rfl rfl ⟨by decide, by decide⟩ (Nat.le_of_ble_eq_true rfl) ?_
  rintro _ _ ⟨rfl, rfl⟩
  show ω [(hM, .inr (6, [.int (nI rf), .ref x1, .int (nI sz), .ref x3, .ref x4, .ref x5, .int (nI ac), .ref x7, .ref x8, .ref x9, .ref x10, .ref x11, .int (nI (i + 4)), .int (nI ou)])), (x1, .inl (eI E, 120, .inl tx)), (r, .inl (eI E, 255, .inl g))] [(4, .int (nI (sg (i + 2) - 48))), (3, .int (nI (sg (i + 1) - 48))), (2, .int (nI 99)), (0, .ref hM), (1, .ref r)] [.int (mI 0)] 180
  refine r_istore C (lv' := [(5, .int (mI 0)), (4, .int (nI (sg (i + 2) - 48))), (3, .int (nI (sg (i + 1) - 48))), (2, .int (nI 99)), (0, .ref hM), (1, .ref r)]) dX6_readCommand_180 (by decide) rfl ?_
  refine r_iload C (i := 5) 0 dX6_readCommand_182 rfl ?_
  refine r_iconst C dX6_readCommand_184 ki_m1 ?_
  refine r_icmp_eqT C 234 dX6_readCommand_185 (by decide) ((c_eqMM (by omega) (by omega)).mpr (by decide)) ?_
  refine r_iconst C dX6_readCommand_234 ki_0 ?_
  exact RT.1 _ _ _ _ _ dX6_readCommand_235 rfl nar_0 (⟨rfl, rfl⟩) rfl
set_option maxRecDepth 100000 in
set_option maxHeartbeats 1000000 in
theorem c_X6_readCommand__u0 {l : Launch} {E : Ev} {hM rf x1 sz x3 x4 x5 ac x7 x8 x9 x10 x11 ou : Nat} {r : Nat} {g : Nat → Int32} {σ : Sg} (hR : RepM σ g) (hW : Wf σ) {tx : Nat → Int32} {sg : Nat → Nat} (hT : TxR sg sz tx) {i : Nat} (hi : i < sz) (hc : sg i = 117) (hg : ∀ j, j < 0 → gd sg sz i j) (hb : ¬ gd sg sz i 0) : Ct l E yX6_readCommand cX6_readCommand 6 (some FieldType.boolean) 4 94 [.ref hM, .ref r] [(hM, .inr (6, [.int (nI rf), .ref x1, .int (nI sz), .ref x3, .ref x4, .ref x5, .int (nI ac), .ref x7, .ref x8, .ref x9, .ref x10, .ref x11, .int (nI i), .int (nI ou)])), (x1, .inl (eI E, 120, .inl tx)), (r, .inl (eI E, 255, .inl g))] (fun v9 w9 => v9 = some (.int (nI 0)) ∧ w9 = [(hM, .inr (6, [.int (nI rf), .ref x1, .int (nI sz), .ref x3, .ref x4, .ref x5, .int (nI ac), .ref x7, .ref x8, .ref x9, .ref x10, .ref x11, .int (nI (i + 1)), .int (nI ou)])), (x1, .inl (eI E, 120, .inl tx)), (r, .inl (eI E, 255, .inl g))]) := by
  have hwP := hW.P
  have hwA := hW.A
  have hwS := hW.S
  have hTz := hT.1
  have hb9 : ¬ _ := fun z => hb ((gdL_u0 hc).mpr z)
  refine ct_of (by decide +kernel) (Nat.le_of_ble_eq_true rfl) (fun ω C RT => ?_)
  show ω [(hM, .inr (6, [.int (nI rf), .ref x1, .int (nI sz), .ref x3, .ref x4, .ref x5, .int (nI ac), .ref x7, .ref x8, .ref x9, .ref x10, .ref x11, .int (nI i), .int (nI ou)])), (x1, .inl (eI E, 120, .inl tx)), (r, .inl (eI E, 255, .inl g))] [(0, .ref hM), (1, .ref r)] [] 0
  refine r_aload_n C (i := 0) 0 dX6_readCommand_0 rfl rfl ?_
  refine r_get C 0 1 uX6 rfl rfl (by decide) w_5_62 rfl dX6_readCommand_1 ?_
  refine r_aload_n C (i := 0) 0 dX6_readCommand_4 rfl rfl ?_
  refine r_get C 0 12 uX6 rfl rfl (by decide) w_5_73 rfl dX6_readCommand_5 ?_
  refine r_iald (j := i) (v := nI 117) C 1 rfl (by omega) (by decide) ((hT.2 i hi).1.trans (by rw [hc])) dX6_readCommand_8 ?_
  refine r_istore_n C (lv' := [(2, .int (nI 117)), (0, .ref hM), (1, .ref r)]) dX6_readCommand_9 rfl (by decide) rfl ?_
  refine r_aload_n C (i := 0) 1 dX6_readCommand_10 rfl rfl ?_
  refine r_dup C dX6_readCommand_11 rfl ?_
  refine r_get C 0 12 uX6 rfl rfl (by decide) w_5_73 rfl dX6_readCommand_12 ?_
  refine r_iconst C dX6_readCommand_15 ki_1 ?_
  refine r_iadd (v := nI (i + 1)) C dX6_readCommand_16 (nI_add _ _) ?_
  refine r_put (ws' := [(hM, .inr (6, [.int (nI rf), .ref x1, .int (nI sz), .ref x3, .ref x4, .ref x5, .int (nI ac), .ref x7, .ref x8, .ref x9, .ref x10, .ref x11, .int (nI (i + 1)), .int (nI ou)])), (x1, .inl (eI E, 120, .inl tx)), (r, .inl (eI E, 255, .inl g))]) C 0 12 uX6 rfl tyX6_ok nmX6 rfl (by decide) w_5_73 rfl (tyX6_ok 12 (by decide)) rfl rfl (Nat.le_of_ble_eq_true rfl) rfl dX6_readCommand_17 ?_
  refine r_iload_n C (i := 2) 0 dX6_readCommand_20 rfl rfl ?_
  refine r_look (off := 215) C 236 dX6_readCommand_21 (by decide) (by decide) (by decide) ?_
  refine r_aload_n C (i := 0) 1 dX6_readCommand_236 rfl rfl ?_
  refine r_iconst C dX6_readCommand_237 ki_0 ?_
  refine r_iconst C dX6_readCommand_238 ki_1 ?_
  refine r_iconst C dX6_readCommand_239 ki_5 ?_
  refine r_callV (rest := []) C (c_X6_figures__1b (hM := hM) (rf := rf) (x1 := x1) (sz := sz) (x3 := x3) (x4 := x4) (x5 := x5) (ac := ac) (x7 := x7) (x8 := x8) (x9 := x9) (x10 := x10) (x11 := x11) (sp := i + 1) (ou := ou) (tx := tx) (sg := sg) (x := 0) (h := 5) (hT := hT) (hsp := (by omega)) (hx := (by omega)) (hh := (by omega)) (h1 := (show ¬ (i + 1 < sz ∧ 48 ≤ sg (i + 1) ∧ sg (i + 1) ≤ 57 ∧ sg (i + 1) ≤ 48 + 5) by omega))) lk_X6_figures w_5_136 [0, 1] rfl dX6_readCommand_240 rfl rfl rfl rfl ⟨by decide, by decide⟩ (Nat.le_of_ble_eq_true rfl) ?_
  rintro _ _ ⟨rfl, rfl⟩
  show ω [(hM, .inr (6, [.int (nI rf), .ref x1, .int (nI sz), .ref x3, .ref x4, .ref x5, .int (nI ac), .ref x7, .ref x8, .ref x9, .ref x10, .ref x11, .int (nI (i + 1)), .int (nI ou)])), (x1, .inl (eI E, 120, .inl tx)), (r, .inl (eI E, 255, .inl g))] [(2, .int (nI 117)), (0, .ref hM), (1, .ref r)] [.int (mI 0)] 243
  refine r_istore_n C (lv' := [(3, .int (mI 0)), (2, .int (nI 117)), (0, .ref hM), (1, .ref r)]) dX6_readCommand_243 rfl (by decide) rfl ?_
  refine r_aload_n C (i := 0) 2 dX6_readCommand_244 rfl rfl ?_
  refine r_iload_n C (i := 3) 0 dX6_readCommand_245 rfl rfl ?_
  refine r_iconst C dX6_readCommand_246 ki_1 ?_
  refine r_bipush C dX6_readCommand_247 kb_9 ?_
  refine r_callV (rest := []) C (c_X6_figures__n1 (hM := hM) (rf := rf) (x1 := x1) (sz := sz) (x3 := x3) (x4 := x4) (x5 := x5) (ac := ac) (x7 := x7) (x8 := x8) (x9 := x9) (x10 := x10) (x11 := x11) (sp := (i + 1)) (ou := ou) (h := 9) ) lk_X6_figures w_5_136 [0] rfl dX6_readCommand_249 rfl rfl rfl rfl ⟨by decide, by decide⟩ (Nat.le_of_ble_eq_true rfl) ?_
  rintro _ _ ⟨rfl, rfl⟩
  show ω [(hM, .inr (6, [.int (nI rf), .ref x1, .int (nI sz), .ref x3, .ref x4, .ref x5, .int (nI ac), .ref x7, .ref x8, .ref x9, .ref x10, .ref x11, .int (nI (i + 1)), .int (nI ou)])), (x1, .inl (eI E, 120, .inl tx)), (r, .inl (eI E, 255, .inl g))] [(3, .int (mI 0)), (2, .int (nI 117)), (0, .ref hM), (1, .ref r)] [.int (mI 0)] 252
  refine r_istore C (lv' := [(4, .int (mI 0)), (3, .int (mI 0)), (2, .int (nI 117)), (0, .ref hM), (1, .ref r)]) dX6_readCommand_252 (by decide) rfl ?_
  refine r_iload C (i := 4) 0 dX6_readCommand_254 rfl ?_
  refine r_iconst C dX6_readCommand_256 ki_m1 ?_
  refine r_icmp_eqT C 296 dX6_readCommand_257 (by decide) ((c_eqMM (by omega) (by omega)).mpr (by decide)) ?_
  refine r_iconst C dX6_readCommand_296 ki_0 ?_
  exact RT.1 _ _ _ _ _ dX6_readCommand_297 rfl nar_0 (⟨rfl, rfl⟩) rfl
set_option maxRecDepth 100000 in
set_option maxHeartbeats 1000000 in
theorem c_X6_readCommand__u1 {l : Launch} {E : Ev} {hM rf x1 sz x3 x4 x5 ac x7 x8 x9 x10 x11 ou : Nat} {r : Nat} {g : Nat → Int32} {σ : Sg} (hR : RepM σ g) (hW : Wf σ) {tx : Nat → Int32} {sg : Nat → Nat} (hT : TxR sg sz tx) {i : Nat} (hi : i < sz) (hc : sg i = 117) (hg : ∀ j, j < 1 → gd sg sz i j) (hb : ¬ gd sg sz i 1) : Ct l E yX6_readCommand cX6_readCommand 6 (some FieldType.boolean) 4 94 [.ref hM, .ref r] [(hM, .inr (6, [.int (nI rf), .ref x1, .int (nI sz), .ref x3, .ref x4, .ref x5, .int (nI ac), .ref x7, .ref x8, .ref x9, .ref x10, .ref x11, .int (nI i), .int (nI ou)])), (x1, .inl (eI E, 120, .inl tx)), (r, .inl (eI E, 255, .inl g))] (fun v9 w9 => v9 = some (.int (nI 0)) ∧ w9 = [(hM, .inr (6, [.int (nI rf), .ref x1, .int (nI sz), .ref x3, .ref x4, .ref x5, .int (nI ac), .ref x7, .ref x8, .ref x9, .ref x10, .ref x11, .int (nI (i + 2)), .int (nI ou)])), (x1, .inl (eI E, 120, .inl tx)), (r, .inl (eI E, 255, .inl g))]) := by
  have hwP := hW.P
  have hwA := hW.A
  have hwS := hW.S
  have hTz := hT.1
  have g0 := (gdL_u0 hc).mp (hg 0 (by decide))
  have hb9 : ¬ _ := fun z => hb ((gdL_u1 hc).mpr z)
  refine ct_of (by decide +kernel) (Nat.le_of_ble_eq_true rfl) (fun ω C RT => ?_)
  show ω [(hM, .inr (6, [.int (nI rf), .ref x1, .int (nI sz), .ref x3, .ref x4, .ref x5, .int (nI ac), .ref x7, .ref x8, .ref x9, .ref x10, .ref x11, .int (nI i), .int (nI ou)])), (x1, .inl (eI E, 120, .inl tx)), (r, .inl (eI E, 255, .inl g))] [(0, .ref hM), (1, .ref r)] [] 0
  refine r_aload_n C (i := 0) 0 dX6_readCommand_0 rfl rfl ?_
  refine r_get C 0 1 uX6 rfl rfl (by decide) w_5_62 rfl dX6_readCommand_1 ?_
  refine r_aload_n C (i := 0) 0 dX6_readCommand_4 rfl rfl ?_
  refine r_get C 0 12 uX6 rfl rfl (by decide) w_5_73 rfl dX6_readCommand_5 ?_
  refine r_iald (j := i) (v := nI 117) C 1 rfl (by omega) (by decide) ((hT.2 i hi).1.trans (by rw [hc])) dX6_readCommand_8 ?_
  refine r_istore_n C (lv' := [(2, .int (nI 117)), (0, .ref hM), (1, .ref r)]) dX6_readCommand_9 rfl (by decide) rfl ?_
  refine r_aload_n C (i := 0) 1 dX6_readCommand_10 rfl rfl ?_
  refine r_dup C dX6_readCommand_11 rfl ?_
  refine r_get C 0 12 uX6 rfl rfl (by decide) w_5_73 rfl dX6_readCommand_12 ?_
  refine r_iconst C dX6_readCommand_15 ki_1 ?_
  refine r_iadd (v := nI (i + 1)) C dX6_readCommand_16 (nI_add _ _) ?_
  refine r_put (ws' := [(hM, .inr (6, [.int (nI rf), .ref x1, .int (nI sz), .ref x3, .ref x4, .ref x5, .int (nI ac), .ref x7, .ref x8, .ref x9, .ref x10, .ref x11, .int (nI (i + 1)), .int (nI ou)])), (x1, .inl (eI E, 120, .inl tx)), (r, .inl (eI E, 255, .inl g))]) C 0 12 uX6 rfl tyX6_ok nmX6 rfl (by decide) w_5_73 rfl (tyX6_ok 12 (by decide)) rfl rfl (Nat.le_of_ble_eq_true rfl) rfl dX6_readCommand_17 ?_
  refine r_iload_n C (i := 2) 0 dX6_readCommand_20 rfl rfl ?_
  refine r_look (off := 215) C 236 dX6_readCommand_21 (by decide) (by decide) (by decide) ?_
  refine r_aload_n C (i := 0) 1 dX6_readCommand_236 rfl rfl ?_
  refine r_iconst C dX6_readCommand_237 ki_0 ?_
  refine r_iconst C dX6_readCommand_238 ki_1 ?_
  refine r_iconst C dX6_readCommand_239 ki_5 ?_
  refine r_callV (rest := []) C (c_X6_figures__1 (hM := hM) (rf := rf) (x1 := x1) (sz := sz) (x3 := x3) (x4 := x4) (x5 := x5) (ac := ac) (x7 := x7) (x8 := x8) (x9 := x9) (x10 := x10) (x11 := x11) (sp := i + 1) (ou := ou) (tx := tx) (sg := sg) (x := 0) (h := 5) (hT := hT) (hsp := (by omega)) (hx := (by omega)) (hh := (by omega)) (h1 := (show i + 1 < sz ∧ 48 ≤ sg (i + 1) ∧ sg (i + 1) ≤ 57 by omega)) (h2 := (show sg (i + 1) ≤ 48 + 5 by omega))) lk_X6_figures w_5_136 [0, 1] rfl dX6_readCommand_240 rfl rfl rfl rfl ⟨by decide, by decide⟩ (Nat.le_of_ble_eq_true rfl) ?_
  rintro _ _ ⟨rfl, rfl⟩
  show ω [(hM, .inr (6, [.int (nI rf), .ref x1, .int (nI sz), .ref x3, .ref x4, .ref x5, .int (nI ac), .ref x7, .ref x8, .ref x9, .ref x10, .ref x11, .int (nI (i + 2)), .int (nI ou)])), (x1, .inl (eI E, 120, .inl tx)), (r, .inl (eI E, 255, .inl g))] [(2, .int (nI 117)), (0, .ref hM), (1, .ref r)] [.int (nI (sg (i + 1) - 48))] 243
  refine r_istore_n C (lv' := [(3, .int (nI (sg (i + 1) - 48))), (2, .int (nI 117)), (0, .ref hM), (1, .ref r)]) dX6_readCommand_243 rfl (by decide) rfl ?_
  refine r_aload_n C (i := 0) 2 dX6_readCommand_244 rfl rfl ?_
  refine r_iload_n C (i := 3) 0 dX6_readCommand_245 rfl rfl ?_
  refine r_iconst C dX6_readCommand_246 ki_1 ?_
  refine r_bipush C dX6_readCommand_247 kb_9 ?_
  refine r_callV (rest := []) C (c_X6_figures__1b (hM := hM) (rf := rf) (x1 := x1) (sz := sz) (x3 := x3) (x4 := x4) (x5 := x5) (ac := ac) (x7 := x7) (x8 := x8) (x9 := x9) (x10 := x10) (x11 := x11) (sp := i + 2) (ou := ou) (tx := tx) (sg := sg) (x := sg (i + 1) - 48) (h := 9) (hT := hT) (hsp := (by omega)) (hx := (by omega)) (hh := (by omega)) (h1 := (show ¬ (i + 2 < sz ∧ 48 ≤ sg (i + 2) ∧ sg (i + 2) ≤ 57 ∧ sg (i + 2) ≤ 48 + 9) by omega))) lk_X6_figures w_5_136 [0, 1] rfl dX6_readCommand_249 rfl rfl rfl rfl ⟨by decide, by decide⟩ (Nat.le_of_ble_eq_true rfl) ?_
  rintro _ _ ⟨rfl, rfl⟩
  show ω [(hM, .inr (6, [.int (nI rf), .ref x1, .int (nI sz), .ref x3, .ref x4, .ref x5, .int (nI ac), .ref x7, .ref x8, .ref x9, .ref x10, .ref x11, .int (nI (i + 2)), .int (nI ou)])), (x1, .inl (eI E, 120, .inl tx)), (r, .inl (eI E, 255, .inl g))] [(3, .int (nI (sg (i + 1) - 48))), (2, .int (nI 117)), (0, .ref hM), (1, .ref r)] [.int (mI 0)] 252
  refine r_istore C (lv' := [(4, .int (mI 0)), (3, .int (nI (sg (i + 1) - 48))), (2, .int (nI 117)), (0, .ref hM), (1, .ref r)]) dX6_readCommand_252 (by decide) rfl ?_
  refine r_iload C (i := 4) 0 dX6_readCommand_254 rfl ?_
  refine r_iconst C dX6_readCommand_256 ki_m1 ?_
  refine r_icmp_eqT C 296 dX6_readCommand_257 (by decide) ((c_eqMM (by omega) (by omega)).mpr (by decide)) ?_
  refine r_iconst C dX6_readCommand_296 ki_0 ?_
  exact RT.1 _ _ _ _ _ dX6_readCommand_297 rfl nar_0 (⟨rfl, rfl⟩) rfl
set_option maxRecDepth 100000 in
set_option maxHeartbeats 1000000 in
theorem c_X6_readCommand__i0 {l : Launch} {E : Ev} {hM rf x1 sz x3 x4 x5 ac x7 x8 x9 x10 x11 ou : Nat} {r : Nat} {g : Nat → Int32} {σ : Sg} (hR : RepM σ g) (hW : Wf σ) {tx : Nat → Int32} {sg : Nat → Nat} (hT : TxR sg sz tx) {i : Nat} (hi : i < sz) (hc : sg i = 105) (hg : ∀ j, j < 0 → gd sg sz i j) (hb : ¬ gd sg sz i 0) : Ct l E yX6_readCommand cX6_readCommand 6 (some FieldType.boolean) 4 94 [.ref hM, .ref r] [(hM, .inr (6, [.int (nI rf), .ref x1, .int (nI sz), .ref x3, .ref x4, .ref x5, .int (nI ac), .ref x7, .ref x8, .ref x9, .ref x10, .ref x11, .int (nI i), .int (nI ou)])), (x1, .inl (eI E, 120, .inl tx)), (r, .inl (eI E, 255, .inl g))] (fun v9 w9 => v9 = some (.int (nI 0)) ∧ w9 = [(hM, .inr (6, [.int (nI rf), .ref x1, .int (nI sz), .ref x3, .ref x4, .ref x5, .int (nI ac), .ref x7, .ref x8, .ref x9, .ref x10, .ref x11, .int (nI (i + 1)), .int (nI ou)])), (x1, .inl (eI E, 120, .inl tx)), (r, .inl (eI E, 255, .inl g))]) := by
  have hwP := hW.P
  have hwA := hW.A
  have hwS := hW.S
  have hTz := hT.1
  have hb9 : ¬ _ := fun z => hb ((gdL_i0 hc).mpr z)
  refine ct_of (by decide +kernel) (Nat.le_of_ble_eq_true rfl) (fun ω C RT => ?_)
  show ω [(hM, .inr (6, [.int (nI rf), .ref x1, .int (nI sz), .ref x3, .ref x4, .ref x5, .int (nI ac), .ref x7, .ref x8, .ref x9, .ref x10, .ref x11, .int (nI i), .int (nI ou)])), (x1, .inl (eI E, 120, .inl tx)), (r, .inl (eI E, 255, .inl g))] [(0, .ref hM), (1, .ref r)] [] 0
  refine r_aload_n C (i := 0) 0 dX6_readCommand_0 rfl rfl ?_
  refine r_get C 0 1 uX6 rfl rfl (by decide) w_5_62 rfl dX6_readCommand_1 ?_
  refine r_aload_n C (i := 0) 0 dX6_readCommand_4 rfl rfl ?_
  refine r_get C 0 12 uX6 rfl rfl (by decide) w_5_73 rfl dX6_readCommand_5 ?_
  refine r_iald (j := i) (v := nI 105) C 1 rfl (by omega) (by decide) ((hT.2 i hi).1.trans (by rw [hc])) dX6_readCommand_8 ?_
  refine r_istore_n C (lv' := [(2, .int (nI 105)), (0, .ref hM), (1, .ref r)]) dX6_readCommand_9 rfl (by decide) rfl ?_
  refine r_aload_n C (i := 0) 1 dX6_readCommand_10 rfl rfl ?_
  refine r_dup C dX6_readCommand_11 rfl ?_
  refine r_get C 0 12 uX6 rfl rfl (by decide) w_5_73 rfl dX6_readCommand_12 ?_
  refine r_iconst C dX6_readCommand_15 ki_1 ?_
  refine r_iadd (v := nI (i + 1)) C dX6_readCommand_16 (nI_add _ _) ?_
  refine r_put (ws' := [(hM, .inr (6, [.int (nI rf), .ref x1, .int (nI sz), .ref x3, .ref x4, .ref x5, .int (nI ac), .ref x7, .ref x8, .ref x9, .ref x10, .ref x11, .int (nI (i + 1)), .int (nI ou)])), (x1, .inl (eI E, 120, .inl tx)), (r, .inl (eI E, 255, .inl g))]) C 0 12 uX6 rfl tyX6_ok nmX6 rfl (by decide) w_5_73 rfl (tyX6_ok 12 (by decide)) rfl rfl (Nat.le_of_ble_eq_true rfl) rfl dX6_readCommand_17 ?_
  refine r_iload_n C (i := 2) 0 dX6_readCommand_20 rfl rfl ?_
  refine r_look (off := 277) C 298 dX6_readCommand_21 (by decide) (by decide) (by decide) ?_
  refine r_aload_n C (i := 0) 1 dX6_readCommand_298 rfl rfl ?_
  refine r_iconst C dX6_readCommand_299 ki_0 ?_
  refine r_iconst C dX6_readCommand_300 ki_1 ?_
  refine r_bipush C dX6_readCommand_301 kb_9 ?_
  refine r_callV (rest := []) C (c_X6_figures__1b (hM := hM) (rf := rf) (x1 := x1) (sz := sz) (x3 := x3) (x4 := x4) (x5 := x5) (ac := ac) (x7 := x7) (x8 := x8) (x9 := x9) (x10 := x10) (x11 := x11) (sp := i + 1) (ou := ou) (tx := tx) (sg := sg) (x := 0) (h := 9) (hT := hT) (hsp := (by omega)) (hx := (by omega)) (hh := (by omega)) (h1 := (show ¬ (i + 1 < sz ∧ 48 ≤ sg (i + 1) ∧ sg (i + 1) ≤ 57 ∧ sg (i + 1) ≤ 48 + 9) by omega))) lk_X6_figures w_5_136 [0, 1] rfl dX6_readCommand_303 rfl rfl rfl rfl ⟨by decide, by decide⟩ (Nat.le_of_ble_eq_true rfl) ?_
  rintro _ _ ⟨rfl, rfl⟩
  show ω [(hM, .inr (6, [.int (nI rf), .ref x1, .int (nI sz), .ref x3, .ref x4, .ref x5, .int (nI ac), .ref x7, .ref x8, .ref x9, .ref x10, .ref x11, .int (nI (i + 1)), .int (nI ou)])), (x1, .inl (eI E, 120, .inl tx)), (r, .inl (eI E, 255, .inl g))] [(2, .int (nI 105)), (0, .ref hM), (1, .ref r)] [.int (mI 0)] 306
  refine r_istore_n C (lv' := [(3, .int (mI 0)), (2, .int (nI 105)), (0, .ref hM), (1, .ref r)]) dX6_readCommand_306 rfl (by decide) rfl ?_
  refine r_aload_n C (i := 0) 2 dX6_readCommand_307 rfl rfl ?_
  refine r_iload_n C (i := 3) 0 dX6_readCommand_308 rfl rfl ?_
  refine r_iconst C dX6_readCommand_309 ki_2 ?_
  refine r_bipush C dX6_readCommand_310 kb_19 ?_
  refine r_callV (rest := []) C (c_X6_figures__n2 (hM := hM) (rf := rf) (x1 := x1) (sz := sz) (x3 := x3) (x4 := x4) (x5 := x5) (ac := ac) (x7 := x7) (x8 := x8) (x9 := x9) (x10 := x10) (x11 := x11) (sp := (i + 1)) (ou := ou) (h := 19) ) lk_X6_figures w_5_136 [0] rfl dX6_readCommand_312 rfl rfl rfl rfl ⟨by decide, by decide⟩ (Nat.le_of_ble_eq_true rfl) ?_
  rintro _ _ ⟨rfl, rfl⟩
  show ω [(hM, .inr (6, [.int (nI rf), .ref x1, .int (nI sz), .ref x3, .ref x4, .ref x5, .int (nI ac), .ref x7, .ref x8, .ref x9, .ref x10, .ref x11, .int (nI (i + 1)), .int (nI ou)])), (x1, .inl (eI E, 120, .inl tx)), (r, .inl (eI E, 255, .inl g))] [(3, .int (mI 0)), (2, .int (nI 105)), (0, .ref hM), (1, .ref r)] [.int (mI 0)] 315
  refine r_istore C (lv' := [(5, .int (mI 0)), (3, .int (mI 0)), (2, .int (nI 105)), (0, .ref hM), (1, .ref r)]) dX6_readCommand_315 (by decide) rfl ?_
  refine r_iload C (i := 5) 0 dX6_readCommand_317 rfl ?_
  refine r_iconst C dX6_readCommand_319 ki_m1 ?_
  refine r_icmp_eqT C 358 dX6_readCommand_320 (by decide) ((c_eqMM (by omega) (by omega)).mpr (by decide)) ?_
  refine r_iconst C dX6_readCommand_358 ki_0 ?_
  exact RT.1 _ _ _ _ _ dX6_readCommand_359 rfl nar_0 (⟨rfl, rfl⟩) rfl
set_option maxRecDepth 100000 in
set_option maxHeartbeats 1000000 in
theorem c_X6_readCommand__i1 {l : Launch} {E : Ev} {hM rf x1 sz x3 x4 x5 ac x7 x8 x9 x10 x11 ou : Nat} {r : Nat} {g : Nat → Int32} {σ : Sg} (hR : RepM σ g) (hW : Wf σ) {tx : Nat → Int32} {sg : Nat → Nat} (hT : TxR sg sz tx) {i : Nat} (hi : i < sz) (hc : sg i = 105) (hg : ∀ j, j < 1 → gd sg sz i j) (hb : ¬ gd sg sz i 1) : Ct l E yX6_readCommand cX6_readCommand 6 (some FieldType.boolean) 4 94 [.ref hM, .ref r] [(hM, .inr (6, [.int (nI rf), .ref x1, .int (nI sz), .ref x3, .ref x4, .ref x5, .int (nI ac), .ref x7, .ref x8, .ref x9, .ref x10, .ref x11, .int (nI i), .int (nI ou)])), (x1, .inl (eI E, 120, .inl tx)), (r, .inl (eI E, 255, .inl g))] (fun v9 w9 => v9 = some (.int (nI 0)) ∧ w9 = [(hM, .inr (6, [.int (nI rf), .ref x1, .int (nI sz), .ref x3, .ref x4, .ref x5, .int (nI ac), .ref x7, .ref x8, .ref x9, .ref x10, .ref x11, .int (nI (i + 2)), .int (nI ou)])), (x1, .inl (eI E, 120, .inl tx)), (r, .inl (eI E, 255, .inl g))]) := by
  have hwP := hW.P
  have hwA := hW.A
  have hwS := hW.S
  have hTz := hT.1
  have g0 := (gdL_i0 hc).mp (hg 0 (by decide))
  have hb9 : ¬ _ := fun z => hb ((gdL_i1 hc).mpr z)
  refine ct_of (by decide +kernel) (Nat.le_of_ble_eq_true rfl) (fun ω C RT => ?_)
  show ω [(hM, .inr (6, [.int (nI rf), .ref x1, .int (nI sz), .ref x3, .ref x4, .ref x5, .int (nI ac), .ref x7, .ref x8, .ref x9, .ref x10, .ref x11, .int (nI i), .int (nI ou)])), (x1, .inl (eI E, 120, .inl tx)), (r, .inl (eI E, 255, .inl g))] [(0, .ref hM), (1, .ref r)] [] 0
  refine r_aload_n C (i := 0) 0 dX6_readCommand_0 rfl rfl ?_
  refine r_get C 0 1 uX6 rfl rfl (by decide) w_5_62 rfl dX6_readCommand_1 ?_
  refine r_aload_n C (i := 0) 0 dX6_readCommand_4 rfl rfl ?_
  refine r_get C 0 12 uX6 rfl rfl (by decide) w_5_73 rfl dX6_readCommand_5 ?_
  refine r_iald (j := i) (v := nI 105) C 1 rfl (by omega) (by decide) ((hT.2 i hi).1.trans (by rw [hc])) dX6_readCommand_8 ?_
  refine r_istore_n C (lv' := [(2, .int (nI 105)), (0, .ref hM), (1, .ref r)]) dX6_readCommand_9 rfl (by decide) rfl ?_
  refine r_aload_n C (i := 0) 1 dX6_readCommand_10 rfl rfl ?_
  refine r_dup C dX6_readCommand_11 rfl ?_
  refine r_get C 0 12 uX6 rfl rfl (by decide) w_5_73 rfl dX6_readCommand_12 ?_
  refine r_iconst C dX6_readCommand_15 ki_1 ?_
  refine r_iadd (v := nI (i + 1)) C dX6_readCommand_16 (nI_add _ _) ?_
  refine r_put (ws' := [(hM, .inr (6, [.int (nI rf), .ref x1, .int (nI sz), .ref x3, .ref x4, .ref x5, .int (nI ac), .ref x7, .ref x8, .ref x9, .ref x10, .ref x11, .int (nI (i + 1)), .int (nI ou)])), (x1, .inl (eI E, 120, .inl tx)), (r, .inl (eI E, 255, .inl g))]) C 0 12 uX6 rfl tyX6_ok nmX6 rfl (by decide) w_5_73 rfl (tyX6_ok 12 (by decide)) rfl rfl (Nat.le_of_ble_eq_true rfl) rfl dX6_readCommand_17 ?_
  refine r_iload_n C (i := 2) 0 dX6_readCommand_20 rfl rfl ?_
  refine r_look (off := 277) C 298 dX6_readCommand_21 (by decide) (by decide) (by decide) ?_
  refine r_aload_n C (i := 0) 1 dX6_readCommand_298 rfl rfl ?_
  refine r_iconst C dX6_readCommand_299 ki_0 ?_
  refine r_iconst C dX6_readCommand_300 ki_1 ?_
  refine r_bipush C dX6_readCommand_301 kb_9 ?_
  refine r_callV (rest := []) C (c_X6_figures__1 (hM := hM) (rf := rf) (x1 := x1) (sz := sz) (x3 := x3) (x4 := x4) (x5 := x5) (ac := ac) (x7 := x7) (x8 := x8) (x9 := x9) (x10 := x10) (x11 := x11) (sp := i + 1) (ou := ou) (tx := tx) (sg := sg) (x := 0) (h := 9) (hT := hT) (hsp := (by omega)) (hx := (by omega)) (hh := (by omega)) (h1 := (show i + 1 < sz ∧ 48 ≤ sg (i + 1) ∧ sg (i + 1) ≤ 57 by omega)) (h2 := (show sg (i + 1) ≤ 48 + 9 by omega))) lk_X6_figures w_5_136 [0, 1] rfl dX6_readCommand_303 rfl rfl rfl rfl ⟨by decide, by decide⟩ (Nat.le_of_ble_eq_true rfl) ?_
  rintro _ _ ⟨rfl, rfl⟩
  show ω [(hM, .inr (6, [.int (nI rf), .ref x1, .int (nI sz), .ref x3, .ref x4, .ref x5, .int (nI ac), .ref x7, .ref x8, .ref x9, .ref x10, .ref x11, .int (nI (i + 2)), .int (nI ou)])), (x1, .inl (eI E, 120, .inl tx)), (r, .inl (eI E, 255, .inl g))] [(2, .int (nI 105)), (0, .ref hM), (1, .ref r)] [.int (nI (sg (i + 1) - 48))] 306
  refine r_istore_n C (lv' := [(3, .int (nI (sg (i + 1) - 48))), (2, .int (nI 105)), (0, .ref hM), (1, .ref r)]) dX6_readCommand_306 rfl (by decide) rfl ?_
  refine r_aload_n C (i := 0) 2 dX6_readCommand_307 rfl rfl ?_
  refine r_iload_n C (i := 3) 0 dX6_readCommand_308 rfl rfl ?_
  refine r_iconst C dX6_readCommand_309 ki_2 ?_
  refine r_bipush C dX6_readCommand_310 kb_19 ?_
  refine r_callV (rest := []) C (c_X6_figures__2b0 (hM := hM) (rf := rf) (x1 := x1) (sz := sz) (x3 := x3) (x4 := x4) (x5 := x5) (ac := ac) (x7 := x7) (x8 := x8) (x9 := x9) (x10 := x10) (x11 := x11) (sp := i + 2) (ou := ou) (tx := tx) (sg := sg) (x := sg (i + 1) - 48) (h := 19) (hT := hT) (hsp := (by omega)) (hx := (by omega)) (hh := (by omega)) (h1 := (show ¬ (i + 2 < sz ∧ 48 ≤ sg (i + 2) ∧ sg (i + 2) ≤ 57 ∧ 10 * (sg (i + 2) - 48) ≤ 19) by omega))) lk_X6_figures w_5_136 [0, 1] rfl dX6_readCommand_312 rfl rfl rfl rfl ⟨by decide, by decide⟩ (Nat.le_of_ble_eq_true rfl) ?_
  rintro _ _ ⟨rfl, rfl⟩
  show ω [(hM, .inr (6, [.int (nI rf), .ref x1, .int (nI sz), .ref x3, .ref x4, .ref x5, .int (nI ac), .ref x7, .ref x8, .ref x9, .ref x10, .ref x11, .int (nI (i + 2)), .int (nI ou)])), (x1, .inl (eI E, 120, .inl tx)), (r, .inl (eI E, 255, .inl g))] [(3, .int (nI (sg (i + 1) - 48))), (2, .int (nI 105)), (0, .ref hM), (1, .ref r)] [.int (mI 0)] 315
  refine r_istore C (lv' := [(5, .int (mI 0)), (3, .int (nI (sg (i + 1) - 48))), (2, .int (nI 105)), (0, .ref hM), (1, .ref r)]) dX6_readCommand_315 (by decide) rfl ?_
  refine r_iload C (i := 5) 0 dX6_readCommand_317 rfl ?_
  refine r_iconst C dX6_readCommand_319 ki_m1 ?_
  refine r_icmp_eqT C 358 dX6_readCommand_320 (by decide) ((c_eqMM (by omega) (by omega)).mpr (by decide)) ?_
  refine r_iconst C dX6_readCommand_358 ki_0 ?_
  exact RT.1 _ _ _ _ _ dX6_readCommand_359 rfl nar_0 (⟨rfl, rfl⟩) rfl
set_option maxRecDepth 100000 in
set_option maxHeartbeats 1000000 in
theorem c_X6_readCommand__i2 {l : Launch} {E : Ev} {hM rf x1 sz x3 x4 x5 ac x7 x8 x9 x10 x11 ou : Nat} {r : Nat} {g : Nat → Int32} {σ : Sg} (hR : RepM σ g) (hW : Wf σ) {tx : Nat → Int32} {sg : Nat → Nat} (hT : TxR sg sz tx) {i : Nat} (hi : i < sz) (hc : sg i = 105) (hg : ∀ j, j < 2 → gd sg sz i j) (hb : ¬ gd sg sz i 2) : Ct l E yX6_readCommand cX6_readCommand 6 (some FieldType.boolean) 4 94 [.ref hM, .ref r] [(hM, .inr (6, [.int (nI rf), .ref x1, .int (nI sz), .ref x3, .ref x4, .ref x5, .int (nI ac), .ref x7, .ref x8, .ref x9, .ref x10, .ref x11, .int (nI i), .int (nI ou)])), (x1, .inl (eI E, 120, .inl tx)), (r, .inl (eI E, 255, .inl g))] (fun v9 w9 => v9 = some (.int (nI 0)) ∧ w9 = [(hM, .inr (6, [.int (nI rf), .ref x1, .int (nI sz), .ref x3, .ref x4, .ref x5, .int (nI ac), .ref x7, .ref x8, .ref x9, .ref x10, .ref x11, .int (nI (i + 3)), .int (nI ou)])), (x1, .inl (eI E, 120, .inl tx)), (r, .inl (eI E, 255, .inl g))]) := by
  have hwP := hW.P
  have hwA := hW.A
  have hwS := hW.S
  have hTz := hT.1
  have g0 := (gdL_i0 hc).mp (hg 0 (by decide))
  have g1 := (gdL_i1 hc).mp (hg 1 (by decide))
  have hb9 : ¬ _ := fun z => hb ((gdL_i2 hc).mpr z)
  refine ct_of (by decide +kernel) (Nat.le_of_ble_eq_true rfl) (fun ω C RT => ?_)
  show ω [(hM, .inr (6, [.int (nI rf), .ref x1, .int (nI sz), .ref x3, .ref x4, .ref x5, .int (nI ac), .ref x7, .ref x8, .ref x9, .ref x10, .ref x11, .int (nI i), .int (nI ou)])), (x1, .inl (eI E, 120, .inl tx)), (r, .inl (eI E, 255, .inl g))] [(0, .ref hM), (1, .ref r)] [] 0
  refine r_aload_n C (i := 0) 0 dX6_readCommand_0 rfl rfl ?_
  refine r_get C 0 1 uX6 rfl rfl (by decide) w_5_62 rfl dX6_readCommand_1 ?_
  refine r_aload_n C (i := 0) 0 dX6_readCommand_4 rfl rfl ?_
  refine r_get C 0 12 uX6 rfl rfl (by decide) w_5_73 rfl dX6_readCommand_5 ?_
  refine r_iald (j := i) (v := nI 105) C 1 rfl (by omega) (by decide) ((hT.2 i hi).1.trans (by rw [hc])) dX6_readCommand_8 ?_
  refine r_istore_n C (lv' := [(2, .int (nI 105)), (0, .ref hM), (1, .ref r)]) dX6_readCommand_9 rfl (by decide) rfl ?_
  refine r_aload_n C (i := 0) 1 dX6_readCommand_10 rfl rfl ?_
  refine r_dup C dX6_readCommand_11 rfl ?_
  refine r_get C 0 12 uX6 rfl rfl (by decide) w_5_73 rfl dX6_readCommand_12 ?_
  refine r_iconst C dX6_readCommand_15 ki_1 ?_
  refine r_iadd (v := nI (i + 1)) C dX6_readCommand_16 (nI_add _ _) ?_
  refine r_put (ws' := [(hM, .inr (6, [.int (nI rf), .ref x1, .int (nI sz), .ref x3, .ref x4, .ref x5, .int (nI ac), .ref x7, .ref x8, .ref x9, .ref x10, .ref x11, .int (nI (i + 1)), .int (nI ou)])), (x1, .inl (eI E, 120, .inl tx)), (r, .inl (eI E, 255, .inl g))]) C 0 12 uX6 rfl tyX6_ok nmX6 rfl (by decide) w_5_73 rfl (tyX6_ok 12 (by decide)) rfl rfl (Nat.le_of_ble_eq_true rfl) rfl dX6_readCommand_17 ?_
  refine r_iload_n C (i := 2) 0 dX6_readCommand_20 rfl rfl ?_
  refine r_look (off := 277) C 298 dX6_readCommand_21 (by decide) (by decide) (by decide) ?_
  refine r_aload_n C (i := 0) 1 dX6_readCommand_298 rfl rfl ?_
  refine r_iconst C dX6_readCommand_299 ki_0 ?_
  refine r_iconst C dX6_readCommand_300 ki_1 ?_
  refine r_bipush C dX6_readCommand_301 kb_9 ?_
  refine r_callV (rest := []) C (c_X6_figures__1 (hM := hM) (rf := rf) (x1 := x1) (sz := sz) (x3 := x3) (x4 := x4) (x5 := x5) (ac := ac) (x7 := x7) (x8 := x8) (x9 := x9) (x10 := x10) (x11 := x11) (sp := i + 1) (ou := ou) (tx := tx) (sg := sg) (x := 0) (h := 9) (hT := hT) (hsp := (by omega)) (hx := (by omega)) (hh := (by omega)) (h1 := (show i + 1 < sz ∧ 48 ≤ sg (i + 1) ∧ sg (i + 1) ≤ 57 by omega)) (h2 := (show sg (i + 1) ≤ 48 + 9 by omega))) lk_X6_figures w_5_136 [0, 1] rfl dX6_readCommand_303 rfl rfl rfl rfl ⟨by decide, by decide⟩ (Nat.le_of_ble_eq_true rfl) ?_
  rintro _ _ ⟨rfl, rfl⟩
  show ω [(hM, .inr (6, [.int (nI rf), .ref x1, .int (nI sz), .ref x3, .ref x4, .ref x5, .int (nI ac), .ref x7, .ref x8, .ref x9, .ref x10, .ref x11, .int (nI (i + 2)), .int (nI ou)])), (x1, .inl (eI E, 120, .inl tx)), (r, .inl (eI E, 255, .inl g))] [(2, .int (nI 105)), (0, .ref hM), (1, .ref r)] [.int (nI (sg (i + 1) - 48))] 306
  refine r_istore_n C (lv' := [(3, .int (nI (sg (i + 1) - 48))), (2, .int (nI 105)), (0, .ref hM), (1, .ref r)]) dX6_readCommand_306 rfl (by decide) rfl ?_
  refine r_aload_n C (i := 0) 2 dX6_readCommand_307 rfl rfl ?_
  refine r_iload_n C (i := 3) 0 dX6_readCommand_308 rfl rfl ?_
  refine r_iconst C dX6_readCommand_309 ki_2 ?_
  refine r_bipush C dX6_readCommand_310 kb_19 ?_
  refine r_callV (rest := []) C (c_X6_figures__2b1 (hM := hM) (rf := rf) (x1 := x1) (sz := sz) (x3 := x3) (x4 := x4) (x5 := x5) (ac := ac) (x7 := x7) (x8 := x8) (x9 := x9) (x10 := x10) (x11 := x11) (sp := i + 2) (ou := ou) (tx := tx) (sg := sg) (x := sg (i + 1) - 48) (h := 19) (hT := hT) (hsp := (by omega)) (hx := (by omega)) (hh := (by omega)) (h1 := (show i + 2 < sz ∧ 48 ≤ sg (i + 2) ∧ sg (i + 2) ≤ 57 ∧ 10 * (sg (i + 2) - 48) ≤ 19 by omega)) (h2 := (show ¬ (i + 3 < sz ∧ 48 ≤ sg (i + 3) ∧ sg (i + 3) ≤ 57 ∧ 10 * (sg (i + 2) - 48) + (sg (i + 3) - 48) ≤ 19) by omega))) lk_X6_figures w_5_136 [0, 1] rfl dX6_readCommand_312 rfl rfl rfl rfl ⟨by decide, by decide⟩ (Nat.le_of_ble_eq_true rfl) ?_
  rintro _ _ ⟨rfl, rfl⟩
  show ω [(hM, .inr (6, [.int (nI rf), .ref x1, .int (nI sz), .ref x3, .ref x4, .ref x5, .int (nI ac), .ref x7, .ref x8, .ref x9, .ref x10, .ref x11, .int (nI (i + 3)), .int (nI ou)])), (x1, .inl (eI E, 120, .inl tx)), (r, .inl (eI E, 255, .inl g))] [(3, .int (nI (sg (i + 1) - 48))), (2, .int (nI 105)), (0, .ref hM), (1, .ref r)] [.int (mI 0)] 315
  refine r_istore C (lv' := [(5, .int (mI 0)), (3, .int (nI (sg (i + 1) - 48))), (2, .int (nI 105)), (0, .ref hM), (1, .ref r)]) dX6_readCommand_315 (by decide) rfl ?_
  refine r_iload C (i := 5) 0 dX6_readCommand_317 rfl ?_
  refine r_iconst C dX6_readCommand_319 ki_m1 ?_
  refine r_icmp_eqT C 358 dX6_readCommand_320 (by decide) ((c_eqMM (by omega) (by omega)).mpr (by decide)) ?_
  refine r_iconst C dX6_readCommand_358 ki_0 ?_
  exact RT.1 _ _ _ _ _ dX6_readCommand_359 rfl nar_0 (⟨rfl, rfl⟩) rfl
set_option maxRecDepth 100000 in
set_option maxHeartbeats 1000000 in
theorem c_X6_readSlip__f0 {l : Launch} {E : Ev} {hM rf x1 sz x3 x4 x5 ac x7 x8 x9 x10 x11 ou : Nat} {r : Nat} {g : Nat → Int32} {σ : Sg} (hR : RepM σ g) (hW : Wf σ) {tx : Nat → Int32} {sg : Nat → Nat} (hT : TxR sg sz tx) {i : Nat} (hi : i < sz) (hc : sg i = 115) (hg : ∀ j, j < 0 → gd sg sz i j) (hb : ¬ gd sg sz i 0) : Ct l E yX6_readSlip cX6_readSlip 6 (some FieldType.boolean) 3 69 [.ref hM, .ref r] [(hM, .inr (6, [.int (nI rf), .ref x1, .int (nI sz), .ref x3, .ref x4, .ref x5, .int (nI ac), .ref x7, .ref x8, .ref x9, .ref x10, .ref x11, .int (nI (i + 1)), .int (nI ou)])), (x1, .inl (eI E, 120, .inl tx)), (r, .inl (eI E, 255, .inl g))] (fun v9 w9 => v9 = some (.int (nI 0)) ∧ w9 = [(hM, .inr (6, [.int (nI rf), .ref x1, .int (nI sz), .ref x3, .ref x4, .ref x5, .int (nI ac), .ref x7, .ref x8, .ref x9, .ref x10, .ref x11, .int (nI (i + 1)), .int (nI ou)])), (x1, .inl (eI E, 120, .inl tx)), (r, .inl (eI E, 255, .inl g))]) := by
  have hwP := hW.P
  have hwA := hW.A
  have hwS := hW.S
  have hTz := hT.1
  have hb9 : ¬ _ := fun z => hb ((gdL_s0 hc).mpr z)
  refine ct_of (by decide +kernel) (Nat.le_of_ble_eq_true rfl) (fun ω C RT => ?_)
  show ω [(hM, .inr (6, [.int (nI rf), .ref x1, .int (nI sz), .ref x3, .ref x4, .ref x5, .int (nI ac), .ref x7, .ref x8, .ref x9, .ref x10, .ref x11, .int (nI (i + 1)), .int (nI ou)])), (x1, .inl (eI E, 120, .inl tx)), (r, .inl (eI E, 255, .inl g))] [(0, .ref hM), (1, .ref r)] [] 0
  refine r_aload_n C (i := 0) 0 dX6_readSlip_0 rfl rfl ?_
  refine r_iconst C dX6_readSlip_1 ki_0 ?_
  refine r_iconst C dX6_readSlip_2 ki_2 ?_
  refine r_bipush C dX6_readSlip_3 kb_19 ?_
  refine r_callV (rest := []) C (c_X6_figures__2b0 (hM := hM) (rf := rf) (x1 := x1) (sz := sz) (x3 := x3) (x4 := x4) (x5 := x5) (ac := ac) (x7 := x7) (x8 := x8) (x9 := x9) (x10 := x10) (x11 := x11) (sp := i + 1) (ou := ou) (tx := tx) (sg := sg) (x := 0) (h := 19) (hT := hT) (hsp := (by omega)) (hx := (by omega)) (hh := (by omega)) (h1 := (show ¬ (i + 1 < sz ∧ 48 ≤ sg (i + 1) ∧ sg (i + 1) ≤ 57 ∧ 10 * (sg (i + 1) - 48) ≤ 19) by omega))) lk_X6_figures w_5_136 [0, 1] rfl dX6_readSlip_5 rfl rfl rfl rfl ⟨by decide, by decide⟩ (Nat.le_of_ble_eq_true rfl) ?_
  rintro _ _ ⟨rfl, rfl⟩
  show ω [(hM, .inr (6, [.int (nI rf), .ref x1, .int (nI sz), .ref x3, .ref x4, .ref x5, .int (nI ac), .ref x7, .ref x8, .ref x9, .ref x10, .ref x11, .int (nI (i + 1)), .int (nI ou)])), (x1, .inl (eI E, 120, .inl tx)), (r, .inl (eI E, 255, .inl g))] [(0, .ref hM), (1, .ref r)] [.int (mI 0)] 8
  refine r_istore_n C (lv' := [(2, .int (mI 0)), (0, .ref hM), (1, .ref r)]) dX6_readSlip_8 rfl (by decide) rfl ?_
  refine r_aload_n C (i := 0) 1 dX6_readSlip_9 rfl rfl ?_
  refine r_iload_n C (i := 2) 0 dX6_readSlip_10 rfl rfl ?_
  refine r_iconst C dX6_readSlip_11 ki_1 ?_
  refine r_iconst C dX6_readSlip_12 ki_5 ?_
  refine r_callV (rest := []) C (c_X6_figures__n1 (hM := hM) (rf := rf) (x1 := x1) (sz := sz) (x3 := x3) (x4 := x4) (x5 := x5) (ac := ac) (x7 := x7) (x8 := x8) (x9 := x9) (x10 := x10) (x11 := x11) (sp := (i + 1)) (ou := ou) (h := 5) ) lk_X6_figures w_5_136 [0] rfl dX6_readSlip_13 rfl rfl rfl rfl ⟨by decide, by decide⟩ (Nat.le_of_ble_eq_true rfl) ?_
  rintro _ _ ⟨rfl, rfl⟩
  show ω [(hM, .inr (6, [.int (nI rf), .ref x1, .int (nI sz), .ref x3, .ref x4, .ref x5, .int (nI ac), .ref x7, .ref x8, .ref x9, .ref x10, .ref x11, .int (nI (i + 1)), .int (nI ou)])), (x1, .inl (eI E, 120, .inl tx)), (r, .inl (eI E, 255, .inl g))] [(2, .int (mI 0)), (0, .ref hM), (1, .ref r)] [.int (mI 0)] 16
  refine r_istore_n C (lv' := [(3, .int (mI 0)), (2, .int (mI 0)), (0, .ref hM), (1, .ref r)]) dX6_readSlip_16 rfl (by decide) rfl ?_
  refine r_aload_n C (i := 0) 2 dX6_readSlip_17 rfl rfl ?_
  refine r_iload_n C (i := 3) 0 dX6_readSlip_18 rfl rfl ?_
  refine r_iconst C dX6_readSlip_19 ki_1 ?_
  refine r_bipush C dX6_readSlip_20 kb_9 ?_
  refine r_callV (rest := []) C (c_X6_figures__n1 (hM := hM) (rf := rf) (x1 := x1) (sz := sz) (x3 := x3) (x4 := x4) (x5 := x5) (ac := ac) (x7 := x7) (x8 := x8) (x9 := x9) (x10 := x10) (x11 := x11) (sp := (i + 1)) (ou := ou) (h := 9) ) lk_X6_figures w_5_136 [0] rfl dX6_readSlip_22 rfl rfl rfl rfl ⟨by decide, by decide⟩ (Nat.le_of_ble_eq_true rfl) ?_
  rintro _ _ ⟨rfl, rfl⟩
  show ω [(hM, .inr (6, [.int (nI rf), .ref x1, .int (nI sz), .ref x3, .ref x4, .ref x5, .int (nI ac), .ref x7, .ref x8, .ref x9, .ref x10, .ref x11, .int (nI (i + 1)), .int (nI ou)])), (x1, .inl (eI E, 120, .inl tx)), (r, .inl (eI E, 255, .inl g))] [(3, .int (mI 0)), (2, .int (mI 0)), (0, .ref hM), (1, .ref r)] [.int (mI 0)] 25
  refine r_istore C (lv' := [(4, .int (mI 0)), (3, .int (mI 0)), (2, .int (mI 0)), (0, .ref hM), (1, .ref r)]) dX6_readSlip_25 (by decide) rfl ?_
  refine r_aload_n C (i := 0) 3 dX6_readSlip_27 rfl rfl ?_
  refine r_iload C (i := 4) 0 dX6_readSlip_28 rfl ?_
  refine r_iconst C dX6_readSlip_30 ki_2 ?_
  refine r_bipush C dX6_readSlip_31 kb_23 ?_
  refine r_callV (rest := []) C (c_X6_figures__n2 (hM := hM) (rf := rf) (x1 := x1) (sz := sz) (x3 := x3) (x4 := x4) (x5 := x5) (ac := ac) (x7 := x7) (x8 := x8) (x9 := x9) (x10 := x10) (x11 := x11) (sp := (i + 1)) (ou := ou) (h := 23) ) lk_X6_figures w_5_136 [0] rfl dX6_readSlip_33 rfl rfl rfl rfl ⟨by decide, by decide⟩ (Nat.le_of_ble_eq_true rfl) ?_
  rintro _ _ ⟨rfl, rfl⟩
  show ω [(hM, .inr (6, [.int (nI rf), .ref x1, .int (nI sz), .ref x3, .ref x4, .ref x5, .int (nI ac), .ref x7, .ref x8, .ref x9, .ref x10, .ref x11, .int (nI (i + 1)), .int (nI ou)])), (x1, .inl (eI E, 120, .inl tx)), (r, .inl (eI E, 255, .inl g))] [(4, .int (mI 0)), (3, .int (mI 0)), (2, .int (mI 0)), (0, .ref hM), (1, .ref r)] [.int (mI 0)] 36
  refine r_istore C (lv' := [(5, .int (mI 0)), (4, .int (mI 0)), (3, .int (mI 0)), (2, .int (mI 0)), (0, .ref hM), (1, .ref r)]) dX6_readSlip_36 (by decide) rfl ?_
  refine r_iload C (i := 5) 0 dX6_readSlip_38 rfl ?_
  refine r_iconst C dX6_readSlip_40 ki_m1 ?_
  refine r_icmp_eqT C 84 dX6_readSlip_41 (by decide) ((c_eqMM (by omega) (by omega)).mpr (by decide)) ?_
  refine r_iconst C dX6_readSlip_84 ki_0 ?_
  exact RT.1 _ _ _ _ _ dX6_readSlip_85 rfl nar_0 (⟨rfl, rfl⟩) rfl
set_option maxRecDepth 100000 in
set_option maxHeartbeats 1000000 in
theorem c_X6_readCommand__s0 {l : Launch} {E : Ev} {hM rf x1 sz x3 x4 x5 ac x7 x8 x9 x10 x11 ou : Nat} {r : Nat} {g : Nat → Int32} {σ : Sg} (hR : RepM σ g) (hW : Wf σ) {tx : Nat → Int32} {sg : Nat → Nat} (hT : TxR sg sz tx) {i : Nat} (hi : i < sz) (hc : sg i = 115) (hg : ∀ j, j < 0 → gd sg sz i j) (hb : ¬ gd sg sz i 0) : Ct l E yX6_readCommand cX6_readCommand 6 (some FieldType.boolean) 4 94 [.ref hM, .ref r] [(hM, .inr (6, [.int (nI rf), .ref x1, .int (nI sz), .ref x3, .ref x4, .ref x5, .int (nI ac), .ref x7, .ref x8, .ref x9, .ref x10, .ref x11, .int (nI i), .int (nI ou)])), (x1, .inl (eI E, 120, .inl tx)), (r, .inl (eI E, 255, .inl g))] (fun v9 w9 => v9 = some (.int (nI 0)) ∧ w9 = [(hM, .inr (6, [.int (nI rf), .ref x1, .int (nI sz), .ref x3, .ref x4, .ref x5, .int (nI ac), .ref x7, .ref x8, .ref x9, .ref x10, .ref x11, .int (nI (i + 1)), .int (nI ou)])), (x1, .inl (eI E, 120, .inl tx)), (r, .inl (eI E, 255, .inl g))]) := by
  have hwP := hW.P
  have hwA := hW.A
  have hwS := hW.S
  have hTz := hT.1
  refine ct_of (by decide +kernel) (Nat.le_of_ble_eq_true rfl) (fun ω C RT => ?_)
  show ω [(hM, .inr (6, [.int (nI rf), .ref x1, .int (nI sz), .ref x3, .ref x4, .ref x5, .int (nI ac), .ref x7, .ref x8, .ref x9, .ref x10, .ref x11, .int (nI i), .int (nI ou)])), (x1, .inl (eI E, 120, .inl tx)), (r, .inl (eI E, 255, .inl g))] [(0, .ref hM), (1, .ref r)] [] 0
  refine r_aload_n C (i := 0) 0 dX6_readCommand_0 rfl rfl ?_
  refine r_get C 0 1 uX6 rfl rfl (by decide) w_5_62 rfl dX6_readCommand_1 ?_
  refine r_aload_n C (i := 0) 0 dX6_readCommand_4 rfl rfl ?_
  refine r_get C 0 12 uX6 rfl rfl (by decide) w_5_73 rfl dX6_readCommand_5 ?_
  refine r_iald (j := i) (v := nI 115) C 1 rfl (by omega) (by decide) ((hT.2 i hi).1.trans (by rw [hc])) dX6_readCommand_8 ?_
  refine r_istore_n C (lv' := [(2, .int (nI 115)), (0, .ref hM), (1, .ref r)]) dX6_readCommand_9 rfl (by decide) rfl ?_
  refine r_aload_n C (i := 0) 1 dX6_readCommand_10 rfl rfl ?_
  refine r_dup C dX6_readCommand_11 rfl ?_
  refine r_get C 0 12 uX6 rfl rfl (by decide) w_5_73 rfl dX6_readCommand_12 ?_
  refine r_iconst C dX6_readCommand_15 ki_1 ?_
  refine r_iadd (v := nI (i + 1)) C dX6_readCommand_16 (nI_add _ _) ?_
  refine r_put (ws' := [(hM, .inr (6, [.int (nI rf), .ref x1, .int (nI sz), .ref x3, .ref x4, .ref x5, .int (nI ac), .ref x7, .ref x8, .ref x9, .ref x10, .ref x11, .int (nI (i + 1)), .int (nI ou)])), (x1, .inl (eI E, 120, .inl tx)), (r, .inl (eI E, 255, .inl g))]) C 0 12 uX6 rfl tyX6_ok nmX6 rfl (by decide) w_5_73 rfl (tyX6_ok 12 (by decide)) rfl rfl (Nat.le_of_ble_eq_true rfl) rfl dX6_readCommand_17 ?_
  refine r_iload_n C (i := 2) 0 dX6_readCommand_20 rfl rfl ?_
  refine r_look (off := 339) C 360 dX6_readCommand_21 (by decide) (by decide) (by decide) ?_
  refine r_aload_n C (i := 0) 1 dX6_readCommand_360 rfl rfl ?_
  refine r_aload_n C (i := 1) 2 dX6_readCommand_361 rfl rfl ?_
  refine r_callV (rest := []) C (c_X6_readSlip__f0 (hM := hM) (rf := rf) (x1 := x1) (sz := sz) (x3 := x3) (x4 := x4) (x5 := x5) (ac := ac) (x7 := x7) (x8 := x8) (x9 := x9) (x10 := x10) (x11 := x11) (ou := ou) (r := r) (g := g) (σ := σ) (tx := tx) (sg := sg) (i := i) (hR := hR) (hW := hW) (hT := hT) (hi := (by omega)) (hc := (by omega)) (hg := hg) (hb := hb)) lk_X6_readSlip w_5_178 [0, 1, 2] rfl dX6_readCommand_362 rfl rfl rfl rfl ⟨by decide, by decide⟩ (Nat.le_of_ble_eq_true rfl) ?_
  rintro _ _ ⟨rfl, rfl⟩
  show ω [(hM, .inr (6, [.int (nI rf), .ref x1, .int (nI sz), .ref x3, .ref x4, .ref x5, .int (nI ac), .ref x7, .ref x8, .ref x9, .ref x10, .ref x11, .int (nI (i + 1)), .int (nI ou)])), (x1, .inl (eI E, 120, .inl tx)), (r, .inl (eI E, 255, .inl g))] [(2, .int (nI 115)), (0, .ref hM), (1, .ref r)] [.int (nI 0)] 365
  exact RT.1 _ _ _ _ _ dX6_readCommand_365 rfl nar_0 (⟨rfl, rfl⟩) rfl
set_option maxRecDepth 100000 in
set_option maxHeartbeats 1000000 in
theorem c_X6_readSlip__f1 {l : Launch} {E : Ev} {hM rf x1 sz x3 x4 x5 ac x7 x8 x9 x10 x11 ou : Nat} {r : Nat} {g : Nat → Int32} {σ : Sg} (hR : RepM σ g) (hW : Wf σ) {tx : Nat → Int32} {sg : Nat → Nat} (hT : TxR sg sz tx) {i : Nat} (hi : i < sz) (hc : sg i = 115) (hg : ∀ j, j < 1 → gd sg sz i j) (hb : ¬ gd sg sz i 1) : Ct l E yX6_readSlip cX6_readSlip 6 (some FieldType.boolean) 3 69 [.ref hM, .ref r] [(hM, .inr (6, [.int (nI rf), .ref x1, .int (nI sz), .ref x3, .ref x4, .ref x5, .int (nI ac), .ref x7, .ref x8, .ref x9, .ref x10, .ref x11, .int (nI (i + 1)), .int (nI ou)])), (x1, .inl (eI E, 120, .inl tx)), (r, .inl (eI E, 255, .inl g))] (fun v9 w9 => v9 = some (.int (nI 0)) ∧ w9 = [(hM, .inr (6, [.int (nI rf), .ref x1, .int (nI sz), .ref x3, .ref x4, .ref x5, .int (nI ac), .ref x7, .ref x8, .ref x9, .ref x10, .ref x11, .int (nI (i + 2)), .int (nI ou)])), (x1, .inl (eI E, 120, .inl tx)), (r, .inl (eI E, 255, .inl g))]) := by
  have hwP := hW.P
  have hwA := hW.A
  have hwS := hW.S
  have hTz := hT.1
  have g0 := (gdL_s0 hc).mp (hg 0 (by decide))
  have hb9 : ¬ _ := fun z => hb ((gdL_s1 hc).mpr z)
  refine ct_of (by decide +kernel) (Nat.le_of_ble_eq_true rfl) (fun ω C RT => ?_)
  show ω [(hM, .inr (6, [.int (nI rf), .ref x1, .int (nI sz), .ref x3, .ref x4, .ref x5, .int (nI ac), .ref x7, .ref x8, .ref x9, .ref x10, .ref x11, .int (nI (i + 1)), .int (nI ou)])), (x1, .inl (eI E, 120, .inl tx)), (r, .inl (eI E, 255, .inl g))] [(0, .ref hM), (1, .ref r)] [] 0
  refine r_aload_n C (i := 0) 0 dX6_readSlip_0 rfl rfl ?_
  refine r_iconst C dX6_readSlip_1 ki_0 ?_
  refine r_iconst C dX6_readSlip_2 ki_2 ?_
  refine r_bipush C dX6_readSlip_3 kb_19 ?_
  refine r_callV (rest := []) C (c_X6_figures__2b1 (hM := hM) (rf := rf) (x1 := x1) (sz := sz) (x3 := x3) (x4 := x4) (x5 := x5) (ac := ac) (x7 := x7) (x8 := x8) (x9 := x9) (x10 := x10) (x11 := x11) (sp := i + 1) (ou := ou) (tx := tx) (sg := sg) (x := 0) (h := 19) (hT := hT) (hsp := (by omega)) (hx := (by omega)) (hh := (by omega)) (h1 := (show i + 1 < sz ∧ 48 ≤ sg (i + 1) ∧ sg (i + 1) ≤ 57 ∧ 10 * (sg (i + 1) - 48) ≤ 19 by omega)) (h2 := (show ¬ (i + 2 < sz ∧ 48 ≤ sg (i + 2) ∧ sg (i + 2) ≤ 57 ∧ 10 * (sg (i + 1) - 48) + (sg (i + 2) - 48) ≤ 19) by omega))) lk_X6_figures w_5_136 [0, 1] rfl dX6_readSlip_5 rfl rfl rfl rfl ⟨by decide, by decide⟩ (Nat.le_of_ble_eq_true rfl) ?_
  rintro _ _ ⟨rfl, rfl⟩
  show ω [(hM, .inr (6, [.int (nI rf), .ref x1, .int (nI sz), .ref x3, .ref x4, .ref x5, .int (nI ac), .ref x7, .ref x8, .ref x9, .ref x10, .ref x11, .int (nI (i + 2)), .int (nI ou)])), (x1, .inl (eI E, 120, .inl tx)), (r, .inl (eI E, 255, .inl g))] [(0, .ref hM), (1, .ref r)] [.int (mI 0)] 8
  refine r_istore_n C (lv' := [(2, .int (mI 0)), (0, .ref hM), (1, .ref r)]) dX6_readSlip_8 rfl (by decide) rfl ?_
  refine r_aload_n C (i := 0) 1 dX6_readSlip_9 rfl rfl ?_
  refine r_iload_n C (i := 2) 0 dX6_readSlip_10 rfl rfl ?_
  refine r_iconst C dX6_readSlip_11 ki_1 ?_
  refine r_iconst C dX6_readSlip_12 ki_5 ?_
  refine r_callV (rest := []) C (c_X6_figures__n1 (hM := hM) (rf := rf) (x1 := x1) (sz := sz) (x3 := x3) (x4 := x4) (x5 := x5) (ac := ac) (x7 := x7) (x8 := x8) (x9 := x9) (x10 := x10) (x11 := x11) (sp := i + 2) (ou := ou) (h := 5) ) lk_X6_figures w_5_136 [0] rfl dX6_readSlip_13 rfl rfl rfl rfl ⟨by decide, by decide⟩ (Nat.le_of_ble_eq_true rfl) ?_
  rintro _ _ ⟨rfl, rfl⟩
  show ω [(hM, .inr (6, [.int (nI rf), .ref x1, .int (nI sz), .ref x3, .ref x4, .ref x5, .int (nI ac), .ref x7, .ref x8, .ref x9, .ref x10, .ref x11, .int (nI (i + 2)), .int (nI ou)])), (x1, .inl (eI E, 120, .inl tx)), (r, .inl (eI E, 255, .inl g))] [(2, .int (mI 0)), (0, .ref hM), (1, .ref r)] [.int (mI 0)] 16
  refine r_istore_n C (lv' := [(3, .int (mI 0)), (2, .int (mI 0)), (0, .ref hM), (1, .ref r)]) dX6_readSlip_16 rfl (by decide) rfl ?_
  refine r_aload_n C (i := 0) 2 dX6_readSlip_17 rfl rfl ?_
  refine r_iload_n C (i := 3) 0 dX6_readSlip_18 rfl rfl ?_
  refine r_iconst C dX6_readSlip_19 ki_1 ?_
  refine r_bipush C dX6_readSlip_20 kb_9 ?_
  refine r_callV (rest := []) C (c_X6_figures__n1 (hM := hM) (rf := rf) (x1 := x1) (sz := sz) (x3 := x3) (x4 := x4) (x5 := x5) (ac := ac) (x7 := x7) (x8 := x8) (x9 := x9) (x10 := x10) (x11 := x11) (sp := (i + 2)) (ou := ou) (h := 9) ) lk_X6_figures w_5_136 [0] rfl dX6_readSlip_22 rfl rfl rfl rfl ⟨by decide, by decide⟩ (Nat.le_of_ble_eq_true rfl) ?_
  rintro _ _ ⟨rfl, rfl⟩
  show ω [(hM, .inr (6, [.int (nI rf), .ref x1, .int (nI sz), .ref x3, .ref x4, .ref x5, .int (nI ac), .ref x7, .ref x8, .ref x9, .ref x10, .ref x11, .int (nI (i + 2)), .int (nI ou)])), (x1, .inl (eI E, 120, .inl tx)), (r, .inl (eI E, 255, .inl g))] [(3, .int (mI 0)), (2, .int (mI 0)), (0, .ref hM), (1, .ref r)] [.int (mI 0)] 25
  refine r_istore C (lv' := [(4, .int (mI 0)), (3, .int (mI 0)), (2, .int (mI 0)), (0, .ref hM), (1, .ref r)]) dX6_readSlip_25 (by decide) rfl ?_
  refine r_aload_n C (i := 0) 3 dX6_readSlip_27 rfl rfl ?_
  refine r_iload C (i := 4) 0 dX6_readSlip_28 rfl ?_
  refine r_iconst C dX6_readSlip_30 ki_2 ?_
  refine r_bipush C dX6_readSlip_31 kb_23 ?_
  refine r_callV (rest := []) C (c_X6_figures__n2 (hM := hM) (rf := rf) (x1 := x1) (sz := sz) (x3 := x3) (x4 := x4) (x5 := x5) (ac := ac) (x7 := x7) (x8 := x8) (x9 := x9) (x10 := x10) (x11 := x11) (sp := (i + 2)) (ou := ou) (h := 23) ) lk_X6_figures w_5_136 [0] rfl dX6_readSlip_33 rfl rfl rfl rfl ⟨by decide, by decide⟩ (Nat.le_of_ble_eq_true rfl) ?_
  rintro _ _ ⟨rfl, rfl⟩
  show ω [(hM, .inr (6, [.int (nI rf), .ref x1, .int (nI sz), .ref x3, .ref x4, .ref x5, .int (nI ac), .ref x7, .ref x8, .ref x9, .ref x10, .ref x11, .int (nI (i + 2)), .int (nI ou)])), (x1, .inl (eI E, 120, .inl tx)), (r, .inl (eI E, 255, .inl g))] [(4, .int (mI 0)), (3, .int (mI 0)), (2, .int (mI 0)), (0, .ref hM), (1, .ref r)] [.int (mI 0)] 36
  refine r_istore C (lv' := [(5, .int (mI 0)), (4, .int (mI 0)), (3, .int (mI 0)), (2, .int (mI 0)), (0, .ref hM), (1, .ref r)]) dX6_readSlip_36 (by decide) rfl ?_
  refine r_iload C (i := 5) 0 dX6_readSlip_38 rfl ?_
  refine r_iconst C dX6_readSlip_40 ki_m1 ?_
  refine r_icmp_eqT C 84 dX6_readSlip_41 (by decide) ((c_eqMM (by omega) (by omega)).mpr (by decide)) ?_
  refine r_iconst C dX6_readSlip_84 ki_0 ?_
  exact RT.1 _ _ _ _ _ dX6_readSlip_85 rfl nar_0 (⟨rfl, rfl⟩) rfl
set_option maxRecDepth 100000 in
set_option maxHeartbeats 1000000 in
theorem c_X6_readCommand__s1 {l : Launch} {E : Ev} {hM rf x1 sz x3 x4 x5 ac x7 x8 x9 x10 x11 ou : Nat} {r : Nat} {g : Nat → Int32} {σ : Sg} (hR : RepM σ g) (hW : Wf σ) {tx : Nat → Int32} {sg : Nat → Nat} (hT : TxR sg sz tx) {i : Nat} (hi : i < sz) (hc : sg i = 115) (hg : ∀ j, j < 1 → gd sg sz i j) (hb : ¬ gd sg sz i 1) : Ct l E yX6_readCommand cX6_readCommand 6 (some FieldType.boolean) 4 94 [.ref hM, .ref r] [(hM, .inr (6, [.int (nI rf), .ref x1, .int (nI sz), .ref x3, .ref x4, .ref x5, .int (nI ac), .ref x7, .ref x8, .ref x9, .ref x10, .ref x11, .int (nI i), .int (nI ou)])), (x1, .inl (eI E, 120, .inl tx)), (r, .inl (eI E, 255, .inl g))] (fun v9 w9 => v9 = some (.int (nI 0)) ∧ w9 = [(hM, .inr (6, [.int (nI rf), .ref x1, .int (nI sz), .ref x3, .ref x4, .ref x5, .int (nI ac), .ref x7, .ref x8, .ref x9, .ref x10, .ref x11, .int (nI (i + 2)), .int (nI ou)])), (x1, .inl (eI E, 120, .inl tx)), (r, .inl (eI E, 255, .inl g))]) := by
  have hwP := hW.P
  have hwA := hW.A
  have hwS := hW.S
  have hTz := hT.1
  refine ct_of (by decide +kernel) (Nat.le_of_ble_eq_true rfl) (fun ω C RT => ?_)
  show ω [(hM, .inr (6, [.int (nI rf), .ref x1, .int (nI sz), .ref x3, .ref x4, .ref x5, .int (nI ac), .ref x7, .ref x8, .ref x9, .ref x10, .ref x11, .int (nI i), .int (nI ou)])), (x1, .inl (eI E, 120, .inl tx)), (r, .inl (eI E, 255, .inl g))] [(0, .ref hM), (1, .ref r)] [] 0
  refine r_aload_n C (i := 0) 0 dX6_readCommand_0 rfl rfl ?_
  refine r_get C 0 1 uX6 rfl rfl (by decide) w_5_62 rfl dX6_readCommand_1 ?_
  refine r_aload_n C (i := 0) 0 dX6_readCommand_4 rfl rfl ?_
  refine r_get C 0 12 uX6 rfl rfl (by decide) w_5_73 rfl dX6_readCommand_5 ?_
  refine r_iald (j := i) (v := nI 115) C 1 rfl (by omega) (by decide) ((hT.2 i hi).1.trans (by rw [hc])) dX6_readCommand_8 ?_
  refine r_istore_n C (lv' := [(2, .int (nI 115)), (0, .ref hM), (1, .ref r)]) dX6_readCommand_9 rfl (by decide) rfl ?_
  refine r_aload_n C (i := 0) 1 dX6_readCommand_10 rfl rfl ?_
  refine r_dup C dX6_readCommand_11 rfl ?_
  refine r_get C 0 12 uX6 rfl rfl (by decide) w_5_73 rfl dX6_readCommand_12 ?_
  refine r_iconst C dX6_readCommand_15 ki_1 ?_
  refine r_iadd (v := nI (i + 1)) C dX6_readCommand_16 (nI_add _ _) ?_
  refine r_put (ws' := [(hM, .inr (6, [.int (nI rf), .ref x1, .int (nI sz), .ref x3, .ref x4, .ref x5, .int (nI ac), .ref x7, .ref x8, .ref x9, .ref x10, .ref x11, .int (nI (i + 1)), .int (nI ou)])), (x1, .inl (eI E, 120, .inl tx)), (r, .inl (eI E, 255, .inl g))]) C 0 12 uX6 rfl tyX6_ok nmX6 rfl (by decide) w_5_73 rfl (tyX6_ok 12 (by decide)) rfl rfl (Nat.le_of_ble_eq_true rfl) rfl dX6_readCommand_17 ?_
  refine r_iload_n C (i := 2) 0 dX6_readCommand_20 rfl rfl ?_
  refine r_look (off := 339) C 360 dX6_readCommand_21 (by decide) (by decide) (by decide) ?_
  refine r_aload_n C (i := 0) 1 dX6_readCommand_360 rfl rfl ?_
  refine r_aload_n C (i := 1) 2 dX6_readCommand_361 rfl rfl ?_
  refine r_callV (rest := []) C (c_X6_readSlip__f1 (hM := hM) (rf := rf) (x1 := x1) (sz := sz) (x3 := x3) (x4 := x4) (x5 := x5) (ac := ac) (x7 := x7) (x8 := x8) (x9 := x9) (x10 := x10) (x11 := x11) (ou := ou) (r := r) (g := g) (σ := σ) (tx := tx) (sg := sg) (i := i) (hR := hR) (hW := hW) (hT := hT) (hi := (by omega)) (hc := (by omega)) (hg := hg) (hb := hb)) lk_X6_readSlip w_5_178 [0, 1, 2] rfl dX6_readCommand_362 rfl rfl rfl rfl ⟨by decide, by decide⟩ (Nat.le_of_ble_eq_true rfl) ?_
  rintro _ _ ⟨rfl, rfl⟩
  show ω [(hM, .inr (6, [.int (nI rf), .ref x1, .int (nI sz), .ref x3, .ref x4, .ref x5, .int (nI ac), .ref x7, .ref x8, .ref x9, .ref x10, .ref x11, .int (nI (i + 2)), .int (nI ou)])), (x1, .inl (eI E, 120, .inl tx)), (r, .inl (eI E, 255, .inl g))] [(2, .int (nI 115)), (0, .ref hM), (1, .ref r)] [.int (nI 0)] 365
  exact RT.1 _ _ _ _ _ dX6_readCommand_365 rfl nar_0 (⟨rfl, rfl⟩) rfl
set_option maxRecDepth 100000 in
set_option maxHeartbeats 1000000 in
theorem c_X6_readSlip__f2 {l : Launch} {E : Ev} {hM rf x1 sz x3 x4 x5 ac x7 x8 x9 x10 x11 ou : Nat} {r : Nat} {g : Nat → Int32} {σ : Sg} (hR : RepM σ g) (hW : Wf σ) {tx : Nat → Int32} {sg : Nat → Nat} (hT : TxR sg sz tx) {i : Nat} (hi : i < sz) (hc : sg i = 115) (hg : ∀ j, j < 2 → gd sg sz i j) (hb : ¬ gd sg sz i 2) : Ct l E yX6_readSlip cX6_readSlip 6 (some FieldType.boolean) 3 69 [.ref hM, .ref r] [(hM, .inr (6, [.int (nI rf), .ref x1, .int (nI sz), .ref x3, .ref x4, .ref x5, .int (nI ac), .ref x7, .ref x8, .ref x9, .ref x10, .ref x11, .int (nI (i + 1)), .int (nI ou)])), (x1, .inl (eI E, 120, .inl tx)), (r, .inl (eI E, 255, .inl g))] (fun v9 w9 => v9 = some (.int (nI 0)) ∧ w9 = [(hM, .inr (6, [.int (nI rf), .ref x1, .int (nI sz), .ref x3, .ref x4, .ref x5, .int (nI ac), .ref x7, .ref x8, .ref x9, .ref x10, .ref x11, .int (nI (i + 3)), .int (nI ou)])), (x1, .inl (eI E, 120, .inl tx)), (r, .inl (eI E, 255, .inl g))]) := by
  have hwP := hW.P
  have hwA := hW.A
  have hwS := hW.S
  have hTz := hT.1
  have g0 := (gdL_s0 hc).mp (hg 0 (by decide))
  have g1 := (gdL_s1 hc).mp (hg 1 (by decide))
  have hb9 : ¬ _ := fun z => hb ((gdL_s2 hc).mpr z)
  refine ct_of (by decide +kernel) (Nat.le_of_ble_eq_true rfl) (fun ω C RT => ?_)
  show ω [(hM, .inr (6, [.int (nI rf), .ref x1, .int (nI sz), .ref x3, .ref x4, .ref x5, .int (nI ac), .ref x7, .ref x8, .ref x9, .ref x10, .ref x11, .int (nI (i + 1)), .int (nI ou)])), (x1, .inl (eI E, 120, .inl tx)), (r, .inl (eI E, 255, .inl g))] [(0, .ref hM), (1, .ref r)] [] 0
  refine r_aload_n C (i := 0) 0 dX6_readSlip_0 rfl rfl ?_
  refine r_iconst C dX6_readSlip_1 ki_0 ?_
  refine r_iconst C dX6_readSlip_2 ki_2 ?_
  refine r_bipush C dX6_readSlip_3 kb_19 ?_
  refine r_callV (rest := []) C (c_X6_figures__2 (hM := hM) (rf := rf) (x1 := x1) (sz := sz) (x3 := x3) (x4 := x4) (x5 := x5) (ac := ac) (x7 := x7) (x8 := x8) (x9 := x9) (x10 := x10) (x11 := x11) (sp := i + 1) (ou := ou) (tx := tx) (sg := sg) (x := 0) (h := 19) (hT := hT) (hsp := (by omega)) (hx := (by omega)) (hh := (by omega)) (h1 := (show i + 1 < sz ∧ 48 ≤ sg (i + 1) ∧ sg (i + 1) ≤ 57 by omega)) (h2 := (show i + 2 < sz ∧ 48 ≤ sg (i + 2) ∧ sg (i + 2) ≤ 57 by omega)) (h3 := (show 10 * (sg (i + 1) - 48) + (sg (i + 2) - 48) ≤ 19 by omega))) lk_X6_figures w_5_136 [0, 1] rfl dX6_readSlip_5 rfl rfl rfl rfl ⟨by decide, by decide⟩ (Nat.le_of_ble_eq_true rfl) ?_
  rintro _ _ ⟨rfl, rfl⟩
  show ω [(hM, .inr (6, [.int (nI rf), .ref x1, .int (nI sz), .ref x3, .ref x4, .ref x5, .int (nI ac), .ref x7, .ref x8, .ref x9, .ref x10, .ref x11, .int (nI (i + 3)), .int (nI ou)])), (x1, .inl (eI E, 120, .inl tx)), (r, .inl (eI E, 255, .inl g))] [(0, .ref hM), (1, .ref r)] [.int (nI (10 * (sg (i + 1) - 48) + (sg (i + 2) - 48)))] 8
  refine r_istore_n C (lv' := [(2, .int (nI (10 * (sg (i + 1) - 48) + (sg (i + 2) - 48)))), (0, .ref hM), (1, .ref r)]) dX6_readSlip_8 rfl (by decide) rfl ?_
  refine r_aload_n C (i := 0) 1 dX6_readSlip_9 rfl rfl ?_
  refine r_iload_n C (i := 2) 0 dX6_readSlip_10 rfl rfl ?_
  refine r_iconst C dX6_readSlip_11 ki_1 ?_
  refine r_iconst C dX6_readSlip_12 ki_5 ?_
  refine r_callV (rest := []) C (c_X6_figures__1b (hM := hM) (rf := rf) (x1 := x1) (sz := sz) (x3 := x3) (x4 := x4) (x5 := x5) (ac := ac) (x7 := x7) (x8 := x8) (x9 := x9) (x10 := x10) (x11 := x11) (sp := i + 3) (ou := ou) (tx := tx) (sg := sg) (x := 10 * (sg (i + 1) - 48) + (sg (i + 2) - 48)) (h := 5) (hT := hT) (hsp := (by omega)) (hx := (by omega)) (hh := (by omega)) (h1 := (show ¬ (i + 3 < sz ∧ 48 ≤ sg (i + 3) ∧ sg (i + 3) ≤ 57 ∧ sg (i + 3) ≤ 48 + 5) by omega))) lk_X6_figures w_5_136 [0, 1] rfl dX6_readSlip_13 rfl rfl rfl rfl ⟨by decide, by decide⟩ (Nat.le_of_ble_eq_true rfl) ?_
  rintro _ _ ⟨rfl, rfl⟩
  show ω [(hM, .inr (6, [.int (nI rf), .ref x1, .int (nI sz), .ref x3, .ref x4, .ref x5, .int (nI ac), .ref x7, .ref x8, .ref x9, .ref x10, .ref x11, .int (nI (i + 3)), .int (nI ou)])), (x1, .inl (eI E, 120, .inl tx)), (r, .inl (eI E, 255, .inl g))] [(2, .int (nI (10 * (sg (i + 1) - 48) + (sg (i + 2) - 48)))), (0, .ref hM), (1, .ref r)] [.int (mI 0)] 16
  refine r_istore_n C (lv' := [(3, .int (mI 0)), (2, .int (nI (10 * (sg (i + 1) - 48) + (sg (i + 2) - 48)))), (0, .ref hM), (1, .ref r)]) dX6_readSlip_16 rfl (by decide) rfl ?_
  refine r_aload_n C (i := 0) 2 dX6_readSlip_17 rfl rfl ?_
  refine r_iload_n C (i := 3) 0 dX6_readSlip_18 rfl rfl ?_
  refine r_iconst C dX6_readSlip_19 ki_1 ?_
  refine r_bipush C dX6_readSlip_20 kb_9 ?_
  refine r_callV (rest := []) C (c_X6_figures__n1 (hM := hM) (rf := rf) (x1 := x1) (sz := sz) (x3 := x3) (x4 := x4) (x5 := x5) (ac := ac) (x7 := x7) (x8 := x8) (x9 := x9) (x10 := x10) (x11 := x11) (sp := (i + 3)) (ou := ou) (h := 9) ) lk_X6_figures w_5_136 [0] rfl dX6_readSlip_22 rfl rfl rfl rfl ⟨by decide, by decide⟩ (Nat.le_of_ble_eq_true rfl) ?_
  rintro _ _ ⟨rfl, rfl⟩
  show ω [(hM, .inr (6, [.int (nI rf), .ref x1, .int (nI sz), .ref x3, .ref x4, .ref x5, .int (nI ac), .ref x7, .ref x8, .ref x9, .ref x10, .ref x11, .int (nI (i + 3)), .int (nI ou)])), (x1, .inl (eI E, 120, .inl tx)), (r, .inl (eI E, 255, .inl g))] [(3, .int (mI 0)), (2, .int (nI (10 * (sg (i + 1) - 48) + (sg (i + 2) - 48)))), (0, .ref hM), (1, .ref r)] [.int (mI 0)] 25
  refine r_istore C (lv' := [(4, .int (mI 0)), (3, .int (mI 0)), (2, .int (nI (10 * (sg (i + 1) - 48) + (sg (i + 2) - 48)))), (0, .ref hM), (1, .ref r)]) dX6_readSlip_25 (by decide) rfl ?_
  refine r_aload_n C (i := 0) 3 dX6_readSlip_27 rfl rfl ?_
  refine r_iload C (i := 4) 0 dX6_readSlip_28 rfl ?_
  refine r_iconst C dX6_readSlip_30 ki_2 ?_
  refine r_bipush C dX6_readSlip_31 kb_23 ?_
  refine r_callV (rest := []) C (c_X6_figures__n2 (hM := hM) (rf := rf) (x1 := x1) (sz := sz) (x3 := x3) (x4 := x4) (x5 := x5) (ac := ac) (x7 := x7) (x8 := x8) (x9 := x9) (x10 := x10) (x11 := x11) (sp := (i + 3)) (ou := ou) (h := 23) ) lk_X6_figures w_5_136 [0] rfl dX6_readSlip_33 rfl rfl rfl rfl ⟨by decide, by decide⟩ (Nat.le_of_ble_eq_true rfl) ?_
  rintro _ _ ⟨rfl, rfl⟩
  show ω [(hM, .inr (6, [.int (nI rf), .ref x1, .int (nI sz), .ref x3, .ref x4, .ref x5, .int (nI ac), .ref x7, .ref x8, .ref x9, .ref x10, .ref x11, .int (nI (i + 3)), .int (nI ou)])), (x1, .inl (eI E, 120, .inl tx)), (r, .inl (eI E, 255, .inl g))] [(4, .int (mI 0)), (3, .int (mI 0)), (2, .int (nI (10 * (sg (i + 1) - 48) + (sg (i + 2) - 48)))), (0, .ref hM), (1, .ref r)] [.int (mI 0)] 36
  refine r_istore C (lv' := [(5, .int (mI 0)), (4, .int (mI 0)), (3, .int (mI 0)), (2, .int (nI (10 * (sg (i + 1) - 48) + (sg (i + 2) - 48)))), (0, .ref hM), (1, .ref r)]) dX6_readSlip_36 (by decide) rfl ?_
  refine r_iload C (i := 5) 0 dX6_readSlip_38 rfl ?_
  refine r_iconst C dX6_readSlip_40 ki_m1 ?_
  refine r_icmp_eqT C 84 dX6_readSlip_41 (by decide) ((c_eqMM (by omega) (by omega)).mpr (by decide)) ?_
  refine r_iconst C dX6_readSlip_84 ki_0 ?_
  exact RT.1 _ _ _ _ _ dX6_readSlip_85 rfl nar_0 (⟨rfl, rfl⟩) rfl
set_option maxRecDepth 100000 in
set_option maxHeartbeats 1000000 in
theorem c_X6_readCommand__s2 {l : Launch} {E : Ev} {hM rf x1 sz x3 x4 x5 ac x7 x8 x9 x10 x11 ou : Nat} {r : Nat} {g : Nat → Int32} {σ : Sg} (hR : RepM σ g) (hW : Wf σ) {tx : Nat → Int32} {sg : Nat → Nat} (hT : TxR sg sz tx) {i : Nat} (hi : i < sz) (hc : sg i = 115) (hg : ∀ j, j < 2 → gd sg sz i j) (hb : ¬ gd sg sz i 2) : Ct l E yX6_readCommand cX6_readCommand 6 (some FieldType.boolean) 4 94 [.ref hM, .ref r] [(hM, .inr (6, [.int (nI rf), .ref x1, .int (nI sz), .ref x3, .ref x4, .ref x5, .int (nI ac), .ref x7, .ref x8, .ref x9, .ref x10, .ref x11, .int (nI i), .int (nI ou)])), (x1, .inl (eI E, 120, .inl tx)), (r, .inl (eI E, 255, .inl g))] (fun v9 w9 => v9 = some (.int (nI 0)) ∧ w9 = [(hM, .inr (6, [.int (nI rf), .ref x1, .int (nI sz), .ref x3, .ref x4, .ref x5, .int (nI ac), .ref x7, .ref x8, .ref x9, .ref x10, .ref x11, .int (nI (i + 3)), .int (nI ou)])), (x1, .inl (eI E, 120, .inl tx)), (r, .inl (eI E, 255, .inl g))]) := by
  have hwP := hW.P
  have hwA := hW.A
  have hwS := hW.S
  have hTz := hT.1
  refine ct_of (by decide +kernel) (Nat.le_of_ble_eq_true rfl) (fun ω C RT => ?_)
  show ω [(hM, .inr (6, [.int (nI rf), .ref x1, .int (nI sz), .ref x3, .ref x4, .ref x5, .int (nI ac), .ref x7, .ref x8, .ref x9, .ref x10, .ref x11, .int (nI i), .int (nI ou)])), (x1, .inl (eI E, 120, .inl tx)), (r, .inl (eI E, 255, .inl g))] [(0, .ref hM), (1, .ref r)] [] 0
  refine r_aload_n C (i := 0) 0 dX6_readCommand_0 rfl rfl ?_
  refine r_get C 0 1 uX6 rfl rfl (by decide) w_5_62 rfl dX6_readCommand_1 ?_
  refine r_aload_n C (i := 0) 0 dX6_readCommand_4 rfl rfl ?_
  refine r_get C 0 12 uX6 rfl rfl (by decide) w_5_73 rfl dX6_readCommand_5 ?_
  refine r_iald (j := i) (v := nI 115) C 1 rfl (by omega) (by decide) ((hT.2 i hi).1.trans (by rw [hc])) dX6_readCommand_8 ?_
  refine r_istore_n C (lv' := [(2, .int (nI 115)), (0, .ref hM), (1, .ref r)]) dX6_readCommand_9 rfl (by decide) rfl ?_
  refine r_aload_n C (i := 0) 1 dX6_readCommand_10 rfl rfl ?_
  refine r_dup C dX6_readCommand_11 rfl ?_
  refine r_get C 0 12 uX6 rfl rfl (by decide) w_5_73 rfl dX6_readCommand_12 ?_
  refine r_iconst C dX6_readCommand_15 ki_1 ?_
  refine r_iadd (v := nI (i + 1)) C dX6_readCommand_16 (nI_add _ _) ?_
  refine r_put (ws' := [(hM, .inr (6, [.int (nI rf), .ref x1, .int (nI sz), .ref x3, .ref x4, .ref x5, .int (nI ac), .ref x7, .ref x8, .ref x9, .ref x10, .ref x11, .int (nI (i + 1)), .int (nI ou)])), (x1, .inl (eI E, 120, .inl tx)), (r, .inl (eI E, 255, .inl g))]) C 0 12 uX6 rfl tyX6_ok nmX6 rfl (by decide) w_5_73 rfl (tyX6_ok 12 (by decide)) rfl rfl (Nat.le_of_ble_eq_true rfl) rfl dX6_readCommand_17 ?_
  refine r_iload_n C (i := 2) 0 dX6_readCommand_20 rfl rfl ?_
  refine r_look (off := 339) C 360 dX6_readCommand_21 (by decide) (by decide) (by decide) ?_
  refine r_aload_n C (i := 0) 1 dX6_readCommand_360 rfl rfl ?_
  refine r_aload_n C (i := 1) 2 dX6_readCommand_361 rfl rfl ?_
  refine r_callV (rest := []) C (c_X6_readSlip__f2 (hM := hM) (rf := rf) (x1 := x1) (sz := sz) (x3 := x3) (x4 := x4) (x5 := x5) (ac := ac) (x7 := x7) (x8 := x8) (x9 := x9) (x10 := x10) (x11 := x11) (ou := ou) (r := r) (g := g) (σ := σ) (tx := tx) (sg := sg) (i := i) (hR := hR) (hW := hW) (hT := hT) (hi := (by omega)) (hc := (by omega)) (hg := hg) (hb := hb)) lk_X6_readSlip w_5_178 [0, 1, 2] rfl dX6_readCommand_362 rfl rfl rfl rfl ⟨by decide, by decide⟩ (Nat.le_of_ble_eq_true rfl) ?_
  rintro _ _ ⟨rfl, rfl⟩
  show ω [(hM, .inr (6, [.int (nI rf), .ref x1, .int (nI sz), .ref x3, .ref x4, .ref x5, .int (nI ac), .ref x7, .ref x8, .ref x9, .ref x10, .ref x11, .int (nI (i + 3)), .int (nI ou)])), (x1, .inl (eI E, 120, .inl tx)), (r, .inl (eI E, 255, .inl g))] [(2, .int (nI 115)), (0, .ref hM), (1, .ref r)] [.int (nI 0)] 365
  exact RT.1 _ _ _ _ _ dX6_readCommand_365 rfl nar_0 (⟨rfl, rfl⟩) rfl
set_option maxRecDepth 100000 in
set_option maxHeartbeats 1000000 in
theorem c_X6_readSlip__f3 {l : Launch} {E : Ev} {hM rf x1 sz x3 x4 x5 ac x7 x8 x9 x10 x11 ou : Nat} {r : Nat} {g : Nat → Int32} {σ : Sg} (hR : RepM σ g) (hW : Wf σ) {tx : Nat → Int32} {sg : Nat → Nat} (hT : TxR sg sz tx) {i : Nat} (hi : i < sz) (hc : sg i = 115) (hg : ∀ j, j < 3 → gd sg sz i j) (hb : ¬ gd sg sz i 3) : Ct l E yX6_readSlip cX6_readSlip 6 (some FieldType.boolean) 3 69 [.ref hM, .ref r] [(hM, .inr (6, [.int (nI rf), .ref x1, .int (nI sz), .ref x3, .ref x4, .ref x5, .int (nI ac), .ref x7, .ref x8, .ref x9, .ref x10, .ref x11, .int (nI (i + 1)), .int (nI ou)])), (x1, .inl (eI E, 120, .inl tx)), (r, .inl (eI E, 255, .inl g))] (fun v9 w9 => v9 = some (.int (nI 0)) ∧ w9 = [(hM, .inr (6, [.int (nI rf), .ref x1, .int (nI sz), .ref x3, .ref x4, .ref x5, .int (nI ac), .ref x7, .ref x8, .ref x9, .ref x10, .ref x11, .int (nI (i + 4)), .int (nI ou)])), (x1, .inl (eI E, 120, .inl tx)), (r, .inl (eI E, 255, .inl g))]) := by
  have hwP := hW.P
  have hwA := hW.A
  have hwS := hW.S
  have hTz := hT.1
  have g0 := (gdL_s0 hc).mp (hg 0 (by decide))
  have g1 := (gdL_s1 hc).mp (hg 1 (by decide))
  have g2 := (gdL_s2 hc).mp (hg 2 (by decide))
  have hb9 : ¬ _ := fun z => hb ((gdL_s3 hc).mpr z)
  refine ct_of (by decide +kernel) (Nat.le_of_ble_eq_true rfl) (fun ω C RT => ?_)
  show ω [(hM, .inr (6, [.int (nI rf), .ref x1, .int (nI sz), .ref x3, .ref x4, .ref x5, .int (nI ac), .ref x7, .ref x8, .ref x9, .ref x10, .ref x11, .int (nI (i + 1)), .int (nI ou)])), (x1, .inl (eI E, 120, .inl tx)), (r, .inl (eI E, 255, .inl g))] [(0, .ref hM), (1, .ref r)] [] 0
  refine r_aload_n C (i := 0) 0 dX6_readSlip_0 rfl rfl ?_
  refine r_iconst C dX6_readSlip_1 ki_0 ?_
  refine r_iconst C dX6_readSlip_2 ki_2 ?_
  refine r_bipush C dX6_readSlip_3 kb_19 ?_
  refine r_callV (rest := []) C (c_X6_figures__2 (hM := hM) (rf := rf) (x1 := x1) (sz := sz) (x3 := x3) (x4 := x4) (x5 := x5) (ac := ac) (x7 := x7) (x8 := x8) (x9 := x9) (x10 := x10) (x11 := x11) (sp := i + 1) (ou := ou) (tx := tx) (sg := sg) (x := 0) (h := 19) (hT := hT) (hsp := (by omega)) (hx := (by omega)) (hh := (by omega)) (h1 := (show i + 1 < sz ∧ 48 ≤ sg (i + 1) ∧ sg (i + 1) ≤ 57 by omega)) (h2 := (show i + 2 < sz ∧ 48 ≤ sg (i + 2) ∧ sg (i + 2) ≤ 57 by omega)) (h3 := (show 10 * (sg (i + 1) - 48) + (sg (i + 2) - 48) ≤ 19 by omega))) lk_X6_figures w_5_136 [0, 1] rfl dX6_readSlip_5 rfl rfl rfl rfl ⟨by decide, by decide⟩ (Nat.le_of_ble_eq_true rfl) ?_
  rintro _ _ ⟨rfl, rfl⟩
  show ω [(hM, .inr (6, [.int (nI rf), .ref x1, .int (nI sz), .ref x3, .ref x4, .ref x5, .int (nI ac), .ref x7, .ref x8, .ref x9, .ref x10, .ref x11, .int (nI (i + 3)), .int (nI ou)])), (x1, .inl (eI E, 120, .inl tx)), (r, .inl (eI E, 255, .inl g))] [(0, .ref hM), (1, .ref r)] [.int (nI (10 * (sg (i + 1) - 48) + (sg (i + 2) - 48)))] 8
  refine r_istore_n C (lv' := [(2, .int (nI (10 * (sg (i + 1) - 48) + (sg (i + 2) - 48)))), (0, .ref hM), (1, .ref r)]) dX6_readSlip_8 rfl (by decide) rfl ?_
  refine r_aload_n C (i := 0) 1 dX6_readSlip_9 rfl rfl ?_
  refine r_iload_n C (i := 2) 0 dX6_readSlip_10 rfl rfl ?_
  refine r_iconst C dX6_readSlip_11 ki_1 ?_
  refine r_iconst C dX6_readSlip_12 ki_5 ?_
  refine r_callV (rest := []) C (c_X6_figures__1 (hM := hM) (rf := rf) (x1 := x1) (sz := sz) (x3 := x3) (x4 := x4) (x5 := x5) (ac := ac) (x7 := x7) (x8 := x8) (x9 := x9) (x10 := x10) (x11 := x11) (sp := i + 3) (ou := ou) (tx := tx) (sg := sg) (x := 10 * (sg (i + 1) - 48) + (sg (i + 2) - 48)) (h := 5) (hT := hT) (hsp := (by omega)) (hx := (by omega)) (hh := (by omega)) (h1 := (show i + 3 < sz ∧ 48 ≤ sg (i + 3) ∧ sg (i + 3) ≤ 57 by omega)) (h2 := (show sg (i + 3) ≤ 48 + 5 by omega))) lk_X6_figures w_5_136 [0, 1] rfl dX6_readSlip_13 rfl rfl rfl rfl ⟨by decide, by decide⟩ (Nat.le_of_ble_eq_true rfl) ?_
  rintro _ _ ⟨rfl, rfl⟩
  show ω [(hM, .inr (6, [.int (nI rf), .ref x1, .int (nI sz), .ref x3, .ref x4, .ref x5, .int (nI ac), .ref x7, .ref x8, .ref x9, .ref x10, .ref x11, .int (nI (i + 4)), .int (nI ou)])), (x1, .inl (eI E, 120, .inl tx)), (r, .inl (eI E, 255, .inl g))] [(2, .int (nI (10 * (sg (i + 1) - 48) + (sg (i + 2) - 48)))), (0, .ref hM), (1, .ref r)] [.int (nI (sg (i + 3) - 48))] 16
  refine r_istore_n C (lv' := [(3, .int (nI (sg (i + 3) - 48))), (2, .int (nI (10 * (sg (i + 1) - 48) + (sg (i + 2) - 48)))), (0, .ref hM), (1, .ref r)]) dX6_readSlip_16 rfl (by decide) rfl ?_
  refine r_aload_n C (i := 0) 2 dX6_readSlip_17 rfl rfl ?_
  refine r_iload_n C (i := 3) 0 dX6_readSlip_18 rfl rfl ?_
  refine r_iconst C dX6_readSlip_19 ki_1 ?_
  refine r_bipush C dX6_readSlip_20 kb_9 ?_
  refine r_callV (rest := []) C (c_X6_figures__1b (hM := hM) (rf := rf) (x1 := x1) (sz := sz) (x3 := x3) (x4 := x4) (x5 := x5) (ac := ac) (x7 := x7) (x8 := x8) (x9 := x9) (x10 := x10) (x11 := x11) (sp := i + 4) (ou := ou) (tx := tx) (sg := sg) (x := sg (i + 3) - 48) (h := 9) (hT := hT) (hsp := (by omega)) (hx := (by omega)) (hh := (by omega)) (h1 := (show ¬ (i + 4 < sz ∧ 48 ≤ sg (i + 4) ∧ sg (i + 4) ≤ 57 ∧ sg (i + 4) ≤ 48 + 9) by omega))) lk_X6_figures w_5_136 [0, 1] rfl dX6_readSlip_22 rfl rfl rfl rfl ⟨by decide, by decide⟩ (Nat.le_of_ble_eq_true rfl) ?_
  rintro _ _ ⟨rfl, rfl⟩
  show ω [(hM, .inr (6, [.int (nI rf), .ref x1, .int (nI sz), .ref x3, .ref x4, .ref x5, .int (nI ac), .ref x7, .ref x8, .ref x9, .ref x10, .ref x11, .int (nI (i + 4)), .int (nI ou)])), (x1, .inl (eI E, 120, .inl tx)), (r, .inl (eI E, 255, .inl g))] [(3, .int (nI (sg (i + 3) - 48))), (2, .int (nI (10 * (sg (i + 1) - 48) + (sg (i + 2) - 48)))), (0, .ref hM), (1, .ref r)] [.int (mI 0)] 25
  refine r_istore C (lv' := [(4, .int (mI 0)), (3, .int (nI (sg (i + 3) - 48))), (2, .int (nI (10 * (sg (i + 1) - 48) + (sg (i + 2) - 48)))), (0, .ref hM), (1, .ref r)]) dX6_readSlip_25 (by decide) rfl ?_
  refine r_aload_n C (i := 0) 3 dX6_readSlip_27 rfl rfl ?_
  refine r_iload C (i := 4) 0 dX6_readSlip_28 rfl ?_
  refine r_iconst C dX6_readSlip_30 ki_2 ?_
  refine r_bipush C dX6_readSlip_31 kb_23 ?_
  refine r_callV (rest := []) C (c_X6_figures__n2 (hM := hM) (rf := rf) (x1 := x1) (sz := sz) (x3 := x3) (x4 := x4) (x5 := x5) (ac := ac) (x7 := x7) (x8 := x8) (x9 := x9) (x10 := x10) (x11 := x11) (sp := (i + 4)) (ou := ou) (h := 23) ) lk_X6_figures w_5_136 [0] rfl dX6_readSlip_33 rfl rfl rfl rfl ⟨by decide, by decide⟩ (Nat.le_of_ble_eq_true rfl) ?_
  rintro _ _ ⟨rfl, rfl⟩
  show ω [(hM, .inr (6, [.int (nI rf), .ref x1, .int (nI sz), .ref x3, .ref x4, .ref x5, .int (nI ac), .ref x7, .ref x8, .ref x9, .ref x10, .ref x11, .int (nI (i + 4)), .int (nI ou)])), (x1, .inl (eI E, 120, .inl tx)), (r, .inl (eI E, 255, .inl g))] [(4, .int (mI 0)), (3, .int (nI (sg (i + 3) - 48))), (2, .int (nI (10 * (sg (i + 1) - 48) + (sg (i + 2) - 48)))), (0, .ref hM), (1, .ref r)] [.int (mI 0)] 36
  refine r_istore C (lv' := [(5, .int (mI 0)), (4, .int (mI 0)), (3, .int (nI (sg (i + 3) - 48))), (2, .int (nI (10 * (sg (i + 1) - 48) + (sg (i + 2) - 48)))), (0, .ref hM), (1, .ref r)]) dX6_readSlip_36 (by decide) rfl ?_
  refine r_iload C (i := 5) 0 dX6_readSlip_38 rfl ?_
  refine r_iconst C dX6_readSlip_40 ki_m1 ?_
  refine r_icmp_eqT C 84 dX6_readSlip_41 (by decide) ((c_eqMM (by omega) (by omega)).mpr (by decide)) ?_
  refine r_iconst C dX6_readSlip_84 ki_0 ?_
  exact RT.1 _ _ _ _ _ dX6_readSlip_85 rfl nar_0 (⟨rfl, rfl⟩) rfl
set_option maxRecDepth 100000 in
set_option maxHeartbeats 1000000 in
theorem c_X6_readCommand__s3 {l : Launch} {E : Ev} {hM rf x1 sz x3 x4 x5 ac x7 x8 x9 x10 x11 ou : Nat} {r : Nat} {g : Nat → Int32} {σ : Sg} (hR : RepM σ g) (hW : Wf σ) {tx : Nat → Int32} {sg : Nat → Nat} (hT : TxR sg sz tx) {i : Nat} (hi : i < sz) (hc : sg i = 115) (hg : ∀ j, j < 3 → gd sg sz i j) (hb : ¬ gd sg sz i 3) : Ct l E yX6_readCommand cX6_readCommand 6 (some FieldType.boolean) 4 94 [.ref hM, .ref r] [(hM, .inr (6, [.int (nI rf), .ref x1, .int (nI sz), .ref x3, .ref x4, .ref x5, .int (nI ac), .ref x7, .ref x8, .ref x9, .ref x10, .ref x11, .int (nI i), .int (nI ou)])), (x1, .inl (eI E, 120, .inl tx)), (r, .inl (eI E, 255, .inl g))] (fun v9 w9 => v9 = some (.int (nI 0)) ∧ w9 = [(hM, .inr (6, [.int (nI rf), .ref x1, .int (nI sz), .ref x3, .ref x4, .ref x5, .int (nI ac), .ref x7, .ref x8, .ref x9, .ref x10, .ref x11, .int (nI (i + 4)), .int (nI ou)])), (x1, .inl (eI E, 120, .inl tx)), (r, .inl (eI E, 255, .inl g))]) := by
  have hwP := hW.P
  have hwA := hW.A
  have hwS := hW.S
  have hTz := hT.1
  refine ct_of (by decide +kernel) (Nat.le_of_ble_eq_true rfl) (fun ω C RT => ?_)
  show ω [(hM, .inr (6, [.int (nI rf), .ref x1, .int (nI sz), .ref x3, .ref x4, .ref x5, .int (nI ac), .ref x7, .ref x8, .ref x9, .ref x10, .ref x11, .int (nI i), .int (nI ou)])), (x1, .inl (eI E, 120, .inl tx)), (r, .inl (eI E, 255, .inl g))] [(0, .ref hM), (1, .ref r)] [] 0
  refine r_aload_n C (i := 0) 0 dX6_readCommand_0 rfl rfl ?_
  refine r_get C 0 1 uX6 rfl rfl (by decide) w_5_62 rfl dX6_readCommand_1 ?_
  refine r_aload_n C (i := 0) 0 dX6_readCommand_4 rfl rfl ?_
  refine r_get C 0 12 uX6 rfl rfl (by decide) w_5_73 rfl dX6_readCommand_5 ?_
  refine r_iald (j := i) (v := nI 115) C 1 rfl (by omega) (by decide) ((hT.2 i hi).1.trans (by rw [hc])) dX6_readCommand_8 ?_
  refine r_istore_n C (lv' := [(2, .int (nI 115)), (0, .ref hM), (1, .ref r)]) dX6_readCommand_9 rfl (by decide) rfl ?_
  refine r_aload_n C (i := 0) 1 dX6_readCommand_10 rfl rfl ?_
  refine r_dup C dX6_readCommand_11 rfl ?_
  refine r_get C 0 12 uX6 rfl rfl (by decide) w_5_73 rfl dX6_readCommand_12 ?_
  refine r_iconst C dX6_readCommand_15 ki_1 ?_
  refine r_iadd (v := nI (i + 1)) C dX6_readCommand_16 (nI_add _ _) ?_
  refine r_put (ws' := [(hM, .inr (6, [.int (nI rf), .ref x1, .int (nI sz), .ref x3, .ref x4, .ref x5, .int (nI ac), .ref x7, .ref x8, .ref x9, .ref x10, .ref x11, .int (nI (i + 1)), .int (nI ou)])), (x1, .inl (eI E, 120, .inl tx)), (r, .inl (eI E, 255, .inl g))]) C 0 12 uX6 rfl tyX6_ok nmX6 rfl (by decide) w_5_73 rfl (tyX6_ok 12 (by decide)) rfl rfl (Nat.le_of_ble_eq_true rfl) rfl dX6_readCommand_17 ?_
  refine r_iload_n C (i := 2) 0 dX6_readCommand_20 rfl rfl ?_
  refine r_look (off := 339) C 360 dX6_readCommand_21 (by decide) (by decide) (by decide) ?_
  refine r_aload_n C (i := 0) 1 dX6_readCommand_360 rfl rfl ?_
  refine r_aload_n C (i := 1) 2 dX6_readCommand_361 rfl rfl ?_
  refine r_callV (rest := []) C (c_X6_readSlip__f3 (hM := hM) (rf := rf) (x1 := x1) (sz := sz) (x3 := x3) (x4 := x4) (x5 := x5) (ac := ac) (x7 := x7) (x8 := x8) (x9 := x9) (x10 := x10) (x11 := x11) (ou := ou) (r := r) (g := g) (σ := σ) (tx := tx) (sg := sg) (i := i) (hR := hR) (hW := hW) (hT := hT) (hi := (by omega)) (hc := (by omega)) (hg := hg) (hb := hb)) lk_X6_readSlip w_5_178 [0, 1, 2] rfl dX6_readCommand_362 rfl rfl rfl rfl ⟨by decide, by decide⟩ (Nat.le_of_ble_eq_true rfl) ?_
  rintro _ _ ⟨rfl, rfl⟩
  show ω [(hM, .inr (6, [.int (nI rf), .ref x1, .int (nI sz), .ref x3, .ref x4, .ref x5, .int (nI ac), .ref x7, .ref x8, .ref x9, .ref x10, .ref x11, .int (nI (i + 4)), .int (nI ou)])), (x1, .inl (eI E, 120, .inl tx)), (r, .inl (eI E, 255, .inl g))] [(2, .int (nI 115)), (0, .ref hM), (1, .ref r)] [.int (nI 0)] 365
  exact RT.1 _ _ _ _ _ dX6_readCommand_365 rfl nar_0 (⟨rfl, rfl⟩) rfl
set_option maxRecDepth 100000 in
set_option maxHeartbeats 1000000 in
theorem c_X6_readSlip__f4 {l : Launch} {E : Ev} {hM rf x1 sz x3 x4 x5 ac x7 x8 x9 x10 x11 ou : Nat} {r : Nat} {g : Nat → Int32} {σ : Sg} (hR : RepM σ g) (hW : Wf σ) {tx : Nat → Int32} {sg : Nat → Nat} (hT : TxR sg sz tx) {i : Nat} (hi : i < sz) (hc : sg i = 115) (hg : ∀ j, j < 4 → gd sg sz i j) (hb : ¬ gd sg sz i 4) : Ct l E yX6_readSlip cX6_readSlip 6 (some FieldType.boolean) 3 69 [.ref hM, .ref r] [(hM, .inr (6, [.int (nI rf), .ref x1, .int (nI sz), .ref x3, .ref x4, .ref x5, .int (nI ac), .ref x7, .ref x8, .ref x9, .ref x10, .ref x11, .int (nI (i + 1)), .int (nI ou)])), (x1, .inl (eI E, 120, .inl tx)), (r, .inl (eI E, 255, .inl g))] (fun v9 w9 => v9 = some (.int (nI 0)) ∧ w9 = [(hM, .inr (6, [.int (nI rf), .ref x1, .int (nI sz), .ref x3, .ref x4, .ref x5, .int (nI ac), .ref x7, .ref x8, .ref x9, .ref x10, .ref x11, .int (nI (i + 5)), .int (nI ou)])), (x1, .inl (eI E, 120, .inl tx)), (r, .inl (eI E, 255, .inl g))]) := by
  have hwP := hW.P
  have hwA := hW.A
  have hwS := hW.S
  have hTz := hT.1
  have g0 := (gdL_s0 hc).mp (hg 0 (by decide))
  have g1 := (gdL_s1 hc).mp (hg 1 (by decide))
  have g2 := (gdL_s2 hc).mp (hg 2 (by decide))
  have g3 := (gdL_s3 hc).mp (hg 3 (by decide))
  have hb9 : ¬ _ := fun z => hb ((gdL_s4 hc).mpr z)
  refine ct_of (by decide +kernel) (Nat.le_of_ble_eq_true rfl) (fun ω C RT => ?_)
  show ω [(hM, .inr (6, [.int (nI rf), .ref x1, .int (nI sz), .ref x3, .ref x4, .ref x5, .int (nI ac), .ref x7, .ref x8, .ref x9, .ref x10, .ref x11, .int (nI (i + 1)), .int (nI ou)])), (x1, .inl (eI E, 120, .inl tx)), (r, .inl (eI E, 255, .inl g))] [(0, .ref hM), (1, .ref r)] [] 0
  refine r_aload_n C (i := 0) 0 dX6_readSlip_0 rfl rfl ?_
  refine r_iconst C dX6_readSlip_1 ki_0 ?_
  refine r_iconst C dX6_readSlip_2 ki_2 ?_
  refine r_bipush C dX6_readSlip_3 kb_19 ?_
  refine r_callV (rest := []) C (c_X6_figures__2 (hM := hM) (rf := rf) (x1 := x1) (sz := sz) (x3 := x3) (x4 := x4) (x5 := x5) (ac := ac) (x7 := x7) (x8 := x8) (x9 := x9) (x10 := x10) (x11 := x11) (sp := i + 1) (ou := ou) (tx := tx) (sg := sg) (x := 0) (h := 19) (hT := hT) (hsp := (by omega)) (hx := (by omega)) (hh := (by omega)) (h1 := (show i + 1 < sz ∧ 48 ≤ sg (i + 1) ∧ sg (i + 1) ≤ 57 by omega)) (h2 := (show i + 2 < sz ∧ 48 ≤ sg (i + 2) ∧ sg (i + 2) ≤ 57 by omega)) (h3 := (show 10 * (sg (i + 1) - 48) + (sg (i + 2) - 48) ≤ 19 by omega))) lk_X6_figures w_5_136 [0, 1] rfl dX6_readSlip_5 rfl rfl rfl rfl ⟨by decide, by decide⟩ (Nat.le_of_ble_eq_true rfl) ?_
  rintro _ _ ⟨rfl, rfl⟩
  show ω [(hM, .inr (6, [.int (nI rf), .ref x1, .int (nI sz), .ref x3, .ref x4, .ref x5, .int (nI ac), .ref x7, .ref x8, .ref x9, .ref x10, .ref x11, .int (nI (i + 3)), .int (nI ou)])), (x1, .inl (eI E, 120, .inl tx)), (r, .inl (eI E, 255, .inl g))] [(0, .ref hM), (1, .ref r)] [.int (nI (10 * (sg (i + 1) - 48) + (sg (i + 2) - 48)))] 8
  refine r_istore_n C (lv' := [(2, .int (nI (10 * (sg (i + 1) - 48) + (sg (i + 2) - 48)))), (0, .ref hM), (1, .ref r)]) dX6_readSlip_8 rfl (by decide) rfl ?_
  refine r_aload_n C (i := 0) 1 dX6_readSlip_9 rfl rfl ?_
  refine r_iload_n C (i := 2) 0 dX6_readSlip_10 rfl rfl ?_
  refine r_iconst C dX6_readSlip_11 ki_1 ?_
  refine r_iconst C dX6_readSlip_12 ki_5 ?_
  refine r_callV (rest := []) C (c_X6_figures__1 (hM := hM) (rf := rf) (x1 := x1) (sz := sz) (x3 := x3) (x4 := x4) (x5 := x5) (ac := ac) (x7 := x7) (x8 := x8) (x9 := x9) (x10 := x10) (x11 := x11) (sp := i + 3) (ou := ou) (tx := tx) (sg := sg) (x := 10 * (sg (i + 1) - 48) + (sg (i + 2) - 48)) (h := 5) (hT := hT) (hsp := (by omega)) (hx := (by omega)) (hh := (by omega)) (h1 := (show i + 3 < sz ∧ 48 ≤ sg (i + 3) ∧ sg (i + 3) ≤ 57 by omega)) (h2 := (show sg (i + 3) ≤ 48 + 5 by omega))) lk_X6_figures w_5_136 [0, 1] rfl dX6_readSlip_13 rfl rfl rfl rfl ⟨by decide, by decide⟩ (Nat.le_of_ble_eq_true rfl) ?_
  rintro _ _ ⟨rfl, rfl⟩
  show ω [(hM, .inr (6, [.int (nI rf), .ref x1, .int (nI sz), .ref x3, .ref x4, .ref x5, .int (nI ac), .ref x7, .ref x8, .ref x9, .ref x10, .ref x11, .int (nI (i + 4)), .int (nI ou)])), (x1, .inl (eI E, 120, .inl tx)), (r, .inl (eI E, 255, .inl g))] [(2, .int (nI (10 * (sg (i + 1) - 48) + (sg (i + 2) - 48)))), (0, .ref hM), (1, .ref r)] [.int (nI (sg (i + 3) - 48))] 16
  refine r_istore_n C (lv' := [(3, .int (nI (sg (i + 3) - 48))), (2, .int (nI (10 * (sg (i + 1) - 48) + (sg (i + 2) - 48)))), (0, .ref hM), (1, .ref r)]) dX6_readSlip_16 rfl (by decide) rfl ?_
  refine r_aload_n C (i := 0) 2 dX6_readSlip_17 rfl rfl ?_
  refine r_iload_n C (i := 3) 0 dX6_readSlip_18 rfl rfl ?_
  refine r_iconst C dX6_readSlip_19 ki_1 ?_
  refine r_bipush C dX6_readSlip_20 kb_9 ?_
  refine r_callV (rest := []) C (c_X6_figures__1 (hM := hM) (rf := rf) (x1 := x1) (sz := sz) (x3 := x3) (x4 := x4) (x5 := x5) (ac := ac) (x7 := x7) (x8 := x8) (x9 := x9) (x10 := x10) (x11 := x11) (sp := i + 4) (ou := ou) (tx := tx) (sg := sg) (x := sg (i + 3) - 48) (h := 9) (hT := hT) (hsp := (by omega)) (hx := (by omega)) (hh := (by omega)) (h1 := (show i + 4 < sz ∧ 48 ≤ sg (i + 4) ∧ sg (i + 4) ≤ 57 by omega)) (h2 := (show sg (i + 4) ≤ 48 + 9 by omega))) lk_X6_figures w_5_136 [0, 1] rfl dX6_readSlip_22 rfl rfl rfl rfl ⟨by decide, by decide⟩ (Nat.le_of_ble_eq_true rfl) ?_
  rintro _ _ ⟨rfl, rfl⟩
  show ω [(hM, .inr (6, [.int (nI rf), .ref x1, .int (nI sz), .ref x3, .ref x4, .ref x5, .int (nI ac), .ref x7, .ref x8, .ref x9, .ref x10, .ref x11, .int (nI (i + 5)), .int (nI ou)])), (x1, .inl (eI E, 120, .inl tx)), (r, .inl (eI E, 255, .inl g))] [(3, .int (nI (sg (i + 3) - 48))), (2, .int (nI (10 * (sg (i + 1) - 48) + (sg (i + 2) - 48)))), (0, .ref hM), (1, .ref r)] [.int (nI (sg (i + 4) - 48))] 25
  refine r_istore C (lv' := [(4, .int (nI (sg (i + 4) - 48))), (3, .int (nI (sg (i + 3) - 48))), (2, .int (nI (10 * (sg (i + 1) - 48) + (sg (i + 2) - 48)))), (0, .ref hM), (1, .ref r)]) dX6_readSlip_25 (by decide) rfl ?_
  refine r_aload_n C (i := 0) 3 dX6_readSlip_27 rfl rfl ?_
  refine r_iload C (i := 4) 0 dX6_readSlip_28 rfl ?_
  refine r_iconst C dX6_readSlip_30 ki_2 ?_
  refine r_bipush C dX6_readSlip_31 kb_23 ?_
  refine r_callV (rest := []) C (c_X6_figures__2b0 (hM := hM) (rf := rf) (x1 := x1) (sz := sz) (x3 := x3) (x4 := x4) (x5 := x5) (ac := ac) (x7 := x7) (x8 := x8) (x9 := x9) (x10 := x10) (x11 := x11) (sp := i + 5) (ou := ou) (tx := tx) (sg := sg) (x := sg (i + 4) - 48) (h := 23) (hT := hT) (hsp := (by omega)) (hx := (by omega)) (hh := (by omega)) (h1 := (show ¬ (i + 5 < sz ∧ 48 ≤ sg (i + 5) ∧ sg (i + 5) ≤ 57 ∧ 10 * (sg (i + 5) - 48) ≤ 23) by omega))) lk_X6_figures w_5_136 [0, 1] rfl dX6_readSlip_33 rfl rfl rfl rfl ⟨by decide, by decide⟩ (Nat.le_of_ble_eq_true rfl) ?_
  rintro _ _ ⟨rfl, rfl⟩
  show ω [(hM, .inr (6, [.int (nI rf), .ref x1, .int (nI sz), .ref x3, .ref x4, .ref x5, .int (nI ac), .ref x7, .ref x8, .ref x9, .ref x10, .ref x11, .int (nI (i + 5)), .int (nI ou)])), (x1, .inl (eI E, 120, .inl tx)), (r, .inl (eI E, 255, .inl g))] [(4, .int (nI (sg (i + 4) - 48))), (3, .int (nI (sg (i + 3) - 48))), (2, .int (nI (10 * (sg (i + 1) - 48) + (sg (i + 2) - 48)))), (0, .ref hM), (1, .ref r)] [.int (mI 0)] 36
  refine r_istore C (lv' := [(5, .int (mI 0)), (4, .int (nI (sg (i + 4) - 48))), (3, .int (nI (sg (i + 3) - 48))), (2, .int (nI (10 * (sg (i + 1) - 48) + (sg (i + 2) - 48)))), (0, .ref hM), (1, .ref r)]) dX6_readSlip_36 (by decide) rfl ?_
  refine r_iload C (i := 5) 0 dX6_readSlip_38 rfl ?_
  refine r_iconst C dX6_readSlip_40 ki_m1 ?_
  refine r_icmp_eqT C 84 dX6_readSlip_41 (by decide) ((c_eqMM (by omega) (by omega)).mpr (by decide)) ?_
  refine r_iconst C dX6_readSlip_84 ki_0 ?_
  exact RT.1 _ _ _ _ _ dX6_readSlip_85 rfl nar_0 (⟨rfl, rfl⟩) rfl
set_option maxRecDepth 100000 in
set_option maxHeartbeats 1000000 in
theorem c_X6_readCommand__s4 {l : Launch} {E : Ev} {hM rf x1 sz x3 x4 x5 ac x7 x8 x9 x10 x11 ou : Nat} {r : Nat} {g : Nat → Int32} {σ : Sg} (hR : RepM σ g) (hW : Wf σ) {tx : Nat → Int32} {sg : Nat → Nat} (hT : TxR sg sz tx) {i : Nat} (hi : i < sz) (hc : sg i = 115) (hg : ∀ j, j < 4 → gd sg sz i j) (hb : ¬ gd sg sz i 4) : Ct l E yX6_readCommand cX6_readCommand 6 (some FieldType.boolean) 4 94 [.ref hM, .ref r] [(hM, .inr (6, [.int (nI rf), .ref x1, .int (nI sz), .ref x3, .ref x4, .ref x5, .int (nI ac), .ref x7, .ref x8, .ref x9, .ref x10, .ref x11, .int (nI i), .int (nI ou)])), (x1, .inl (eI E, 120, .inl tx)), (r, .inl (eI E, 255, .inl g))] (fun v9 w9 => v9 = some (.int (nI 0)) ∧ w9 = [(hM, .inr (6, [.int (nI rf), .ref x1, .int (nI sz), .ref x3, .ref x4, .ref x5, .int (nI ac), .ref x7, .ref x8, .ref x9, .ref x10, .ref x11, .int (nI (i + 5)), .int (nI ou)])), (x1, .inl (eI E, 120, .inl tx)), (r, .inl (eI E, 255, .inl g))]) := by
  have hwP := hW.P
  have hwA := hW.A
  have hwS := hW.S
  have hTz := hT.1
  refine ct_of (by decide +kernel) (Nat.le_of_ble_eq_true rfl) (fun ω C RT => ?_)
  show ω [(hM, .inr (6, [.int (nI rf), .ref x1, .int (nI sz), .ref x3, .ref x4, .ref x5, .int (nI ac), .ref x7, .ref x8, .ref x9, .ref x10, .ref x11, .int (nI i), .int (nI ou)])), (x1, .inl (eI E, 120, .inl tx)), (r, .inl (eI E, 255, .inl g))] [(0, .ref hM), (1, .ref r)] [] 0
  refine r_aload_n C (i := 0) 0 dX6_readCommand_0 rfl rfl ?_
  refine r_get C 0 1 uX6 rfl rfl (by decide) w_5_62 rfl dX6_readCommand_1 ?_
  refine r_aload_n C (i := 0) 0 dX6_readCommand_4 rfl rfl ?_
  refine r_get C 0 12 uX6 rfl rfl (by decide) w_5_73 rfl dX6_readCommand_5 ?_
  refine r_iald (j := i) (v := nI 115) C 1 rfl (by omega) (by decide) ((hT.2 i hi).1.trans (by rw [hc])) dX6_readCommand_8 ?_
  refine r_istore_n C (lv' := [(2, .int (nI 115)), (0, .ref hM), (1, .ref r)]) dX6_readCommand_9 rfl (by decide) rfl ?_
  refine r_aload_n C (i := 0) 1 dX6_readCommand_10 rfl rfl ?_
  refine r_dup C dX6_readCommand_11 rfl ?_
  refine r_get C 0 12 uX6 rfl rfl (by decide) w_5_73 rfl dX6_readCommand_12 ?_
  refine r_iconst C dX6_readCommand_15 ki_1 ?_
  refine r_iadd (v := nI (i + 1)) C dX6_readCommand_16 (nI_add _ _) ?_
  refine r_put (ws' := [(hM, .inr (6, [.int (nI rf), .ref x1, .int (nI sz), .ref x3, .ref x4, .ref x5, .int (nI ac), .ref x7, .ref x8, .ref x9, .ref x10, .ref x11, .int (nI (i + 1)), .int (nI ou)])), (x1, .inl (eI E, 120, .inl tx)), (r, .inl (eI E, 255, .inl g))]) C 0 12 uX6 rfl tyX6_ok nmX6 rfl (by decide) w_5_73 rfl (tyX6_ok 12 (by decide)) rfl rfl (Nat.le_of_ble_eq_true rfl) rfl dX6_readCommand_17 ?_
  refine r_iload_n C (i := 2) 0 dX6_readCommand_20 rfl rfl ?_
  refine r_look (off := 339) C 360 dX6_readCommand_21 (by decide) (by decide) (by decide) ?_
  refine r_aload_n C (i := 0) 1 dX6_readCommand_360 rfl rfl ?_
  refine r_aload_n C (i := 1) 2 dX6_readCommand_361 rfl rfl ?_
  refine r_callV (rest := []) C (c_X6_readSlip__f4 (hM := hM) (rf := rf) (x1 := x1) (sz := sz) (x3 := x3) (x4 := x4) (x5 := x5) (ac := ac) (x7 := x7) (x8 := x8) (x9 := x9) (x10 := x10) (x11 := x11) (ou := ou) (r := r) (g := g) (σ := σ) (tx := tx) (sg := sg) (i := i) (hR := hR) (hW := hW) (hT := hT) (hi := (by omega)) (hc := (by omega)) (hg := hg) (hb := hb)) lk_X6_readSlip w_5_178 [0, 1, 2] rfl dX6_readCommand_362 rfl rfl rfl rfl ⟨by decide, by decide⟩ (Nat.le_of_ble_eq_true rfl) ?_
  rintro _ _ ⟨rfl, rfl⟩
  show ω [(hM, .inr (6, [.int (nI rf), .ref x1, .int (nI sz), .ref x3, .ref x4, .ref x5, .int (nI ac), .ref x7, .ref x8, .ref x9, .ref x10, .ref x11, .int (nI (i + 5)), .int (nI ou)])), (x1, .inl (eI E, 120, .inl tx)), (r, .inl (eI E, 255, .inl g))] [(2, .int (nI 115)), (0, .ref hM), (1, .ref r)] [.int (nI 0)] 365
  exact RT.1 _ _ _ _ _ dX6_readCommand_365 rfl nar_0 (⟨rfl, rfl⟩) rfl
set_option maxRecDepth 100000 in
set_option maxHeartbeats 1000000 in
theorem c_X6_readSlip__f5 {l : Launch} {E : Ev} {hM rf x1 sz x3 x4 x5 ac x7 x8 x9 x10 x11 ou : Nat} {r : Nat} {g : Nat → Int32} {σ : Sg} (hR : RepM σ g) (hW : Wf σ) {tx : Nat → Int32} {sg : Nat → Nat} (hT : TxR sg sz tx) {i : Nat} (hi : i < sz) (hc : sg i = 115) (hg : ∀ j, j < 5 → gd sg sz i j) (hb : ¬ gd sg sz i 5) : Ct l E yX6_readSlip cX6_readSlip 6 (some FieldType.boolean) 3 69 [.ref hM, .ref r] [(hM, .inr (6, [.int (nI rf), .ref x1, .int (nI sz), .ref x3, .ref x4, .ref x5, .int (nI ac), .ref x7, .ref x8, .ref x9, .ref x10, .ref x11, .int (nI (i + 1)), .int (nI ou)])), (x1, .inl (eI E, 120, .inl tx)), (r, .inl (eI E, 255, .inl g))] (fun v9 w9 => v9 = some (.int (nI 0)) ∧ w9 = [(hM, .inr (6, [.int (nI rf), .ref x1, .int (nI sz), .ref x3, .ref x4, .ref x5, .int (nI ac), .ref x7, .ref x8, .ref x9, .ref x10, .ref x11, .int (nI (i + 6)), .int (nI ou)])), (x1, .inl (eI E, 120, .inl tx)), (r, .inl (eI E, 255, .inl g))]) := by
  have hwP := hW.P
  have hwA := hW.A
  have hwS := hW.S
  have hTz := hT.1
  have g0 := (gdL_s0 hc).mp (hg 0 (by decide))
  have g1 := (gdL_s1 hc).mp (hg 1 (by decide))
  have g2 := (gdL_s2 hc).mp (hg 2 (by decide))
  have g3 := (gdL_s3 hc).mp (hg 3 (by decide))
  have g4 := (gdL_s4 hc).mp (hg 4 (by decide))
  have hb9 : ¬ _ := fun z => hb ((gdL_s5 hc).mpr z)
  replace hb9 : ¬ (i + 6 < sz ∧ 48 ≤ sg (i + 6) ∧ sg (i + 6) ≤ 57 ∧ 10 * (sg (i + 5) - 48) + (sg (i + 6) - 48) ≤ 23) := fun z => hb9 (by split <;> omega)
  refine ct_of (by decide +kernel) (Nat.le_of_ble_eq_true rfl) (fun ω C RT => ?_)
  show ω [(hM, .inr (6, [.int (nI rf), .ref x1, .int (nI sz), .ref x3, .ref x4, .ref x5, .int (nI ac), .ref x7, .ref x8, .ref x9, .ref x10, .ref x11, .int (nI (i + 1)), .int (nI ou)])), (x1, .inl (eI E, 120, .inl tx)), (r, .inl (eI E, 255, .inl g))] [(0, .ref hM), (1, .ref r)] [] 0
  refine r_aload_n C (i := 0) 0 dX6_readSlip_0 rfl rfl ?_
  refine r_iconst C dX6_readSlip_1 ki_0 ?_
  refine r_iconst C dX6_readSlip_2 ki_2 ?_
  refine r_bipush C dX6_readSlip_3 kb_19 ?_
  refine r_callV (rest := []) C (c_X6_figures__2 (hM := hM) (rf := rf) (x1 := x1) (sz := sz) (x3 := x3) (x4 := x4) (x5 := x5) (ac := ac) (x7 := x7) (x8 := x8) (x9 := x9) (x10 := x10) (x11 := x11) (sp := i + 1) (ou := ou) (tx := tx) (sg := sg) (x := 0) (h := 19) (hT := hT) (hsp := (by omega)) (hx := (by omega)) (hh := (by omega)) (h1 := (show i + 1 < sz ∧ 48 ≤ sg (i + 1) ∧ sg (i + 1) ≤ 57 by omega)) (h2 := (show i + 2 < sz ∧ 48 ≤ sg (i + 2) ∧ sg (i + 2) ≤ 57 by omega)) (h3 := (show 10 * (sg (i + 1) - 48) + (sg (i + 2) - 48) ≤ 19 by omega))) lk_X6_figures w_5_136 [0, 1] rfl dX6_readSlip_5 rfl rfl rfl rfl ⟨by decide, by decide⟩ (Nat.le_of_ble_eq_true rfl) ?_
  rintro _ _ ⟨rfl, rfl⟩
  show ω [(hM, .inr (6, [.int (nI rf), .ref x1, .int (nI sz), .ref x3, .ref x4, .ref x5, .int (nI ac), .ref x7, .ref x8, .ref x9, .ref x10, .ref x11, .int (nI (i + 3)), .int (nI ou)])), (x1, .inl (eI E, 120, .inl tx)), (r, .inl (eI E, 255, .inl g))] [(0, .ref hM), (1, .ref r)] [.int (nI (10 * (sg (i + 1) - 48) + (sg (i + 2) - 48)))] 8
  refine r_istore_n C (lv' := [(2, .int (nI (10 * (sg (i + 1) - 48) + (sg (i + 2) - 48)))), (0, .ref hM), (1, .ref r)]) dX6_readSlip_8 rfl (by decide) rfl ?_
  refine r_aload_n C (i := 0) 1 dX6_readSlip_9 rfl rfl ?_
  refine r_iload_n C (i := 2) 0 dX6_readSlip_10 rfl rfl ?_
  refine r_iconst C dX6_readSlip_11 ki_1 ?_
  refine r_iconst C dX6_readSlip_12 ki_5 ?_
  refine r_callV (rest := []) C (c_X6_figures__1 (hM := hM) (rf := rf) (x1 := x1) (sz := sz) (x3 := x3) (x4 := x4) (x5 := x5) (ac := ac) (x7 := x7) (x8 := x8) (x9 := x9) (x10 := x10) (x11 := x11) (sp := i + 3) (ou := ou) (tx := tx) (sg := sg) (x := 10 * (sg (i + 1) - 48) + (sg (i + 2) - 48)) (h := 5) (hT := hT) (hsp := (by omega)) (hx := (by omega)) (hh := (by omega)) (h1 := (show i + 3 < sz ∧ 48 ≤ sg (i + 3) ∧ sg (i + 3) ≤ 57 by omega)) (h2 := (show sg (i + 3) ≤ 48 + 5 by omega))) lk_X6_figures w_5_136 [0, 1] rfl dX6_readSlip_13 rfl rfl rfl rfl ⟨by decide, by decide⟩ (Nat.le_of_ble_eq_true rfl) ?_
  rintro _ _ ⟨rfl, rfl⟩
  show ω [(hM, .inr (6, [.int (nI rf), .ref x1, .int (nI sz), .ref x3, .ref x4, .ref x5, .int (nI ac), .ref x7, .ref x8, .ref x9, .ref x10, .ref x11, .int (nI (i + 4)), .int (nI ou)])), (x1, .inl (eI E, 120, .inl tx)), (r, .inl (eI E, 255, .inl g))] [(2, .int (nI (10 * (sg (i + 1) - 48) + (sg (i + 2) - 48)))), (0, .ref hM), (1, .ref r)] [.int (nI (sg (i + 3) - 48))] 16
  refine r_istore_n C (lv' := [(3, .int (nI (sg (i + 3) - 48))), (2, .int (nI (10 * (sg (i + 1) - 48) + (sg (i + 2) - 48)))), (0, .ref hM), (1, .ref r)]) dX6_readSlip_16 rfl (by decide) rfl ?_
  refine r_aload_n C (i := 0) 2 dX6_readSlip_17 rfl rfl ?_
  refine r_iload_n C (i := 3) 0 dX6_readSlip_18 rfl rfl ?_
  refine r_iconst C dX6_readSlip_19 ki_1 ?_
  refine r_bipush C dX6_readSlip_20 kb_9 ?_
  refine r_callV (rest := []) C (c_X6_figures__1 (hM := hM) (rf := rf) (x1 := x1) (sz := sz) (x3 := x3) (x4 := x4) (x5 := x5) (ac := ac) (x7 := x7) (x8 := x8) (x9 := x9) (x10 := x10) (x11 := x11) (sp := i + 4) (ou := ou) (tx := tx) (sg := sg) (x := sg (i + 3) - 48) (h := 9) (hT := hT) (hsp := (by omega)) (hx := (by omega)) (hh := (by omega)) (h1 := (show i + 4 < sz ∧ 48 ≤ sg (i + 4) ∧ sg (i + 4) ≤ 57 by omega)) (h2 := (show sg (i + 4) ≤ 48 + 9 by omega))) lk_X6_figures w_5_136 [0, 1] rfl dX6_readSlip_22 rfl rfl rfl rfl ⟨by decide, by decide⟩ (Nat.le_of_ble_eq_true rfl) ?_
  rintro _ _ ⟨rfl, rfl⟩
  show ω [(hM, .inr (6, [.int (nI rf), .ref x1, .int (nI sz), .ref x3, .ref x4, .ref x5, .int (nI ac), .ref x7, .ref x8, .ref x9, .ref x10, .ref x11, .int (nI (i + 5)), .int (nI ou)])), (x1, .inl (eI E, 120, .inl tx)), (r, .inl (eI E, 255, .inl g))] [(3, .int (nI (sg (i + 3) - 48))), (2, .int (nI (10 * (sg (i + 1) - 48) + (sg (i + 2) - 48)))), (0, .ref hM), (1, .ref r)] [.int (nI (sg (i + 4) - 48))] 25
  refine r_istore C (lv' := [(4, .int (nI (sg (i + 4) - 48))), (3, .int (nI (sg (i + 3) - 48))), (2, .int (nI (10 * (sg (i + 1) - 48) + (sg (i + 2) - 48)))), (0, .ref hM), (1, .ref r)]) dX6_readSlip_25 (by decide) rfl ?_
  refine r_aload_n C (i := 0) 3 dX6_readSlip_27 rfl rfl ?_
  refine r_iload C (i := 4) 0 dX6_readSlip_28 rfl ?_
  refine r_iconst C dX6_readSlip_30 ki_2 ?_
  refine r_bipush C dX6_readSlip_31 kb_23 ?_
  refine r_callV (rest := []) C (c_X6_figures__2b1 (hM := hM) (rf := rf) (x1 := x1) (sz := sz) (x3 := x3) (x4 := x4) (x5 := x5) (ac := ac) (x7 := x7) (x8 := x8) (x9 := x9) (x10 := x10) (x11 := x11) (sp := i + 5) (ou := ou) (tx := tx) (sg := sg) (x := sg (i + 4) - 48) (h := 23) (hT := hT) (hsp := (by omega)) (hx := (by omega)) (hh := (by omega)) (h1 := (show i + 5 < sz ∧ 48 ≤ sg (i + 5) ∧ sg (i + 5) ≤ 57 ∧ 10 * (sg (i + 5) - 48) ≤ 23 by omega)) (h2 := (show ¬ (i + 6 < sz ∧ 48 ≤ sg (i + 6) ∧ sg (i + 6) ≤ 57 ∧ 10 * (sg (i + 5) - 48) + (sg (i + 6) - 48) ≤ 23) by omega))) lk_X6_figures w_5_136 [0, 1] rfl dX6_readSlip_33 rfl rfl rfl rfl ⟨by decide, by decide⟩ (Nat.le_of_ble_eq_true rfl) ?_
  rintro _ _ ⟨rfl, rfl⟩
  show ω [(hM, .inr (6, [.int (nI rf), .ref x1, .int (nI sz), .ref x3, .ref x4, .ref x5, .int (nI ac), .ref x7, .ref x8, .ref x9, .ref x10, .ref x11, .int (nI (i + 6)), .int (nI ou)])), (x1, .inl (eI E, 120, .inl tx)), (r, .inl (eI E, 255, .inl g))] [(4, .int (nI (sg (i + 4) - 48))), (3, .int (nI (sg (i + 3) - 48))), (2, .int (nI (10 * (sg (i + 1) - 48) + (sg (i + 2) - 48)))), (0, .ref hM), (1, .ref r)] [.int (mI 0)] 36
  refine r_istore C (lv' := [(5, .int (mI 0)), (4, .int (nI (sg (i + 4) - 48))), (3, .int (nI (sg (i + 3) - 48))), (2, .int (nI (10 * (sg (i + 1) - 48) + (sg (i + 2) - 48)))), (0, .ref hM), (1, .ref r)]) dX6_readSlip_36 (by decide) rfl ?_
  refine r_iload C (i := 5) 0 dX6_readSlip_38 rfl ?_
  refine r_iconst C dX6_readSlip_40 ki_m1 ?_
  refine r_icmp_eqT C 84 dX6_readSlip_41 (by decide) ((c_eqMM (by omega) (by omega)).mpr (by decide)) ?_
  refine r_iconst C dX6_readSlip_84 ki_0 ?_
  exact RT.1 _ _ _ _ _ dX6_readSlip_85 rfl nar_0 (⟨rfl, rfl⟩) rfl
set_option maxRecDepth 100000 in
set_option maxHeartbeats 1000000 in
theorem c_X6_readCommand__s5 {l : Launch} {E : Ev} {hM rf x1 sz x3 x4 x5 ac x7 x8 x9 x10 x11 ou : Nat} {r : Nat} {g : Nat → Int32} {σ : Sg} (hR : RepM σ g) (hW : Wf σ) {tx : Nat → Int32} {sg : Nat → Nat} (hT : TxR sg sz tx) {i : Nat} (hi : i < sz) (hc : sg i = 115) (hg : ∀ j, j < 5 → gd sg sz i j) (hb : ¬ gd sg sz i 5) : Ct l E yX6_readCommand cX6_readCommand 6 (some FieldType.boolean) 4 94 [.ref hM, .ref r] [(hM, .inr (6, [.int (nI rf), .ref x1, .int (nI sz), .ref x3, .ref x4, .ref x5, .int (nI ac), .ref x7, .ref x8, .ref x9, .ref x10, .ref x11, .int (nI i), .int (nI ou)])), (x1, .inl (eI E, 120, .inl tx)), (r, .inl (eI E, 255, .inl g))] (fun v9 w9 => v9 = some (.int (nI 0)) ∧ w9 = [(hM, .inr (6, [.int (nI rf), .ref x1, .int (nI sz), .ref x3, .ref x4, .ref x5, .int (nI ac), .ref x7, .ref x8, .ref x9, .ref x10, .ref x11, .int (nI (i + 6)), .int (nI ou)])), (x1, .inl (eI E, 120, .inl tx)), (r, .inl (eI E, 255, .inl g))]) := by
  have hwP := hW.P
  have hwA := hW.A
  have hwS := hW.S
  have hTz := hT.1
  refine ct_of (by decide +kernel) (Nat.le_of_ble_eq_true rfl) (fun ω C RT => ?_)
  show ω [(hM, .inr (6, [.int (nI rf), .ref x1, .int (nI sz), .ref x3, .ref x4, .ref x5, .int (nI ac), .ref x7, .ref x8, .ref x9, .ref x10, .ref x11, .int (nI i), .int (nI ou)])), (x1, .inl (eI E, 120, .inl tx)), (r, .inl (eI E, 255, .inl g))] [(0, .ref hM), (1, .ref r)] [] 0
  refine r_aload_n C (i := 0) 0 dX6_readCommand_0 rfl rfl ?_
  refine r_get C 0 1 uX6 rfl rfl (by decide) w_5_62 rfl dX6_readCommand_1 ?_
  refine r_aload_n C (i := 0) 0 dX6_readCommand_4 rfl rfl ?_
  refine r_get C 0 12 uX6 rfl rfl (by decide) w_5_73 rfl dX6_readCommand_5 ?_
  refine r_iald (j := i) (v := nI 115) C 1 rfl (by omega) (by decide) ((hT.2 i hi).1.trans (by rw [hc])) dX6_readCommand_8 ?_
  refine r_istore_n C (lv' := [(2, .int (nI 115)), (0, .ref hM), (1, .ref r)]) dX6_readCommand_9 rfl (by decide) rfl ?_
  refine r_aload_n C (i := 0) 1 dX6_readCommand_10 rfl rfl ?_
  refine r_dup C dX6_readCommand_11 rfl ?_
  refine r_get C 0 12 uX6 rfl rfl (by decide) w_5_73 rfl dX6_readCommand_12 ?_
  refine r_iconst C dX6_readCommand_15 ki_1 ?_
  refine r_iadd (v := nI (i + 1)) C dX6_readCommand_16 (nI_add _ _) ?_
  refine r_put (ws' := [(hM, .inr (6, [.int (nI rf), .ref x1, .int (nI sz), .ref x3, .ref x4, .ref x5, .int (nI ac), .ref x7, .ref x8, .ref x9, .ref x10, .ref x11, .int (nI (i + 1)), .int (nI ou)])), (x1, .inl (eI E, 120, .inl tx)), (r, .inl (eI E, 255, .inl g))]) C 0 12 uX6 rfl tyX6_ok nmX6 rfl (by decide) w_5_73 rfl (tyX6_ok 12 (by decide)) rfl rfl (Nat.le_of_ble_eq_true rfl) rfl dX6_readCommand_17 ?_
  refine r_iload_n C (i := 2) 0 dX6_readCommand_20 rfl rfl ?_
  refine r_look (off := 339) C 360 dX6_readCommand_21 (by decide) (by decide) (by decide) ?_
  refine r_aload_n C (i := 0) 1 dX6_readCommand_360 rfl rfl ?_
  refine r_aload_n C (i := 1) 2 dX6_readCommand_361 rfl rfl ?_
  refine r_callV (rest := []) C (c_X6_readSlip__f5 (hM := hM) (rf := rf) (x1 := x1) (sz := sz) (x3 := x3) (x4 := x4) (x5 := x5) (ac := ac) (x7 := x7) (x8 := x8) (x9 := x9) (x10 := x10) (x11 := x11) (ou := ou) (r := r) (g := g) (σ := σ) (tx := tx) (sg := sg) (i := i) (hR := hR) (hW := hW) (hT := hT) (hi := (by omega)) (hc := (by omega)) (hg := hg) (hb := hb)) lk_X6_readSlip w_5_178 [0, 1, 2] rfl dX6_readCommand_362 rfl rfl rfl rfl ⟨by decide, by decide⟩ (Nat.le_of_ble_eq_true rfl) ?_
  rintro _ _ ⟨rfl, rfl⟩
  show ω [(hM, .inr (6, [.int (nI rf), .ref x1, .int (nI sz), .ref x3, .ref x4, .ref x5, .int (nI ac), .ref x7, .ref x8, .ref x9, .ref x10, .ref x11, .int (nI (i + 6)), .int (nI ou)])), (x1, .inl (eI E, 120, .inl tx)), (r, .inl (eI E, 255, .inl g))] [(2, .int (nI 115)), (0, .ref hM), (1, .ref r)] [.int (nI 0)] 365
  exact RT.1 _ _ _ _ _ dX6_readCommand_365 rfl nar_0 (⟨rfl, rfl⟩) rfl
theorem look6 {d k b1 b2 b3 b4 b5 b6 : Int} (h : k ≠ 97 ∧ k ≠ 99 ∧ k ≠ 105 ∧ k ≠ 112 ∧ k ≠ 115 ∧ k ≠ 117) : Op.lookupswitch.offset [(97, b1), (99, b2), (105, b3), (112, b4), (115, b5), (117, b6)] d k = d := by
  simp only [Op.lookupswitch.offset_cons, Op.lookupswitch.offset_nil]
  rw [if_neg (by omega), if_neg (by omega), if_neg (by omega), if_neg (by omega), if_neg (by omega), if_neg (by omega)]
set_option maxRecDepth 100000 in
set_option maxHeartbeats 1000000 in
theorem c_X6_readCommand__no {l : Launch} {E : Ev} {hM rf x1 sz x3 x4 x5 ac x7 x8 x9 x10 x11 ou : Nat} {r : Nat} {g : Nat → Int32} {σ : Sg} (hR : RepM σ g) (hW : Wf σ) {tx : Nat → Int32} {sg : Nat → Nat} (hT : TxR sg sz tx) {i : Nat} (hi : i < sz) (hn : ¬ isC (sg i)) : Ct l E yX6_readCommand cX6_readCommand 6 (some FieldType.boolean) 4 94 [.ref hM, .ref r] [(hM, .inr (6, [.int (nI rf), .ref x1, .int (nI sz), .ref x3, .ref x4, .ref x5, .int (nI ac), .ref x7, .ref x8, .ref x9, .ref x10, .ref x11, .int (nI i), .int (nI ou)])), (x1, .inl (eI E, 120, .inl tx)), (r, .inl (eI E, 255, .inl g))] (fun v9 w9 => v9 = some (.int (nI 0)) ∧ w9 = [(hM, .inr (6, [.int (nI rf), .ref x1, .int (nI sz), .ref x3, .ref x4, .ref x5, .int (nI ac), .ref x7, .ref x8, .ref x9, .ref x10, .ref x11, .int (nI i), .int (nI ou)])), (x1, .inl (eI E, 120, .inl tx)), (r, .inl (eI E, 255, .inl g))]) := by
  have hwP := hW.P
  have hwA := hW.A
  have hwS := hW.S
  have hTz := hT.1
  have hz9 := (hT.2 i hi).2
  refine ct_of (by decide +kernel) (Nat.le_of_ble_eq_true rfl) (fun ω C RT => ?_)
  show ω [(hM, .inr (6, [.int (nI rf), .ref x1, .int (nI sz), .ref x3, .ref x4, .ref x5, .int (nI ac), .ref x7, .ref x8, .ref x9, .ref x10, .ref x11, .int (nI i), .int (nI ou)])), (x1, .inl (eI E, 120, .inl tx)), (r, .inl (eI E, 255, .inl g))] [(0, .ref hM), (1, .ref r)] [] 0
  refine r_aload_n C (i := 0) 0 dX6_readCommand_0 rfl rfl ?_
  refine r_get C 0 1 uX6 rfl rfl (by decide) w_5_62 rfl dX6_readCommand_1 ?_
  refine r_aload_n C (i := 0) 0 dX6_readCommand_4 rfl rfl ?_
  refine r_get C 0 12 uX6 rfl rfl (by decide) w_5_73 rfl dX6_readCommand_5 ?_
  refine r_iald (j := i) (v := nI (sg i)) C 1 rfl (by omega) (by decide) ((hT.2 i hi).1) dX6_readCommand_8 ?_
  refine r_istore_n C (lv' := [(2, .int (nI (sg i))), (0, .ref hM), (1, .ref r)]) dX6_readCommand_9 rfl (by decide) rfl ?_
  refine r_aload_n C (i := 0) 1 dX6_readCommand_10 rfl rfl ?_
  refine r_dup C dX6_readCommand_11 rfl ?_
  refine r_get C 0 12 uX6 rfl rfl (by decide) w_5_73 rfl dX6_readCommand_12 ?_
  refine r_iconst C dX6_readCommand_15 ki_1 ?_
  refine r_iadd (v := nI (i + 1)) C dX6_readCommand_16 (nI_add _ _) ?_
  refine r_put (ws' := [(hM, .inr (6, [.int (nI rf), .ref x1, .int (nI sz), .ref x3, .ref x4, .ref x5, .int (nI ac), .ref x7, .ref x8, .ref x9, .ref x10, .ref x11, .int (nI (i + 1)), .int (nI ou)])), (x1, .inl (eI E, 120, .inl tx)), (r, .inl (eI E, 255, .inl g))]) C 0 12 uX6 rfl tyX6_ok nmX6 rfl (by decide) w_5_73 rfl (tyX6_ok 12 (by decide)) rfl rfl (Nat.le_of_ble_eq_true rfl) rfl dX6_readCommand_17 ?_
  refine r_iload_n C (i := 2) 0 dX6_readCommand_20 rfl rfl ?_
  refine r_look (off := 345) C 366 dX6_readCommand_21 (by decide) (look6 (by rw [nI_toInt (by omega)]; omega)) (by decide) ?_
  refine r_aload_n C (i := 0) 1 dX6_readCommand_366 rfl rfl ?_
  refine r_dup C dX6_readCommand_367 rfl ?_
  refine r_get C 0 12 uX6 rfl rfl (by decide) w_5_73 rfl dX6_readCommand_368 ?_
  refine r_iconst C dX6_readCommand_371 ki_1 ?_
  refine r_isub (v := nI i) C dX6_readCommand_372 (v_sub (by omega)) ?_
  refine r_put (ws' := [(hM, .inr (6, [.int (nI rf), .ref x1, .int (nI sz), .ref x3, .ref x4, .ref x5, .int (nI ac), .ref x7, .ref x8, .ref x9, .ref x10, .ref x11, .int (nI i), .int (nI ou)])), (x1, .inl (eI E, 120, .inl tx)), (r, .inl (eI E, 255, .inl g))]) C 0 12 uX6 rfl tyX6_ok nmX6 rfl (by decide) w_5_73 rfl (tyX6_ok 12 (by decide)) rfl rfl (Nat.le_of_ble_eq_true rfl) rfl dX6_readCommand_373 ?_
  refine r_iconst C dX6_readCommand_376 ki_0 ?_
  exact RT.1 _ _ _ _ _ dX6_readCommand_377 rfl nar_0 (⟨rfl, rfl⟩) rfl
theorem c_X6_readCommand__ok {l : Launch} {E : Ev} {hM rf x1 sz x3 x4 x5 ac x7 x8 x9 x10 x11 ou : Nat} {r : Nat} {g : Nat → Int32} {σ : Sg} (hR : RepM σ g) (hW : Wf σ) {tx : Nat → Int32} {sg : Nat → Nat} (hT : TxR sg sz tx) {i : Nat} (hi : i < sz) (hok : okC sg sz i) : Ct l E yX6_readCommand cX6_readCommand 6 (some FieldType.boolean) 4 94 [.ref hM, .ref r] [(hM, .inr (6, [.int (nI rf), .ref x1, .int (nI sz), .ref x3, .ref x4, .ref x5, .int (nI ac), .ref x7, .ref x8, .ref x9, .ref x10, .ref x11, .int (nI i), .int (nI ou)])), (x1, .inl (eI E, 120, .inl tx)), (r, .inl (eI E, 255, .inl g))] (fun v9 w9 => ∃ g2 : Nat → Int32, v9 = some (.int (nI 1)) ∧ w9 = [(hM, .inr (6, [.int (nI rf), .ref x1, .int (nI sz), .ref x3, .ref x4, .ref x5, .int (nI ac), .ref x7, .ref x8, .ref x9, .ref x10, .ref x11, .int (nI (i + 1 + nD (sg i))), .int (nI (ou + loC σ sg i))])), (x1, .inl (eI E, 120, .inl tx)), (r, .inl (eI E, 255, .inl g2))] ∧ RepM (opC σ sg i) g2) := by
  obtain ⟨hl, hf⟩ := hok
  have hg : ∀ j, j < nD (sg i) → gd sg sz i j := fun j hj => fk_gd (by rw [hf]; exact hj)
  rcases hl with hc | hc | hc | hc | hc | hc
  · rw [nDL_a hc] at hg ⊢; exact c_X6_readCommand__a hR hW hT hi hc hg
  · rw [nDL_p hc] at hg ⊢; exact c_X6_readCommand__p hR hW hT hi hc hg
  · rw [nDL_c hc] at hg ⊢; exact c_X6_readCommand__c hR hW hT hi hc hg
  · rw [nDL_u hc] at hg ⊢; exact c_X6_readCommand__u hR hW hT hi hc hg
  · rw [nDL_i hc] at hg ⊢; exact c_X6_readCommand__i hR hW hT hi hc hg
  · rw [nDL_s hc] at hg ⊢; exact c_X6_readCommand__s hR hW hT hi hc hg
theorem c_X6_readCommand__bad {l : Launch} {E : Ev} {hM rf x1 sz x3 x4 x5 ac x7 x8 x9 x10 x11 ou : Nat} {r : Nat} {g : Nat → Int32} {σ : Sg} (hR : RepM σ g) (hW : Wf σ) {tx : Nat → Int32} {sg : Nat → Nat} (hT : TxR sg sz tx) {i : Nat} (hi : i < sz) (hl : isC (sg i)) (hf : fk sg sz i < nD (sg i)) : Ct l E yX6_readCommand cX6_readCommand 6 (some FieldType.boolean) 4 94 [.ref hM, .ref r] [(hM, .inr (6, [.int (nI rf), .ref x1, .int (nI sz), .ref x3, .ref x4, .ref x5, .int (nI ac), .ref x7, .ref x8, .ref x9, .ref x10, .ref x11, .int (nI i), .int (nI ou)])), (x1, .inl (eI E, 120, .inl tx)), (r, .inl (eI E, 255, .inl g))] (fun v9 w9 => v9 = some (.int (nI 0)) ∧ w9 = [(hM, .inr (6, [.int (nI rf), .ref x1, .int (nI sz), .ref x3, .ref x4, .ref x5, .int (nI ac), .ref x7, .ref x8, .ref x9, .ref x10, .ref x11, .int (nI (i + 1 + fk sg sz i)), .int (nI ou)])), (x1, .inl (eI E, 120, .inl tx)), (r, .inl (eI E, 255, .inl g))]) := by
  have hb := fk_bad hf
  have hg : ∀ j, j < fk sg sz i → gd sg sz i j := fun j hj => fk_gd hj
  generalize fk sg sz i = k at *
  rcases hl with hc | hc | hc | hc | hc | hc
  · rw [nDL_a hc] at hf
    obtain rfl : k = 0 := by omega
    exact c_X6_readCommand__a0 hR hW hT hi hc hg hb
  · rw [nDL_p hc] at hf; exact absurd hf (Nat.not_lt_zero _)
  · rw [nDL_c hc] at hf
    rcases (by omega : k = 0 ∨ k = 1 ∨ k = 2 ∨ k = 3) with rfl | rfl | rfl | rfl
    · exact c_X6_readCommand__c0 hR hW hT hi hc hg hb
    · exact c_X6_readCommand__c1 hR hW hT hi hc hg hb
    · exact c_X6_readCommand__c2 hR hW hT hi hc hg hb
    · exact c_X6_readCommand__c3 hR hW hT hi hc hg hb
  · rw [nDL_u hc] at hf
    rcases (by omega : k = 0 ∨ k = 1) with rfl | rfl
    · exact c_X6_readCommand__u0 hR hW hT hi hc hg hb
    · exact c_X6_readCommand__u1 hR hW hT hi hc hg hb
  · rw [nDL_i hc] at hf
    rcases (by omega : k = 0 ∨ k = 1 ∨ k = 2) with rfl | rfl | rfl
    · exact c_X6_readCommand__i0 hR hW hT hi hc hg hb
    · exact c_X6_readCommand__i1 hR hW hT hi hc hg hb
    · exact c_X6_readCommand__i2 hR hW hT hi hc hg hb
  · rw [nDL_s hc] at hf
    rcases (by omega : k = 0 ∨ k = 1 ∨ k = 2 ∨ k = 3 ∨ k = 4 ∨ k = 5) with rfl | rfl | rfl | rfl | rfl | rfl
    · exact c_X6_readCommand__s0 hR hW hT hi hc hg hb
    · exact c_X6_readCommand__s1 hR hW hT hi hc hg hb
    · exact c_X6_readCommand__s2 hR hW hT hi hc hg hb
    · exact c_X6_readCommand__s3 hR hW hT hi hc hg hb
    · exact c_X6_readCommand__s4 hR hW hT hi hc hg hb
    · exact c_X6_readCommand__s5 hR hW hT hi hc hg hb
