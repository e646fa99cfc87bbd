/-! the law's own body: Ω j is what its end comes from when j calls have been read -/
def Lw (l : Launch) (E : Ev) (b L : Nat) (xs : Nat → Int32) (c0 s0 : Nat) (Ω : Nat → Om) : Prop :=
  (∀ j : Nat, j ≤ 512 → Cw l E cL_law 7 "BillArchiveLaw" 11 394 (c0 + j) (s0 + 6 * j) (Ω j)) ∧
  (∀ (j : Nat) (ws : va_W) (lv : List (Nat × Value)) (st : List Value) (pc : Nat), Ω (j + 1) ws lv st pc → Ω j ws lv st pc) ∧
  (∀ (j k : Nat) (ws : va_W) (lv : List (Nat × Value)) (st : List Value) (pc : Nat), k < L → decode cL_law pc = .ok (.iaload, 1) → Ω j ws lv (.int (xs k) :: st) (pc + 1) → Ω j ws lv (.int (nI k) :: .ref b :: st) pc) ∧
  (∀ (j : Nat) (ws : va_W) (lv : List (Nat × Value)) (st : List Value) (pc : Nat), decode cL_law pc = .ok (.arraylength, 1) → Ω j ws lv (.int (nI L) :: st) (pc + 1) → Ω j ws lv (.ref b :: st) pc) ∧
  (∀ (j : Nat) (ws : va_W) (lv : List (Nat × Value)) (st rest As : List Value) (pc index maxL fr' lo' : Nat) (y : MethodName) (bytes : ByteArray) (ret : Option FieldType) (hh : List (Nat × Nat × Nat × Nat)) (wc : va_W) (is : List Nat) (post : Option Value → va_W → Prop), j < 512 → CtX l E y bytes maxL ret hh fr' lo' As wc post → LkW y bytes maxL ret hh As.length → Cond.methodLink "BillArchiveLaw" index y ∈ Tw → decode cL_law pc = .ok (.invokestatic index, 3) → st = As.reverse ++ rest → is.map (fun i => ws[i]?) = wc.map some → va_nd is = true → (fr' + 1 ≤ 11 ∧ 8 + (maxL + 11) + lo' ≤ 394) → (rest.map fun v => v.category).sum ≤ 8 → (∀ (v : Option Value) (w : va_W), post v w → Ω (j + 1) (mrg ws is w) lv (v.toList ++ rest) (pc + 3)) → Ω j ws lv st pc) ∧
  (∀ (j : Nat) (ws : va_W) (lv : List (Nat × Value)) (pc : Nat), j ≤ 512 → decode cL_law pc = .ok (.ireturn, 1) → Ω j ws lv [.int (nI 1)] pc)
/-- the locals at the head of the loop -/
abbrev lv0 (b hB hM o i : Nat) : List (Nat × Value) := [(0, .ref b), (1, .ref hB), (2, .ref hM), (3, .ref o), (4, .int (nI i))]
/-- the cell of the reference with its refusal -/
def isM (hM k : Nat) (q : Nat × va_E) : Prop := ∃ x1 sz x3 x4 x5 ac x7 x8 x9 x10 x11 sp ou : Nat, q = (hM, .inr (6, [.int (nI k), .ref x1, .int (nI sz), .ref x3, .ref x4, .ref x5, .int (nI ac), .ref x7, .ref x8, .ref x9, .ref x10, .ref x11, .int (nI sp), .int (nI ou)]))
/-- what the world is behind both calls: the refusal is the class's, and where there is none the answers are one -/
def Both (E : Ev) (hM o k : Nat) (pm po : Nat) (r2 : Int32) (W2 : va_W) : Prop := (∃ q, W2[pm]? = some q ∧ isM hM k q) ∧ (k = 0 → ∃ g2 : Nat → Int64, W2[po]? = some (o, .inl (eJ E, 1, .inr (.inl g2))) ∧ g2 0 = r2.toInt64)
-- cases
set_option maxRecDepth 100000 in
theorem lc_append {l : Launch} {E : Ev} {b L : Nat} {xs : Nat → Int32} {c0 s0 : Nat} {Ω : Nat → Om} (hL : Lw l E b L xs c0 s0 Ω) {j i : Nat} (hj : j < 512) (hi : i + 5 ≤ L) (hL2 : L ≤ 2560) {hB hM o : Nat} {W : va_W} {v1 : Int32} (hv1 : (xs (i + 1)) = v1) {pm po : Nat} {wc1 : va_W} {is1 : List Nat} {post1 : Option Value → va_W → Prop} (hx : CtX l E yL_append method_3_code 4 (some FieldType.int) [(0, 9, 12, 13), (0, 9, 15, 15)] 7 111 [.ref hB, .int v1, .ref o] wc1 post1) (hC1 : is1.map (fun i => W[i]?) = wc1.map some) (hn1 : va_nd is1 = true)
    (hf : ∀ (v : Option Value) (w : va_W), post1 v w → ∃ (W1 : va_W) (k : Nat) (wm : va_W) (fs : List Value) (post2 : Option Value → va_W → Prop) (is2 : List Nat), mrg W is1 w = W1 ∧ k < 4 ∧ v = some (.int (nI k)) ∧ Ct l E yX6_append cX6_append 2 (some FieldType.int) 1 25 [.ref hM, .int v1] wm post2 ∧ wm[0]? = some (hM, .inr (6, fs)) ∧ is2.map (fun i => W1[i]?) = wm.map some ∧ va_nd is2 = true ∧ ∀ (v2 : Option Value) (w2 : va_W), post2 v2 w2 → ∃ (W2 : va_W) (r2 : Int32), mrg W1 is2 w2 = W2 ∧ v2 = some (.int r2) ∧ Both E hM o k pm po r2 W2 ∧ Ω (j + 1) W2 (lv0 b hB hM o i) [] 2187) : Ω j W (lv0 b hB hM o i) [] 180 := by
  subst hv1
  have C := hL.1 j (by omega)
  have C9 := hL.1 (j + 1) (by omega)
  refine r_aload_n C (i := 1) 1 dL_law_180 rfl rfl ?_
  refine r_aload_n C (i := 0) 0 dL_law_181 rfl rfl ?_
  refine r_iload C (i := 4) 4 dL_law_182 rfl ?_
  refine r_iconst C dL_law_184 ki_1 ?_
  refine r_iadd (v := nI (i + 1)) C dL_law_185 (nI_add _ _) ?_
  refine hL.2.2.1 _ _ _ _ _ _ (by omega) dL_law_186 ?_
  refine r_aload_n C (i := 3) 3 dL_law_187 rfl rfl ?_
  refine hL.2.2.2.2.1 j _ _ _ [] _ _ _ _ _ _ _ _ _ _ _ _ _ hj hx lk_L_append w_2_150 dL_law_188 rfl hC1 hn1 ⟨by decide, by decide⟩ (Nat.le_of_ble_eq_true rfl) (fun v w hp => ?_)
  obtain ⟨W1, k, wm, fs, post2, is2, rfl, hk4, rfl, hm, hr, hC2, hn2, hf2⟩ := hf v w hp
  show Ω (j + 1) _ [(0, .ref b), (1, .ref hB), (2, .ref hM), (3, .ref o), (4, .int (nI i))] [.int (nI k)] 191
  refine r_istore C9 (lv' := [(5, .int (nI k)), (0, .ref b), (1, .ref hB), (2, .ref hM), (3, .ref o), (4, .int (nI i))]) dL_law_191 (by decide) rfl ?_
  refine r_aload_n C9 (i := 2) 3 dL_law_193 rfl rfl ?_
  refine r_aload_n C9 (i := 0) 1 dL_law_194 rfl rfl ?_
  refine r_iload C9 (i := 4) 5 dL_law_195 rfl ?_
  refine r_iconst C9 dL_law_197 ki_1 ?_
  refine r_iadd (v := nI (i + 1)) C9 dL_law_198 (nI_add _ _) ?_
  refine hL.2.2.1 _ _ _ _ _ _ (by omega) dL_law_199 ?_
  refine r_callV (rest := []) C9 hm lk_X6_append w_5_108 is2 (ci := 6) rfl dL_law_200 rfl hC2 hn2 hr ⟨by decide, by decide⟩ (Nat.le_of_ble_eq_true rfl) (fun v2 w2 hp2 => ?_)
  obtain ⟨W2, r2, rfl, rfl, ⟨⟨qm, hpm, hqm⟩, hout⟩, hgo⟩ := hf2 v2 w2 hp2
  obtain ⟨x1, sz, x3, x4, x5, ac, x7, x8, x9, x10, x11, sp, ou, rfl⟩ := hqm
  show Ω (j + 1) _ [(5, .int (nI k)), (0, .ref b), (1, .ref hB), (2, .ref hM), (3, .ref o), (4, .int (nI i))] [.int r2] 203
  refine r_istore C9 (lv' := [(6, .int r2), (5, .int (nI k)), (0, .ref b), (1, .ref hB), (2, .ref hM), (3, .ref o), (4, .int (nI i))]) dL_law_203 (by decide) rfl ?_
  refine r_aload_n C9 (i := 2) 4 dL_law_205 rfl rfl ?_
  refine r_readV (rest := []) C9 (c_X6_thrown (hM := hM) (rf := k) (x1 := x1) (sz := sz) (x3 := x3) (x4 := x4) (x5 := x5) (ac := ac) (x7 := x7) (x8 := x8) (x9 := x9) (x10 := x10) (x11 := x11) (sp := sp) (ou := ou)) lk_X6_thrown w_5_104 [pm] (ci := 6) rfl dL_law_206 rfl (by rw [List.map_cons, hpm]; rfl) rfl rfl ⟨by decide, by decide⟩ (Nat.le_of_ble_eq_true rfl) (st' := [.int (nI k)]) rfl ?_
  refine r_iload C9 (i := 5) 1 dL_law_209 rfl ?_
  refine r_icmp_eqT C9 216 dL_law_211 (by decide) rfl ?_
  refine r_iload C9 (i := 5) 1 dL_law_216 rfl ?_
  by_cases hk : k = 0
  · subst hk
    obtain ⟨g2, hpo, hg2⟩ := hout rfl
    refine r_if_neF C9 (y := 0) (tgt := 233) dL_law_218 (by decide) (fun z => z rfl) ?_
    refine r_aload_n C9 (i := 3) 5 dL_law_221 rfl rfl ?_
    refine r_iconst C9 dL_law_222 ki_0 ?_
    refine r_lald (v := r2.toInt64) C9 po hpo (by decide) (by decide) hg2 dL_law_223 ?_
    refine r_iload C9 (i := 6) 0 dL_law_224 rfl ?_
    refine r_i2l (v := (r2).toInt64) C9 dL_law_226 rfl ?_
    refine r_lcmp C9 dL_law_227 rfl ?_
    refine r_if_eqT C9 (y := 0) 233 dL_law_228 (by decide) ((lg_cmp_eq _ _).mpr rfl) ?_
    refine r_goto C9 2187 dL_law_233 (by decide) ?_
    exact r_lv (lv' := (lv0 b hB hM o i)) C9 [2, 3, 4, 5, 6] rfl hgo
  · refine r_if_neT C9 (y := 0) 233 dL_law_218 (by decide) ((z_neN (by omega)).mpr hk) ?_
    refine r_goto C9 2187 dL_law_233 (by decide) ?_
    exact r_lv (lv' := (lv0 b hB hM o i)) C9 [2, 3, 4, 5, 6] rfl hgo
set_option maxRecDepth 100000 in
theorem lc_clearText {l : Launch} {E : Ev} {b L : Nat} {xs : Nat → Int32} {c0 s0 : Nat} {Ω : Nat → Om} (hL : Lw l E b L xs c0 s0 Ω) {j i : Nat} (hj : j < 512) (hi : i + 5 ≤ L) (hL2 : L ≤ 2560) {hB hM o : Nat} {W : va_W} {wc1 : va_W} {is1 : List Nat} {fs5 : List Value} {post1 : Option Value → va_W → Prop} (hx : Ct l E yX5_clearText cX5_clearText 2 (some FieldType.int) 1 20 [.ref hB] wc1 post1) (hr5 : wc1[0]? = some (hB, .inr (5, fs5))) (hC1 : is1.map (fun i => W[i]?) = wc1.map some) (hn1 : va_nd is1 = true)
    (hf : ∀ (v : Option Value) (w : va_W), post1 v w → ∃ (W1 : va_W) (r : Int32) (wm : va_W) (fs : List Value) (post2 : Option Value → va_W → Prop) (is2 : List Nat), mrg W is1 w = W1 ∧ v = some (.int r) ∧ Ct l E yX6_clearText cX6_clearText 2 (some FieldType.int) 0 0 [.ref hM] wm post2 ∧ wm[0]? = some (hM, .inr (6, fs)) ∧ is2.map (fun i => W1[i]?) = wm.map some ∧ va_nd is2 = true ∧ ∀ (v2 : Option Value) (w2 : va_W), post2 v2 w2 → ∃ W2 : va_W, mrg W1 is2 w2 = W2 ∧ v2 = some (.int r) ∧ Ω (j + 1) W2 (lv0 b hB hM o i) [] 2187) : Ω j W (lv0 b hB hM o i) [] 236 := by
  have C := hL.1 j (by omega)
  refine r_aload_n C (i := 1) 1 dL_law_236 rfl rfl ?_
  refine r_callV (rest := []) C hx lk_X5_clearText w_1_160 is1 (ci := 5) rfl dL_law_237 rfl hC1 hn1 hr5 ⟨by decide, by decide⟩ (Nat.le_of_ble_eq_true rfl) (fun v w hp => ?_)
  obtain ⟨W1, r, wm, fs, post2, is2, rfl, rfl, hm, hr, hC2, hn2, hf2⟩ := hf v w hp
  show Ω j _ [(0, .ref b), (1, .ref hB), (2, .ref hM), (3, .ref o), (4, .int (nI i))] [.int r] 240
  refine r_aload_n C (i := 2) 2 dL_law_240 rfl rfl ?_
  refine r_callV (rest := [.int r]) C hm lk_X6_clearText w_5_120 is2 (ci := 6) rfl dL_law_241 rfl hC2 hn2 hr ⟨by decide, by decide⟩ (Nat.le_of_ble_eq_true rfl) (fun v2 w2 hp2 => ?_)
  obtain ⟨W2, rfl, rfl, hgo⟩ := hf2 v2 w2 hp2
  show Ω j _ [(0, .ref b), (1, .ref hB), (2, .ref hM), (3, .ref o), (4, .int (nI i))] [.int r, .int r] 244
  refine r_icmp_eqT C 2187 dL_law_244 (by decide) rfl ?_
  exact hL.2.1 _ _ _ _ _ hgo
set_option maxRecDepth 100000 in
theorem lc_errorPosition {l : Launch} {E : Ev} {b L : Nat} {xs : Nat → Int32} {c0 s0 : Nat} {Ω : Nat → Om} (hL : Lw l E b L xs c0 s0 Ω) {j i : Nat} (hj : j < 512) (hi : i + 5 ≤ L) (hL2 : L ≤ 2560) {hB hM o : Nat} {W : va_W} {wc1 : va_W} {is1 : List Nat} {fs5 : List Value} {post1 : Option Value → va_W → Prop} (hx : Ct l E yX5_errorPosition cX5_errorPosition 1 (some FieldType.int) 7 152 [.ref hB] wc1 post1) (hr5 : wc1[0]? = some (hB, .inr (5, fs5))) (hC1 : is1.map (fun i => W[i]?) = wc1.map some) (hn1 : va_nd is1 = true)
    (hf : ∀ (v : Option Value) (w : va_W), post1 v w → ∃ (W1 : va_W) (r : Int32) (wm : va_W) (fs : List Value) (post2 : Option Value → va_W → Prop) (is2 : List Nat), mrg W is1 w = W1 ∧ v = some (.int r) ∧ Ct l E yX6_errorPosition cX6_errorPosition 1 (some FieldType.int) 6 140 [.ref hM] wm post2 ∧ wm[0]? = some (hM, .inr (6, fs)) ∧ is2.map (fun i => W1[i]?) = wm.map some ∧ va_nd is2 = true ∧ ∀ (v2 : Option Value) (w2 : va_W), post2 v2 w2 → ∃ W2 : va_W, mrg W1 is2 w2 = W2 ∧ v2 = some (.int r) ∧ Ω (j + 1) W2 (lv0 b hB hM o i) [] 2187) : Ω j W (lv0 b hB hM o i) [] 249 := by
  have C := hL.1 j (by omega)
  refine r_aload_n C (i := 1) 1 dL_law_249 rfl rfl ?_
  refine r_callV (rest := []) C hx lk_X5_errorPosition w_1_172 is1 (ci := 5) rfl dL_law_250 rfl hC1 hn1 hr5 ⟨by decide, by decide⟩ (Nat.le_of_ble_eq_true rfl) (fun v w hp => ?_)
  obtain ⟨W1, r, wm, fs, post2, is2, rfl, rfl, hm, hr, hC2, hn2, hf2⟩ := hf v w hp
  show Ω j _ [(0, .ref b), (1, .ref hB), (2, .ref hM), (3, .ref o), (4, .int (nI i))] [.int r] 253
  refine r_aload_n C (i := 2) 2 dL_law_253 rfl rfl ?_
  refine r_callV (rest := [.int r]) C hm lk_X6_errorPosition w_5_124 is2 (ci := 6) rfl dL_law_254 rfl hC2 hn2 hr ⟨by decide, by decide⟩ (Nat.le_of_ble_eq_true rfl) (fun v2 w2 hp2 => ?_)
  obtain ⟨W2, rfl, rfl, hgo⟩ := hf2 v2 w2 hp2
  show Ω j _ [(0, .ref b), (1, .ref hB), (2, .ref hM), (3, .ref o), (4, .int (nI i))] [.int r, .int r] 257
  refine r_icmp_eqT C 2187 dL_law_257 (by decide) rfl ?_
  exact hL.2.1 _ _ _ _ _ hgo
set_option maxRecDepth 100000 in
theorem lc_load {l : Launch} {E : Ev} {b L : Nat} {xs : Nat → Int32} {c0 s0 : Nat} {Ω : Nat → Om} (hL : Lw l E b L xs c0 s0 Ω) {j i : Nat} (hj : j < 512) (hi : i + 5 ≤ L) (hL2 : L ≤ 2560) {hB hM o : Nat} {W : va_W} {pm po : Nat} {wc1 : va_W} {is1 : List Nat} {post1 : Option Value → va_W → Prop} (hx : CtX l E yL_load method_4_code 3 (some FieldType.int) [(0, 8, 11, 15)] 8 174 [.ref hB, .ref o] wc1 post1) (hC1 : is1.map (fun i => W[i]?) = wc1.map some) (hn1 : va_nd is1 = true)
    (hf : ∀ (v : Option Value) (w : va_W), post1 v w → ∃ (W1 : va_W) (k : Nat) (wm : va_W) (fs : List Value) (post2 : Option Value → va_W → Prop) (is2 : List Nat), mrg W is1 w = W1 ∧ k < 4 ∧ v = some (.int (nI k)) ∧ Ct l E yX6_load cX6_load 1 (some FieldType.int) 6 140 [.ref hM] wm post2 ∧ wm[0]? = some (hM, .inr (6, fs)) ∧ is2.map (fun i => W1[i]?) = wm.map some ∧ va_nd is2 = true ∧ ∀ (v2 : Option Value) (w2 : va_W), post2 v2 w2 → ∃ (W2 : va_W) (r2 : Int32), mrg W1 is2 w2 = W2 ∧ v2 = some (.int r2) ∧ Both E hM o k pm po r2 W2 ∧ Ω (j + 1) W2 (lv0 b hB hM o i) [] 2187) : Ω j W (lv0 b hB hM o i) [] 262 := by
  have C := hL.1 j (by omega)
  have C9 := hL.1 (j + 1) (by omega)
  refine r_aload_n C (i := 1) 1 dL_law_262 rfl rfl ?_
  refine r_aload_n C (i := 3) 3 dL_law_263 rfl rfl ?_
  refine hL.2.2.2.2.1 j _ _ _ [] _ _ _ _ _ _ _ _ _ _ _ _ _ hj hx lk_L_load w_3_10 dL_law_264 rfl hC1 hn1 ⟨by decide, by decide⟩ (Nat.le_of_ble_eq_true rfl) (fun v w hp => ?_)
  obtain ⟨W1, k, wm, fs, post2, is2, rfl, hk4, rfl, hm, hr, hC2, hn2, hf2⟩ := hf v w hp
  show Ω (j + 1) _ [(0, .ref b), (1, .ref hB), (2, .ref hM), (3, .ref o), (4, .int (nI i))] [.int (nI k)] 267
  refine r_istore C9 (lv' := [(5, .int (nI k)), (0, .ref b), (1, .ref hB), (2, .ref hM), (3, .ref o), (4, .int (nI i))]) dL_law_267 (by decide) rfl ?_
  refine r_aload_n C9 (i := 2) 3 dL_law_269 rfl rfl ?_
  refine r_callV (rest := []) C9 hm lk_X6_load w_5_192 is2 (ci := 6) rfl dL_law_270 rfl hC2 hn2 hr ⟨by decide, by decide⟩ (Nat.le_of_ble_eq_true rfl) (fun v2 w2 hp2 => ?_)
  obtain ⟨W2, r2, rfl, rfl, ⟨⟨qm, hpm, hqm⟩, hout⟩, hgo⟩ := hf2 v2 w2 hp2
  obtain ⟨x1, sz, x3, x4, x5, ac, x7, x8, x9, x10, x11, sp, ou, rfl⟩ := hqm
  show Ω (j + 1) _ [(5, .int (nI k)), (0, .ref b), (1, .ref hB), (2, .ref hM), (3, .ref o), (4, .int (nI i))] [.int r2] 273
  refine r_istore C9 (lv' := [(6, .int r2), (5, .int (nI k)), (0, .ref b), (1, .ref hB), (2, .ref hM), (3, .ref o), (4, .int (nI i))]) dL_law_273 (by decide) rfl ?_
  refine r_aload_n C9 (i := 2) 4 dL_law_275 rfl rfl ?_
  refine r_readV (rest := []) C9 (c_X6_thrown (hM := hM) (rf := k) (x1 := x1) (sz := sz) (x3 := x3) (x4 := x4) (x5 := x5) (ac := ac) (x7 := x7) (x8 := x8) (x9 := x9) (x10 := x10) (x11 := x11) (sp := sp) (ou := ou)) lk_X6_thrown w_5_104 [pm] (ci := 6) rfl dL_law_276 rfl (by rw [List.map_cons, hpm]; rfl) rfl rfl ⟨by decide, by decide⟩ (Nat.le_of_ble_eq_true rfl) (st' := [.int (nI k)]) rfl ?_
  refine r_iload C9 (i := 5) 1 dL_law_279 rfl ?_
  refine r_icmp_eqT C9 286 dL_law_281 (by decide) rfl ?_
  refine r_iload C9 (i := 5) 1 dL_law_286 rfl ?_
  by_cases hk : k = 0
  · subst hk
    obtain ⟨g2, hpo, hg2⟩ := hout rfl
    refine r_if_neF C9 (y := 0) (tgt := 303) dL_law_288 (by decide) (fun z => z rfl) ?_
    refine r_aload_n C9 (i := 3) 5 dL_law_291 rfl rfl ?_
    refine r_iconst C9 dL_law_292 ki_0 ?_
    refine r_lald (v := r2.toInt64) C9 po hpo (by decide) (by decide) hg2 dL_law_293 ?_
    refine r_iload C9 (i := 6) 0 dL_law_294 rfl ?_
    refine r_i2l (v := (r2).toInt64) C9 dL_law_296 rfl ?_
    refine r_lcmp C9 dL_law_297 rfl ?_
    refine r_if_eqT C9 (y := 0) 303 dL_law_298 (by decide) ((lg_cmp_eq _ _).mpr rfl) ?_
    refine r_goto C9 2187 dL_law_303 (by decide) ?_
    exact r_lv (lv' := (lv0 b hB hM o i)) C9 [2, 3, 4, 5, 6] rfl hgo
  · refine r_if_neT C9 (y := 0) 303 dL_law_288 (by decide) ((z_neN (by omega)).mpr hk) ?_
    refine r_goto C9 2187 dL_law_303 (by decide) ?_
    exact r_lv (lv' := (lv0 b hB hM o i)) C9 [2, 3, 4, 5, 6] rfl hgo
set_option maxRecDepth 100000 in
theorem lc_about {l : Launch} {E : Ev} {b L : Nat} {xs : Nat → Int32} {c0 s0 : Nat} {Ω : Nat → Om} (hL : Lw l E b L xs c0 s0 Ω) {j i : Nat} (hj : j < 512) (hi : i + 5 ≤ L) (hL2 : L ≤ 2560) {hB hM o : Nat} {W : va_W} {v1 : Int32} (hv1 : (xs (i + 1)) = v1) {pm po : Nat} {wc1 : va_W} {is1 : List Nat} {post1 : Option Value → va_W → Prop} (hx : CtX l E yL_about method_5_code 4 (some FieldType.int) [(0, 9, 12, 13)] 7 138 [.ref hB, .int v1, .ref o] wc1 post1) (hC1 : is1.map (fun i => W[i]?) = wc1.map some) (hn1 : va_nd is1 = true)
    (hf : ∀ (v : Option Value) (w : va_W), post1 v w → ∃ (W1 : va_W) (k : Nat) (wm : va_W) (fs : List Value) (post2 : Option Value → va_W → Prop) (is2 : List Nat), mrg W is1 w = W1 ∧ k < 4 ∧ v = some (.int (nI k)) ∧ Ct l E yX6_about cX6_about 4 (some FieldType.int) 6 150 [.ref hM, .int v1] wm post2 ∧ wm[0]? = some (hM, .inr (6, fs)) ∧ is2.map (fun i => W1[i]?) = wm.map some ∧ va_nd is2 = true ∧ ∀ (v2 : Option Value) (w2 : va_W), post2 v2 w2 → ∃ (W2 : va_W) (r2 : Int32), mrg W1 is2 w2 = W2 ∧ v2 = some (.int r2) ∧ Both E hM o k pm po r2 W2 ∧ Ω (j + 1) W2 (lv0 b hB hM o i) [] 2187) : Ω j W (lv0 b hB hM o i) [] 306 := by
  subst hv1
  have C := hL.1 j (by omega)
  have C9 := hL.1 (j + 1) (by omega)
  refine r_aload_n C (i := 1) 1 dL_law_306 rfl rfl ?_
  refine r_aload_n C (i := 0) 0 dL_law_307 rfl rfl ?_
  refine r_iload C (i := 4) 4 dL_law_308 rfl ?_
  refine r_iconst C dL_law_310 ki_1 ?_
  refine r_iadd (v := nI (i + 1)) C dL_law_311 (nI_add _ _) ?_
  refine hL.2.2.1 _ _ _ _ _ _ (by omega) dL_law_312 ?_
  refine r_aload_n C (i := 3) 3 dL_law_313 rfl rfl ?_
  refine hL.2.2.2.2.1 j _ _ _ [] _ _ _ _ _ _ _ _ _ _ _ _ _ hj hx lk_L_about w_3_90 dL_law_314 rfl hC1 hn1 ⟨by decide, by decide⟩ (Nat.le_of_ble_eq_true rfl) (fun v w hp => ?_)
  obtain ⟨W1, k, wm, fs, post2, is2, rfl, hk4, rfl, hm, hr, hC2, hn2, hf2⟩ := hf v w hp
  show Ω (j + 1) _ [(0, .ref b), (1, .ref hB), (2, .ref hM), (3, .ref o), (4, .int (nI i))] [.int (nI k)] 317
  refine r_istore C9 (lv' := [(5, .int (nI k)), (0, .ref b), (1, .ref hB), (2, .ref hM), (3, .ref o), (4, .int (nI i))]) dL_law_317 (by decide) rfl ?_
  refine r_aload_n C9 (i := 2) 3 dL_law_319 rfl rfl ?_
  refine r_aload_n C9 (i := 0) 1 dL_law_320 rfl rfl ?_
  refine r_iload C9 (i := 4) 5 dL_law_321 rfl ?_
  refine r_iconst C9 dL_law_323 ki_1 ?_
  refine r_iadd (v := nI (i + 1)) C9 dL_law_324 (nI_add _ _) ?_
  refine hL.2.2.1 _ _ _ _ _ _ (by omega) dL_law_325 ?_
  refine r_callV (rest := []) C9 hm lk_X6_about w_5_199 is2 (ci := 6) rfl dL_law_326 rfl hC2 hn2 hr ⟨by decide, by decide⟩ (Nat.le_of_ble_eq_true rfl) (fun v2 w2 hp2 => ?_)
  obtain ⟨W2, r2, rfl, rfl, ⟨⟨qm, hpm, hqm⟩, hout⟩, hgo⟩ := hf2 v2 w2 hp2
  obtain ⟨x1, sz, x3, x4, x5, ac, x7, x8, x9, x10, x11, sp, ou, rfl⟩ := hqm
  show Ω (j + 1) _ [(5, .int (nI k)), (0, .ref b), (1, .ref hB), (2, .ref hM), (3, .ref o), (4, .int (nI i))] [.int r2] 329
  refine r_istore C9 (lv' := [(6, .int r2), (5, .int (nI k)), (0, .ref b), (1, .ref hB), (2, .ref hM), (3, .ref o), (4, .int (nI i))]) dL_law_329 (by decide) rfl ?_
  refine r_aload_n C9 (i := 2) 4 dL_law_331 rfl rfl ?_
  refine r_readV (rest := []) C9 (c_X6_thrown (hM := hM) (rf := k) (x1 := x1) (sz := sz) (x3 := x3) (x4 := x4) (x5 := x5) (ac := ac) (x7 := x7) (x8 := x8) (x9 := x9) (x10 := x10) (x11 := x11) (sp := sp) (ou := ou)) lk_X6_thrown w_5_104 [pm] (ci := 6) rfl dL_law_332 rfl (by rw [List.map_cons, hpm]; rfl) rfl rfl ⟨by decide, by decide⟩ (Nat.le_of_ble_eq_true rfl) (st' := [.int (nI k)]) rfl ?_
  refine r_iload C9 (i := 5) 1 dL_law_335 rfl ?_
  refine r_icmp_eqT C9 342 dL_law_337 (by decide) rfl ?_
  refine r_iload C9 (i := 5) 1 dL_law_342 rfl ?_
  by_cases hk : k = 0
  · subst hk
    obtain ⟨g2, hpo, hg2⟩ := hout rfl
    refine r_if_neF C9 (y := 0) (tgt := 359) dL_law_344 (by decide) (fun z => z rfl) ?_
    refine r_aload_n C9 (i := 3) 5 dL_law_347 rfl rfl ?_
    refine r_iconst C9 dL_law_348 ki_0 ?_
    refine r_lald (v := r2.toInt64) C9 po hpo (by decide) (by decide) hg2 dL_law_349 ?_
    refine r_iload C9 (i := 6) 0 dL_law_350 rfl ?_
    refine r_i2l (v := (r2).toInt64) C9 dL_law_352 rfl ?_
    refine r_lcmp C9 dL_law_353 rfl ?_
    refine r_if_eqT C9 (y := 0) 359 dL_law_354 (by decide) ((lg_cmp_eq _ _).mpr rfl) ?_
    refine r_goto C9 2187 dL_law_359 (by decide) ?_
    exact r_lv (lv' := (lv0 b hB hM o i)) C9 [2, 3, 4, 5, 6] rfl hgo
  · refine r_if_neT C9 (y := 0) 359 dL_law_344 (by decide) ((z_neN (by omega)).mpr hk) ?_
    refine r_goto C9 2187 dL_law_359 (by decide) ?_
    exact r_lv (lv' := (lv0 b hB hM o i)) C9 [2, 3, 4, 5, 6] rfl hgo
set_option maxRecDepth 100000 in
theorem lc_played {l : Launch} {E : Ev} {b L : Nat} {xs : Nat → Int32} {c0 s0 : Nat} {Ω : Nat → Om} (hL : Lw l E b L xs c0 s0 Ω) {j i : Nat} (hj : j < 512) (hi : i + 5 ≤ L) (hL2 : L ≤ 2560) {hB hM o : Nat} {W : va_W} {v1 : Int32} (hv1 : (xs (i + 1)) = v1) {v2 : Int32} (hv2 : (xs (i + 2)) = v2) {pm po : Nat} {wc1 : va_W} {is1 : List Nat} {post1 : Option Value → va_W → Prop} (hx : CtX l E yL_played method_6_code 5 (some FieldType.int) [(0, 10, 13, 28)] 8 133 [.ref hB, .int v1, .int v2, .ref o] wc1 post1) (hC1 : is1.map (fun i => W[i]?) = wc1.map some) (hn1 : va_nd is1 = true)
    (hf : ∀ (v : Option Value) (w : va_W), post1 v w → ∃ (W1 : va_W) (k : Nat) (wm : va_W) (fs : List Value) (post2 : Option Value → va_W → Prop) (is2 : List Nat), mrg W is1 w = W1 ∧ k < 4 ∧ v = some (.int (nI k)) ∧ Ct l E yX6_played cX6_played 3 (some FieldType.int) 4 99 [.ref hM, .int v1, .int v2] wm post2 ∧ wm[0]? = some (hM, .inr (6, fs)) ∧ is2.map (fun i => W1[i]?) = wm.map some ∧ va_nd is2 = true ∧ ∀ (v2 : Option Value) (w2 : va_W), post2 v2 w2 → ∃ (W2 : va_W) (r2 : Int32), mrg W1 is2 w2 = W2 ∧ v2 = some (.int r2) ∧ Both E hM o k pm po r2 W2 ∧ Ω (j + 1) W2 (lv0 b hB hM o i) [] 2187) : Ω j W (lv0 b hB hM o i) [] 362 := by
  subst hv1 hv2
  have C := hL.1 j (by omega)
  have C9 := hL.1 (j + 1) (by omega)
  refine r_aload_n C (i := 1) 1 dL_law_362 rfl rfl ?_
  refine r_aload_n C (i := 0) 0 dL_law_363 rfl rfl ?_
  refine r_iload C (i := 4) 4 dL_law_364 rfl ?_
  refine r_iconst C dL_law_366 ki_1 ?_
  refine r_iadd (v := nI (i + 1)) C dL_law_367 (nI_add _ _) ?_
  refine hL.2.2.1 _ _ _ _ _ _ (by omega) dL_law_368 ?_
  refine r_aload_n C (i := 0) 0 dL_law_369 rfl rfl ?_
  refine r_iload C (i := 4) 4 dL_law_370 rfl ?_
  refine r_iconst C dL_law_372 ki_2 ?_
  refine r_iadd (v := nI (i + 2)) C dL_law_373 (nI_add _ _) ?_
  refine hL.2.2.1 _ _ _ _ _ _ (by omega) dL_law_374 ?_
  refine r_aload_n C (i := 3) 3 dL_law_375 rfl rfl ?_
  refine hL.2.2.2.2.1 j _ _ _ [] _ _ _ _ _ _ _ _ _ _ _ _ _ hj hx lk_L_played w_3_141 dL_law_376 rfl hC1 hn1 ⟨by decide, by decide⟩ (Nat.le_of_ble_eq_true rfl) (fun v w hp => ?_)
  obtain ⟨W1, k, wm, fs, post2, is2, rfl, hk4, rfl, hm, hr, hC2, hn2, hf2⟩ := hf v w hp
  show Ω (j + 1) _ [(0, .ref b), (1, .ref hB), (2, .ref hM), (3, .ref o), (4, .int (nI i))] [.int (nI k)] 379
  refine r_istore C9 (lv' := [(5, .int (nI k)), (0, .ref b), (1, .ref hB), (2, .ref hM), (3, .ref o), (4, .int (nI i))]) dL_law_379 (by decide) rfl ?_
  refine r_aload_n C9 (i := 2) 3 dL_law_381 rfl rfl ?_
  refine r_aload_n C9 (i := 0) 1 dL_law_382 rfl rfl ?_
  refine r_iload C9 (i := 4) 5 dL_law_383 rfl ?_
  refine r_iconst C9 dL_law_385 ki_1 ?_
  refine r_iadd (v := nI (i + 1)) C9 dL_law_386 (nI_add _ _) ?_
  refine hL.2.2.1 _ _ _ _ _ _ (by omega) dL_law_387 ?_
  refine r_aload_n C9 (i := 0) 1 dL_law_388 rfl rfl ?_
  refine r_iload C9 (i := 4) 5 dL_law_389 rfl ?_
  refine r_iconst C9 dL_law_391 ki_2 ?_
  refine r_iadd (v := nI (i + 2)) C9 dL_law_392 (nI_add _ _) ?_
  refine hL.2.2.1 _ _ _ _ _ _ (by omega) dL_law_393 ?_
  refine r_callV (rest := []) C9 hm lk_X6_played w_6_12 is2 (ci := 6) rfl dL_law_394 rfl hC2 hn2 hr ⟨by decide, by decide⟩ (Nat.le_of_ble_eq_true rfl) (fun v2 w2 hp2 => ?_)
  obtain ⟨W2, r2, rfl, rfl, ⟨⟨qm, hpm, hqm⟩, hout⟩, hgo⟩ := hf2 v2 w2 hp2
  obtain ⟨x1, sz, x3, x4, x5, ac, x7, x8, x9, x10, x11, sp, ou, rfl⟩ := hqm
  show Ω (j + 1) _ [(5, .int (nI k)), (0, .ref b), (1, .ref hB), (2, .ref hM), (3, .ref o), (4, .int (nI i))] [.int r2] 397
  refine r_istore C9 (lv' := [(6, .int r2), (5, .int (nI k)), (0, .ref b), (1, .ref hB), (2, .ref hM), (3, .ref o), (4, .int (nI i))]) dL_law_397 (by decide) rfl ?_
  refine r_aload_n C9 (i := 2) 4 dL_law_399 rfl rfl ?_
  refine r_readV (rest := []) C9 (c_X6_thrown (hM := hM) (rf := k) (x1 := x1) (sz := sz) (x3 := x3) (x4 := x4) (x5 := x5) (ac := ac) (x7 := x7) (x8 := x8) (x9 := x9) (x10 := x10) (x11 := x11) (sp := sp) (ou := ou)) lk_X6_thrown w_5_104 [pm] (ci := 6) rfl dL_law_400 rfl (by rw [List.map_cons, hpm]; rfl) rfl rfl ⟨by decide, by decide⟩ (Nat.le_of_ble_eq_true rfl) (st' := [.int (nI k)]) rfl ?_
  refine r_iload C9 (i := 5) 1 dL_law_403 rfl ?_
  refine r_icmp_eqT C9 410 dL_law_405 (by decide) rfl ?_
  refine r_iload C9 (i := 5) 1 dL_law_410 rfl ?_
  by_cases hk : k = 0
  · subst hk
    obtain ⟨g2, hpo, hg2⟩ := hout rfl
    refine r_if_neF C9 (y := 0) (tgt := 427) dL_law_412 (by decide) (fun z => z rfl) ?_
    refine r_aload_n C9 (i := 3) 5 dL_law_415 rfl rfl ?_
    refine r_iconst C9 dL_law_416 ki_0 ?_
    refine r_lald (v := r2.toInt64) C9 po hpo (by decide) (by decide) hg2 dL_law_417 ?_
    refine r_iload C9 (i := 6) 0 dL_law_418 rfl ?_
    refine r_i2l (v := (r2).toInt64) C9 dL_law_420 rfl ?_
    refine r_lcmp C9 dL_law_421 rfl ?_
    refine r_if_eqT C9 (y := 0) 427 dL_law_422 (by decide) ((lg_cmp_eq _ _).mpr rfl) ?_
    refine r_goto C9 2187 dL_law_427 (by decide) ?_
    exact r_lv (lv' := (lv0 b hB hM o i)) C9 [2, 3, 4, 5, 6] rfl hgo
  · refine r_if_neT C9 (y := 0) 427 dL_law_412 (by decide) ((z_neN (by omega)).mpr hk) ?_
    refine r_goto C9 2187 dL_law_427 (by decide) ?_
    exact r_lv (lv' := (lv0 b hB hM o i)) C9 [2, 3, 4, 5, 6] rfl hgo
set_option maxRecDepth 100000 in
theorem lc_bill {l : Launch} {E : Ev} {b L : Nat} {xs : Nat → Int32} {c0 s0 : Nat} {Ω : Nat → Om} (hL : Lw l E b L xs c0 s0 Ω) {j i : Nat} (hj : j < 512) (hi : i + 5 ≤ L) (hL2 : L ≤ 2560) {hB hM o : Nat} {W : va_W} {v1 : Int32} (hv1 : (xs (i + 1)) = v1) {v2 : Int32} (hv2 : (xs (i + 2)) = v2) {v3 : Int32} (hv3 : (xs (i + 3)) = v3) {pm po : Nat} {wc1 : va_W} {is1 : List Nat} {post1 : Option Value → va_W → Prop} (hx : CtX l E yL_bill method_7_code 6 (some FieldType.int) [(0, 12, 15, 28), (0, 12, 19, 13)] 8 134 [.ref hB, .int v1, .int v2, .int v3, .ref o] wc1 post1) (hC1 : is1.map (fun i => W[i]?) = wc1.map some) (hn1 : va_nd is1 = true)
    (hf : ∀ (v : Option Value) (w : va_W), post1 v w → ∃ (W1 : va_W) (k : Nat) (wm : va_W) (fs : List Value) (post2 : Option Value → va_W → Prop) (is2 : List Nat), mrg W is1 w = W1 ∧ k < 4 ∧ v = some (.int (nI k)) ∧ Ct l E yX6_bill cX6_bill 6 (some FieldType.int) 4 99 [.ref hM, .int v1, .int v2, .int v3] wm post2 ∧ wm[0]? = some (hM, .inr (6, fs)) ∧ is2.map (fun i => W1[i]?) = wm.map some ∧ va_nd is2 = true ∧ ∀ (v2 : Option Value) (w2 : va_W), post2 v2 w2 → ∃ (W2 : va_W) (r2 : Int32), mrg W1 is2 w2 = W2 ∧ v2 = some (.int r2) ∧ Both E hM o k pm po r2 W2 ∧ Ω (j + 1) W2 (lv0 b hB hM o i) [] 2187) : Ω j W (lv0 b hB hM o i) [] 430 := by
  subst hv1 hv2 hv3
  have C := hL.1 j (by omega)
  have C9 := hL.1 (j + 1) (by omega)
  refine r_aload_n C (i := 1) 1 dL_law_430 rfl rfl ?_
  refine r_aload_n C (i := 0) 0 dL_law_431 rfl rfl ?_
  refine r_iload C (i := 4) 4 dL_law_432 rfl ?_
  refine r_iconst C dL_law_434 ki_1 ?_
  refine r_iadd (v := nI (i + 1)) C dL_law_435 (nI_add _ _) ?_
  refine hL.2.2.1 _ _ _ _ _ _ (by omega) dL_law_436 ?_
  refine r_aload_n C (i := 0) 0 dL_law_437 rfl rfl ?_
  refine r_iload C (i := 4) 4 dL_law_438 rfl ?_
  refine r_iconst C dL_law_440 ki_2 ?_
  refine r_iadd (v := nI (i + 2)) C dL_law_441 (nI_add _ _) ?_
  refine hL.2.2.1 _ _ _ _ _ _ (by omega) dL_law_442 ?_
  refine r_aload_n C (i := 0) 0 dL_law_443 rfl rfl ?_
  refine r_iload C (i := 4) 4 dL_law_444 rfl ?_
  refine r_iconst C dL_law_446 ki_3 ?_
  refine r_iadd (v := nI (i + 3)) C dL_law_447 (nI_add _ _) ?_
  refine hL.2.2.1 _ _ _ _ _ _ (by omega) dL_law_448 ?_
  refine r_aload_n C (i := 3) 3 dL_law_449 rfl rfl ?_
  refine hL.2.2.2.2.1 j _ _ _ [] _ _ _ _ _ _ _ _ _ _ _ _ _ hj hx lk_L_bill w_3_176 dL_law_450 rfl hC1 hn1 ⟨by decide, by decide⟩ (Nat.le_of_ble_eq_true rfl) (fun v w hp => ?_)
  obtain ⟨W1, k, wm, fs, post2, is2, rfl, hk4, rfl, hm, hr, hC2, hn2, hf2⟩ := hf v w hp
  show Ω (j + 1) _ [(0, .ref b), (1, .ref hB), (2, .ref hM), (3, .ref o), (4, .int (nI i))] [.int (nI k)] 453
  refine r_istore C9 (lv' := [(5, .int (nI k)), (0, .ref b), (1, .ref hB), (2, .ref hM), (3, .ref o), (4, .int (nI i))]) dL_law_453 (by decide) rfl ?_
  refine r_aload_n C9 (i := 2) 3 dL_law_455 rfl rfl ?_
  refine r_aload_n C9 (i := 0) 1 dL_law_456 rfl rfl ?_
  refine r_iload C9 (i := 4) 5 dL_law_457 rfl ?_
  refine r_iconst C9 dL_law_459 ki_1 ?_
  refine r_iadd (v := nI (i + 1)) C9 dL_law_460 (nI_add _ _) ?_
  refine hL.2.2.1 _ _ _ _ _ _ (by omega) dL_law_461 ?_
  refine r_aload_n C9 (i := 0) 1 dL_law_462 rfl rfl ?_
  refine r_iload C9 (i := 4) 5 dL_law_463 rfl ?_
  refine r_iconst C9 dL_law_465 ki_2 ?_
  refine r_iadd (v := nI (i + 2)) C9 dL_law_466 (nI_add _ _) ?_
  refine hL.2.2.1 _ _ _ _ _ _ (by omega) dL_law_467 ?_
  refine r_aload_n C9 (i := 0) 1 dL_law_468 rfl rfl ?_
  refine r_iload C9 (i := 4) 5 dL_law_469 rfl ?_
  refine r_iconst C9 dL_law_471 ki_3 ?_
  refine r_iadd (v := nI (i + 3)) C9 dL_law_472 (nI_add _ _) ?_
  refine hL.2.2.1 _ _ _ _ _ _ (by omega) dL_law_473 ?_
  refine r_callV (rest := []) C9 hm lk_X6_bill w_6_16 is2 (ci := 6) rfl dL_law_474 rfl hC2 hn2 hr ⟨by decide, by decide⟩ (Nat.le_of_ble_eq_true rfl) (fun v2 w2 hp2 => ?_)
  obtain ⟨W2, r2, rfl, rfl, ⟨⟨qm, hpm, hqm⟩, hout⟩, hgo⟩ := hf2 v2 w2 hp2
  obtain ⟨x1, sz, x3, x4, x5, ac, x7, x8, x9, x10, x11, sp, ou, rfl⟩ := hqm
  show Ω (j + 1) _ [(5, .int (nI k)), (0, .ref b), (1, .ref hB), (2, .ref hM), (3, .ref o), (4, .int (nI i))] [.int r2] 477
  refine r_istore C9 (lv' := [(6, .int r2), (5, .int (nI k)), (0, .ref b), (1, .ref hB), (2, .ref hM), (3, .ref o), (4, .int (nI i))]) dL_law_477 (by decide) rfl ?_
  refine r_aload_n C9 (i := 2) 4 dL_law_479 rfl rfl ?_
  refine r_readV (rest := []) C9 (c_X6_thrown (hM := hM) (rf := k) (x1 := x1) (sz := sz) (x3 := x3) (x4 := x4) (x5 := x5) (ac := ac) (x7 := x7) (x8 := x8) (x9 := x9) (x10 := x10) (x11 := x11) (sp := sp) (ou := ou)) lk_X6_thrown w_5_104 [pm] (ci := 6) rfl dL_law_480 rfl (by rw [List.map_cons, hpm]; rfl) rfl rfl ⟨by decide, by decide⟩ (Nat.le_of_ble_eq_true rfl) (st' := [.int (nI k)]) rfl ?_
  refine r_iload C9 (i := 5) 1 dL_law_483 rfl ?_
  refine r_icmp_eqT C9 490 dL_law_485 (by decide) rfl ?_
  refine r_iload C9 (i := 5) 1 dL_law_490 rfl ?_
  by_cases hk : k = 0
  · subst hk
    obtain ⟨g2, hpo, hg2⟩ := hout rfl
    refine r_if_neF C9 (y := 0) (tgt := 507) dL_law_492 (by decide) (fun z => z rfl) ?_
    refine r_aload_n C9 (i := 3) 5 dL_law_495 rfl rfl ?_
    refine r_iconst C9 dL_law_496 ki_0 ?_
    refine r_lald (v := r2.toInt64) C9 po hpo (by decide) (by decide) hg2 dL_law_497 ?_
    refine r_iload C9 (i := 6) 0 dL_law_498 rfl ?_
    refine r_i2l (v := (r2).toInt64) C9 dL_law_500 rfl ?_
    refine r_lcmp C9 dL_law_501 rfl ?_
    refine r_if_eqT C9 (y := 0) 507 dL_law_502 (by decide) ((lg_cmp_eq _ _).mpr rfl) ?_
    refine r_goto C9 2187 dL_law_507 (by decide) ?_
    exact r_lv (lv' := (lv0 b hB hM o i)) C9 [2, 3, 4, 5, 6] rfl hgo
  · refine r_if_neT C9 (y := 0) 507 dL_law_492 (by decide) ((z_neN (by omega)).mpr hk) ?_
    refine r_goto C9 2187 dL_law_507 (by decide) ?_
    exact r_lv (lv' := (lv0 b hB hM o i)) C9 [2, 3, 4, 5, 6] rfl hgo
set_option maxRecDepth 100000 in
theorem lc_night {l : Launch} {E : Ev} {b L : Nat} {xs : Nat → Int32} {c0 s0 : Nat} {Ω : Nat → Om} (hL : Lw l E b L xs c0 s0 Ω) {j i : Nat} (hj : j < 512) (hi : i + 5 ≤ L) (hL2 : L ≤ 2560) {hB hM o : Nat} {W : va_W} {v1 : Int32} (hv1 : (xs (i + 1)) = v1) {v2 : Int32} (hv2 : (xs (i + 2)) = v2) {pm po : Nat} {wc1 : va_W} {is1 : List Nat} {post1 : Option Value → va_W → Prop} (hx : CtX l E yL_night method_8_code 5 (some FieldType.int) [(0, 10, 13, 28), (0, 10, 17, 13)] 8 132 [.ref hB, .int v1, .int v2, .ref o] wc1 post1) (hC1 : is1.map (fun i => W[i]?) = wc1.map some) (hn1 : va_nd is1 = true)
    (hf : ∀ (v : Option Value) (w : va_W), post1 v w → ∃ (W1 : va_W) (k : Nat) (wm : va_W) (fs : List Value) (post2 : Option Value → va_W → Prop) (is2 : List Nat), mrg W is1 w = W1 ∧ k < 4 ∧ v = some (.int (nI k)) ∧ Ct l E yX6_night cX6_night 9 (some FieldType.int) 5 123 [.ref hM, .int v1, .int v2] wm post2 ∧ wm[0]? = some (hM, .inr (6, fs)) ∧ is2.map (fun i => W1[i]?) = wm.map some ∧ va_nd is2 = true ∧ ∀ (v2 : Option Value) (w2 : va_W), post2 v2 w2 → ∃ (W2 : va_W) (r2 : Int32), mrg W1 is2 w2 = W2 ∧ v2 = some (.int r2) ∧ Both E hM o k pm po r2 W2 ∧ Ω (j + 1) W2 (lv0 b hB hM o i) [] 2187) : Ω j W (lv0 b hB hM o i) [] 510 := by
  subst hv1 hv2
  have C := hL.1 j (by omega)
  have C9 := hL.1 (j + 1) (by omega)
  refine r_aload_n C (i := 1) 1 dL_law_510 rfl rfl ?_
  refine r_aload_n C (i := 0) 0 dL_law_511 rfl rfl ?_
  refine r_iload C (i := 4) 4 dL_law_512 rfl ?_
  refine r_iconst C dL_law_514 ki_1 ?_
  refine r_iadd (v := nI (i + 1)) C dL_law_515 (nI_add _ _) ?_
  refine hL.2.2.1 _ _ _ _ _ _ (by omega) dL_law_516 ?_
  refine r_aload_n C (i := 0) 0 dL_law_517 rfl rfl ?_
  refine r_iload C (i := 4) 4 dL_law_518 rfl ?_
  refine r_iconst C dL_law_520 ki_2 ?_
  refine r_iadd (v := nI (i + 2)) C dL_law_521 (nI_add _ _) ?_
  refine hL.2.2.1 _ _ _ _ _ _ (by omega) dL_law_522 ?_
  refine r_aload_n C (i := 3) 3 dL_law_523 rfl rfl ?_
  refine hL.2.2.2.2.1 j _ _ _ [] _ _ _ _ _ _ _ _ _ _ _ _ _ hj hx lk_L_night w_3_195 dL_law_524 rfl hC1 hn1 ⟨by decide, by decide⟩ (Nat.le_of_ble_eq_true rfl) (fun v w hp => ?_)
  obtain ⟨W1, k, wm, fs, post2, is2, rfl, hk4, rfl, hm, hr, hC2, hn2, hf2⟩ := hf v w hp
  show Ω (j + 1) _ [(0, .ref b), (1, .ref hB), (2, .ref hM), (3, .ref o), (4, .int (nI i))] [.int (nI k)] 527
  refine r_istore C9 (lv' := [(5, .int (nI k)), (0, .ref b), (1, .ref hB), (2, .ref hM), (3, .ref o), (4, .int (nI i))]) dL_law_527 (by decide) rfl ?_
  refine r_aload_n C9 (i := 2) 3 dL_law_529 rfl rfl ?_
  refine r_aload_n C9 (i := 0) 1 dL_law_530 rfl rfl ?_
  refine r_iload C9 (i := 4) 5 dL_law_531 rfl ?_
  refine r_iconst C9 dL_law_533 ki_1 ?_
  refine r_iadd (v := nI (i + 1)) C9 dL_law_534 (nI_add _ _) ?_
  refine hL.2.2.1 _ _ _ _ _ _ (by omega) dL_law_535 ?_
  refine r_aload_n C9 (i := 0) 1 dL_law_536 rfl rfl ?_
  refine r_iload C9 (i := 4) 5 dL_law_537 rfl ?_
  refine r_iconst C9 dL_law_539 ki_2 ?_
  refine r_iadd (v := nI (i + 2)) C9 dL_law_540 (nI_add _ _) ?_
  refine hL.2.2.1 _ _ _ _ _ _ (by omega) dL_law_541 ?_
  refine r_callV (rest := []) C9 hm lk_X6_night w_6_21 is2 (ci := 6) rfl dL_law_542 rfl hC2 hn2 hr ⟨by decide, by decide⟩ (Nat.le_of_ble_eq_true rfl) (fun v2 w2 hp2 => ?_)
  obtain ⟨W2, r2, rfl, rfl, ⟨⟨qm, hpm, hqm⟩, hout⟩, hgo⟩ := hf2 v2 w2 hp2
  obtain ⟨x1, sz, x3, x4, x5, ac, x7, x8, x9, x10, x11, sp, ou, rfl⟩ := hqm
  show Ω (j + 1) _ [(5, .int (nI k)), (0, .ref b), (1, .ref hB), (2, .ref hM), (3, .ref o), (4, .int (nI i))] [.int r2] 545
  refine r_istore C9 (lv' := [(6, .int r2), (5, .int (nI k)), (0, .ref b), (1, .ref hB), (2, .ref hM), (3, .ref o), (4, .int (nI i))]) dL_law_545 (by decide) rfl ?_
  refine r_aload_n C9 (i := 2) 4 dL_law_547 rfl rfl ?_
  refine r_readV (rest := []) C9 (c_X6_thrown (hM := hM) (rf := k) (x1 := x1) (sz := sz) (x3 := x3) (x4 := x4) (x5 := x5) (ac := ac) (x7 := x7) (x8 := x8) (x9 := x9) (x10 := x10) (x11 := x11) (sp := sp) (ou := ou)) lk_X6_thrown w_5_104 [pm] (ci := 6) rfl dL_law_548 rfl (by rw [List.map_cons, hpm]; rfl) rfl rfl ⟨by decide, by decide⟩ (Nat.le_of_ble_eq_true rfl) (st' := [.int (nI k)]) rfl ?_
  refine r_iload C9 (i := 5) 1 dL_law_551 rfl ?_
  refine r_icmp_eqT C9 558 dL_law_553 (by decide) rfl ?_
  refine r_iload C9 (i := 5) 1 dL_law_558 rfl ?_
  by_cases hk : k = 0
  · subst hk
    obtain ⟨g2, hpo, hg2⟩ := hout rfl
    refine r_if_neF C9 (y := 0) (tgt := 575) dL_law_560 (by decide) (fun z => z rfl) ?_
    refine r_aload_n C9 (i := 3) 5 dL_law_563 rfl rfl ?_
    refine r_iconst C9 dL_law_564 ki_0 ?_
    refine r_lald (v := r2.toInt64) C9 po hpo (by decide) (by decide) hg2 dL_law_565 ?_
    refine r_iload C9 (i := 6) 0 dL_law_566 rfl ?_
    refine r_i2l (v := (r2).toInt64) C9 dL_law_568 rfl ?_
    refine r_lcmp C9 dL_law_569 rfl ?_
    refine r_if_eqT C9 (y := 0) 575 dL_law_570 (by decide) ((lg_cmp_eq _ _).mpr rfl) ?_
    refine r_goto C9 2187 dL_law_575 (by decide) ?_
    exact r_lv (lv' := (lv0 b hB hM o i)) C9 [2, 3, 4, 5, 6] rfl hgo
  · refine r_if_neT C9 (y := 0) 575 dL_law_560 (by decide) ((z_neN (by omega)).mpr hk) ?_
    refine r_goto C9 2187 dL_law_575 (by decide) ?_
    exact r_lv (lv' := (lv0 b hB hM o i)) C9 [2, 3, 4, 5, 6] rfl hgo
set_option maxRecDepth 100000 in
theorem lc_actor {l : Launch} {E : Ev} {b L : Nat} {xs : Nat → Int32} {c0 s0 : Nat} {Ω : Nat → Om} (hL : Lw l E b L xs c0 s0 Ω) {j i : Nat} (hj : j < 512) (hi : i + 5 ≤ L) (hL2 : L ≤ 2560) {hB hM o : Nat} {W : va_W} {v1 : Int32} (hv1 : (xs (i + 1)) = v1) {v2 : Int32} (hv2 : (xs (i + 2)) = v2) {pm po : Nat} {wc1 : va_W} {is1 : List Nat} {post1 : Option Value → va_W → Prop} (hx : CtX l E yL_actor method_9_code 5 (some FieldType.int) [(0, 10, 13, 28), (0, 10, 17, 13)] 8 141 [.ref hB, .int v1, .int v2, .ref o] wc1 post1) (hC1 : is1.map (fun i => W[i]?) = wc1.map some) (hn1 : va_nd is1 = true)
    (hf : ∀ (v : Option Value) (w : va_W), post1 v w → ∃ (W1 : va_W) (k : Nat) (wm : va_W) (fs : List Value) (post2 : Option Value → va_W → Prop) (is2 : List Nat), mrg W is1 w = W1 ∧ k < 4 ∧ v = some (.int (nI k)) ∧ Ct l E yX6_actor cX6_actor 9 (some FieldType.int) 5 123 [.ref hM, .int v1, .int v2] wm post2 ∧ wm[0]? = some (hM, .inr (6, fs)) ∧ is2.map (fun i => W1[i]?) = wm.map some ∧ va_nd is2 = true ∧ ∀ (v2 : Option Value) (w2 : va_W), post2 v2 w2 → ∃ (W2 : va_W) (r2 : Int32), mrg W1 is2 w2 = W2 ∧ v2 = some (.int r2) ∧ Both E hM o k pm po r2 W2 ∧ Ω (j + 1) W2 (lv0 b hB hM o i) [] 2187) : Ω j W (lv0 b hB hM o i) [] 578 := by
  subst hv1 hv2
  have C := hL.1 j (by omega)
  have C9 := hL.1 (j + 1) (by omega)
  refine r_aload_n C (i := 1) 1 dL_law_578 rfl rfl ?_
  refine r_aload_n C (i := 0) 0 dL_law_579 rfl rfl ?_
  refine r_iload C (i := 4) 4 dL_law_580 rfl ?_
  refine r_iconst C dL_law_582 ki_1 ?_
  refine r_iadd (v := nI (i + 1)) C dL_law_583 (nI_add _ _) ?_
  refine hL.2.2.1 _ _ _ _ _ _ (by omega) dL_law_584 ?_
  refine r_aload_n C (i := 0) 0 dL_law_585 rfl rfl ?_
  refine r_iload C (i := 4) 4 dL_law_586 rfl ?_
  refine r_iconst C dL_law_588 ki_2 ?_
  refine r_iadd (v := nI (i + 2)) C dL_law_589 (nI_add _ _) ?_
  refine hL.2.2.1 _ _ _ _ _ _ (by omega) dL_law_590 ?_
  refine r_aload_n C (i := 3) 3 dL_law_591 rfl rfl ?_
  refine hL.2.2.2.2.1 j _ _ _ [] _ _ _ _ _ _ _ _ _ _ _ _ _ hj hx lk_L_actor w_3_213 dL_law_592 rfl hC1 hn1 ⟨by decide, by decide⟩ (Nat.le_of_ble_eq_true rfl) (fun v w hp => ?_)
  obtain ⟨W1, k, wm, fs, post2, is2, rfl, hk4, rfl, hm, hr, hC2, hn2, hf2⟩ := hf v w hp
  show Ω (j + 1) _ [(0, .ref b), (1, .ref hB), (2, .ref hM), (3, .ref o), (4, .int (nI i))] [.int (nI k)] 595
  refine r_istore C9 (lv' := [(5, .int (nI k)), (0, .ref b), (1, .ref hB), (2, .ref hM), (3, .ref o), (4, .int (nI i))]) dL_law_595 (by decide) rfl ?_
  refine r_aload_n C9 (i := 2) 3 dL_law_597 rfl rfl ?_
  refine r_aload_n C9 (i := 0) 1 dL_law_598 rfl rfl ?_
  refine r_iload C9 (i := 4) 5 dL_law_599 rfl ?_
  refine r_iconst C9 dL_law_601 ki_1 ?_
  refine r_iadd (v := nI (i + 1)) C9 dL_law_602 (nI_add _ _) ?_
  refine hL.2.2.1 _ _ _ _ _ _ (by omega) dL_law_603 ?_
  refine r_aload_n C9 (i := 0) 1 dL_law_604 rfl rfl ?_
  refine r_iload C9 (i := 4) 5 dL_law_605 rfl ?_
  refine r_iconst C9 dL_law_607 ki_2 ?_
  refine r_iadd (v := nI (i + 2)) C9 dL_law_608 (nI_add _ _) ?_
  refine hL.2.2.1 _ _ _ _ _ _ (by omega) dL_law_609 ?_
  refine r_callV (rest := []) C9 hm lk_X6_actor w_6_26 is2 (ci := 6) rfl dL_law_610 rfl hC2 hn2 hr ⟨by decide, by decide⟩ (Nat.le_of_ble_eq_true rfl) (fun v2 w2 hp2 => ?_)
  obtain ⟨W2, r2, rfl, rfl, ⟨⟨qm, hpm, hqm⟩, hout⟩, hgo⟩ := hf2 v2 w2 hp2
  obtain ⟨x1, sz, x3, x4, x5, ac, x7, x8, x9, x10, x11, sp, ou, rfl⟩ := hqm
  show Ω (j + 1) _ [(5, .int (nI k)), (0, .ref b), (1, .ref hB), (2, .ref hM), (3, .ref o), (4, .int (nI i))] [.int r2] 613
  refine r_istore C9 (lv' := [(6, .int r2), (5, .int (nI k)), (0, .ref b), (1, .ref hB), (2, .ref hM), (3, .ref o), (4, .int (nI i))]) dL_law_613 (by decide) rfl ?_
  refine r_aload_n C9 (i := 2) 4 dL_law_615 rfl rfl ?_
  refine r_readV (rest := []) C9 (c_X6_thrown (hM := hM) (rf := k) (x1 := x1) (sz := sz) (x3 := x3) (x4 := x4) (x5 := x5) (ac := ac) (x7 := x7) (x8 := x8) (x9 := x9) (x10 := x10) (x11 := x11) (sp := sp) (ou := ou)) lk_X6_thrown w_5_104 [pm] (ci := 6) rfl dL_law_616 rfl (by rw [List.map_cons, hpm]; rfl) rfl rfl ⟨by decide, by decide⟩ (Nat.le_of_ble_eq_true rfl) (st' := [.int (nI k)]) rfl ?_
  refine r_iload C9 (i := 5) 1 dL_law_619 rfl ?_
  refine r_icmp_eqT C9 626 dL_law_621 (by decide) rfl ?_
  refine r_iload C9 (i := 5) 1 dL_law_626 rfl ?_
  by_cases hk : k = 0
  · subst hk
    obtain ⟨g2, hpo, hg2⟩ := hout rfl
    refine r_if_neF C9 (y := 0) (tgt := 643) dL_law_628 (by decide) (fun z => z rfl) ?_
    refine r_aload_n C9 (i := 3) 5 dL_law_631 rfl rfl ?_
    refine r_iconst C9 dL_law_632 ki_0 ?_
    refine r_lald (v := r2.toInt64) C9 po hpo (by decide) (by decide) hg2 dL_law_633 ?_
    refine r_iload C9 (i := 6) 0 dL_law_634 rfl ?_
    refine r_i2l (v := (r2).toInt64) C9 dL_law_636 rfl ?_
    refine r_lcmp C9 dL_law_637 rfl ?_
    refine r_if_eqT C9 (y := 0) 643 dL_law_638 (by decide) ((lg_cmp_eq _ _).mpr rfl) ?_
    refine r_goto C9 2187 dL_law_643 (by decide) ?_
    exact r_lv (lv' := (lv0 b hB hM o i)) C9 [2, 3, 4, 5, 6] rfl hgo
  · refine r_if_neT C9 (y := 0) 643 dL_law_628 (by decide) ((z_neN (by omega)).mpr hk) ?_
    refine r_goto C9 2187 dL_law_643 (by decide) ?_
    exact r_lv (lv' := (lv0 b hB hM o i)) C9 [2, 3, 4, 5, 6] rfl hgo
set_option maxRecDepth 100000 in
theorem lc_ranked {l : Launch} {E : Ev} {b L : Nat} {xs : Nat → Int32} {c0 s0 : Nat} {Ω : Nat → Om} (hL : Lw l E b L xs c0 s0 Ω) {j i : Nat} (hj : j < 512) (hi : i + 5 ≤ L) (hL2 : L ≤ 2560) {hB hM o : Nat} {W : va_W} {v1 : Int32} (hv1 : (xs (i + 1)) = v1) {v2 : Int32} (hv2 : (xs (i + 2)) = v2) {pm po : Nat} {wc1 : va_W} {is1 : List Nat} {post1 : Option Value → va_W → Prop} (hx : CtX l E yL_ranked method_10_code 5 (some FieldType.int) [(0, 10, 13, 28), (0, 10, 17, 13)] 8 133 [.ref hB, .int v1, .int v2, .ref o] wc1 post1) (hC1 : is1.map (fun i => W[i]?) = wc1.map some) (hn1 : va_nd is1 = true)
    (hf : ∀ (v : Option Value) (w : va_W), post1 v w → ∃ (W1 : va_W) (k : Nat) (wm : va_W) (fs : List Value) (post2 : Option Value → va_W → Prop) (is2 : List Nat), mrg W is1 w = W1 ∧ k < 4 ∧ v = some (.int (nI k)) ∧ Ct l E yX6_ranked cX6_ranked 3 (some FieldType.int) 2 46 [.ref hM, .int v1, .int v2] wm post2 ∧ wm[0]? = some (hM, .inr (6, fs)) ∧ is2.map (fun i => W1[i]?) = wm.map some ∧ va_nd is2 = true ∧ ∀ (v2 : Option Value) (w2 : va_W), post2 v2 w2 → ∃ (W2 : va_W) (r2 : Int32), mrg W1 is2 w2 = W2 ∧ v2 = some (.int r2) ∧ Both E hM o k pm po r2 W2 ∧ Ω (j + 1) W2 (lv0 b hB hM o i) [] 2187) : Ω j W (lv0 b hB hM o i) [] 646 := by
  subst hv1 hv2
  have C := hL.1 j (by omega)
  have C9 := hL.1 (j + 1) (by omega)
  refine r_aload_n C (i := 1) 1 dL_law_646 rfl rfl ?_
  refine r_aload_n C (i := 0) 0 dL_law_647 rfl rfl ?_
  refine r_iload C (i := 4) 4 dL_law_648 rfl ?_
  refine r_iconst C dL_law_650 ki_1 ?_
  refine r_iadd (v := nI (i + 1)) C dL_law_651 (nI_add _ _) ?_
  refine hL.2.2.1 _ _ _ _ _ _ (by omega) dL_law_652 ?_
  refine r_aload_n C (i := 0) 0 dL_law_653 rfl rfl ?_
  refine r_iload C (i := 4) 4 dL_law_654 rfl ?_
  refine r_iconst C dL_law_656 ki_2 ?_
  refine r_iadd (v := nI (i + 2)) C dL_law_657 (nI_add _ _) ?_
  refine hL.2.2.1 _ _ _ _ _ _ (by omega) dL_law_658 ?_
  refine r_aload_n C (i := 3) 3 dL_law_659 rfl rfl ?_
  refine hL.2.2.2.2.1 j _ _ _ [] _ _ _ _ _ _ _ _ _ _ _ _ _ hj hx lk_L_ranked w_4_14 dL_law_660 rfl hC1 hn1 ⟨by decide, by decide⟩ (Nat.le_of_ble_eq_true rfl) (fun v w hp => ?_)
  obtain ⟨W1, k, wm, fs, post2, is2, rfl, hk4, rfl, hm, hr, hC2, hn2, hf2⟩ := hf v w hp
  show Ω (j + 1) _ [(0, .ref b), (1, .ref hB), (2, .ref hM), (3, .ref o), (4, .int (nI i))] [.int (nI k)] 663
  refine r_istore C9 (lv' := [(5, .int (nI k)), (0, .ref b), (1, .ref hB), (2, .ref hM), (3, .ref o), (4, .int (nI i))]) dL_law_663 (by decide) rfl ?_
  refine r_aload_n C9 (i := 2) 3 dL_law_665 rfl rfl ?_
  refine r_aload_n C9 (i := 0) 1 dL_law_666 rfl rfl ?_
  refine r_iload C9 (i := 4) 5 dL_law_667 rfl ?_
  refine r_iconst C9 dL_law_669 ki_1 ?_
  refine r_iadd (v := nI (i + 1)) C9 dL_law_670 (nI_add _ _) ?_
  refine hL.2.2.1 _ _ _ _ _ _ (by omega) dL_law_671 ?_
  refine r_aload_n C9 (i := 0) 1 dL_law_672 rfl rfl ?_
  refine r_iload C9 (i := 4) 5 dL_law_673 rfl ?_
  refine r_iconst C9 dL_law_675 ki_2 ?_
  refine r_iadd (v := nI (i + 2)) C9 dL_law_676 (nI_add _ _) ?_
  refine hL.2.2.1 _ _ _ _ _ _ (by omega) dL_law_677 ?_
  refine r_callV (rest := []) C9 hm lk_X6_ranked w_6_35 is2 (ci := 6) rfl dL_law_678 rfl hC2 hn2 hr ⟨by decide, by decide⟩ (Nat.le_of_ble_eq_true rfl) (fun v2 w2 hp2 => ?_)
  obtain ⟨W2, r2, rfl, rfl, ⟨⟨qm, hpm, hqm⟩, hout⟩, hgo⟩ := hf2 v2 w2 hp2
  obtain ⟨x1, sz, x3, x4, x5, ac, x7, x8, x9, x10, x11, sp, ou, rfl⟩ := hqm
  show Ω (j + 1) _ [(5, .int (nI k)), (0, .ref b), (1, .ref hB), (2, .ref hM), (3, .ref o), (4, .int (nI i))] [.int r2] 681
  refine r_istore C9 (lv' := [(6, .int r2), (5, .int (nI k)), (0, .ref b), (1, .ref hB), (2, .ref hM), (3, .ref o), (4, .int (nI i))]) dL_law_681 (by decide) rfl ?_
  refine r_aload_n C9 (i := 2) 4 dL_law_683 rfl rfl ?_
  refine r_readV (rest := []) C9 (c_X6_thrown (hM := hM) (rf := k) (x1 := x1) (sz := sz) (x3 := x3) (x4 := x4) (x5 := x5) (ac := ac) (x7 := x7) (x8 := x8) (x9 := x9) (x10 := x10) (x11 := x11) (sp := sp) (ou := ou)) lk_X6_thrown w_5_104 [pm] (ci := 6) rfl dL_law_684 rfl (by rw [List.map_cons, hpm]; rfl) rfl rfl ⟨by decide, by decide⟩ (Nat.le_of_ble_eq_true rfl) (st' := [.int (nI k)]) rfl ?_
  refine r_iload C9 (i := 5) 1 dL_law_687 rfl ?_
  refine r_icmp_eqT C9 694 dL_law_689 (by decide) rfl ?_
  refine r_iload C9 (i := 5) 1 dL_law_694 rfl ?_
  by_cases hk : k = 0
  · subst hk
    obtain ⟨g2, hpo, hg2⟩ := hout rfl
    refine r_if_neF C9 (y := 0) (tgt := 711) dL_law_696 (by decide) (fun z => z rfl) ?_
    refine r_aload_n C9 (i := 3) 5 dL_law_699 rfl rfl ?_
    refine r_iconst C9 dL_law_700 ki_0 ?_
    refine r_lald (v := r2.toInt64) C9 po hpo (by decide) (by decide) hg2 dL_law_701 ?_
    refine r_iload C9 (i := 6) 0 dL_law_702 rfl ?_
    refine r_i2l (v := (r2).toInt64) C9 dL_law_704 rfl ?_
    refine r_lcmp C9 dL_law_705 rfl ?_
    refine r_if_eqT C9 (y := 0) 711 dL_law_706 (by decide) ((lg_cmp_eq _ _).mpr rfl) ?_
    refine r_goto C9 2187 dL_law_711 (by decide) ?_
    exact r_lv (lv' := (lv0 b hB hM o i)) C9 [2, 3, 4, 5, 6] rfl hgo
  · refine r_if_neT C9 (y := 0) 711 dL_law_696 (by decide) ((z_neN (by omega)).mpr hk) ?_
    refine r_goto C9 2187 dL_law_711 (by decide) ?_
    exact r_lv (lv' := (lv0 b hB hM o i)) C9 [2, 3, 4, 5, 6] rfl hgo
set_option maxRecDepth 100000 in
theorem lc_found {l : Launch} {E : Ev} {b L : Nat} {xs : Nat → Int32} {c0 s0 : Nat} {Ω : Nat → Om} (hL : Lw l E b L xs c0 s0 Ω) {j i : Nat} (hj : j < 512) (hi : i + 5 ≤ L) (hL2 : L ≤ 2560) {hB hM o : Nat} {W : va_W} {v1 : Int32} (hv1 : (xs (i + 1)) = v1) {v2 : Int32} (hv2 : (xs (i + 2)) = v2) {pm po : Nat} {wc1 : va_W} {is1 : List Nat} {post1 : Option Value → va_W → Prop} (hx : CtX l E yL_found method_11_code 5 (some FieldType.int) [(0, 10, 13, 28), (0, 10, 17, 13)] 8 133 [.ref hB, .int v1, .int v2, .ref o] wc1 post1) (hC1 : is1.map (fun i => W[i]?) = wc1.map some) (hn1 : va_nd is1 = true)
    (hf : ∀ (v : Option Value) (w : va_W), post1 v w → ∃ (W1 : va_W) (k : Nat) (wm : va_W) (fs : List Value) (post2 : Option Value → va_W → Prop) (is2 : List Nat), mrg W is1 w = W1 ∧ k < 4 ∧ v = some (.int (nI k)) ∧ Ct l E yX6_found cX6_found 3 (some FieldType.int) 5 120 [.ref hM, .int v1, .int v2] wm post2 ∧ wm[0]? = some (hM, .inr (6, fs)) ∧ is2.map (fun i => W1[i]?) = wm.map some ∧ va_nd is2 = true ∧ ∀ (v2 : Option Value) (w2 : va_W), post2 v2 w2 → ∃ (W2 : va_W) (r2 : Int32), mrg W1 is2 w2 = W2 ∧ v2 = some (.int r2) ∧ Both E hM o k pm po r2 W2 ∧ Ω (j + 1) W2 (lv0 b hB hM o i) [] 2187) : Ω j W (lv0 b hB hM o i) [] 714 := by
  subst hv1 hv2
  have C := hL.1 j (by omega)
  have C9 := hL.1 (j + 1) (by omega)
  refine r_aload_n C (i := 1) 1 dL_law_714 rfl rfl ?_
  refine r_aload_n C (i := 0) 0 dL_law_715 rfl rfl ?_
  refine r_iload C (i := 4) 4 dL_law_716 rfl ?_
  refine r_iconst C dL_law_718 ki_1 ?_
  refine r_iadd (v := nI (i + 1)) C dL_law_719 (nI_add _ _) ?_
  refine hL.2.2.1 _ _ _ _ _ _ (by omega) dL_law_720 ?_
  refine r_aload_n C (i := 0) 0 dL_law_721 rfl rfl ?_
  refine r_iload C (i := 4) 4 dL_law_722 rfl ?_
  refine r_iconst C dL_law_724 ki_2 ?_
  refine r_iadd (v := nI (i + 2)) C dL_law_725 (nI_add _ _) ?_
  refine hL.2.2.1 _ _ _ _ _ _ (by omega) dL_law_726 ?_
  refine r_aload_n C (i := 3) 3 dL_law_727 rfl rfl ?_
  refine hL.2.2.2.2.1 j _ _ _ [] _ _ _ _ _ _ _ _ _ _ _ _ _ hj hx lk_L_found w_4_23 dL_law_728 rfl hC1 hn1 ⟨by decide, by decide⟩ (Nat.le_of_ble_eq_true rfl) (fun v w hp => ?_)
  obtain ⟨W1, k, wm, fs, post2, is2, rfl, hk4, rfl, hm, hr, hC2, hn2, hf2⟩ := hf v w hp
  show Ω (j + 1) _ [(0, .ref b), (1, .ref hB), (2, .ref hM), (3, .ref o), (4, .int (nI i))] [.int (nI k)] 731
  refine r_istore C9 (lv' := [(5, .int (nI k)), (0, .ref b), (1, .ref hB), (2, .ref hM), (3, .ref o), (4, .int (nI i))]) dL_law_731 (by decide) rfl ?_
  refine r_aload_n C9 (i := 2) 3 dL_law_733 rfl rfl ?_
  refine r_aload_n C9 (i := 0) 1 dL_law_734 rfl rfl ?_
  refine r_iload C9 (i := 4) 5 dL_law_735 rfl ?_
  refine r_iconst C9 dL_law_737 ki_1 ?_
  refine r_iadd (v := nI (i + 1)) C9 dL_law_738 (nI_add _ _) ?_
  refine hL.2.2.1 _ _ _ _ _ _ (by omega) dL_law_739 ?_
  refine r_aload_n C9 (i := 0) 1 dL_law_740 rfl rfl ?_
  refine r_iload C9 (i := 4) 5 dL_law_741 rfl ?_
  refine r_iconst C9 dL_law_743 ki_2 ?_
  refine r_iadd (v := nI (i + 2)) C9 dL_law_744 (nI_add _ _) ?_
  refine hL.2.2.1 _ _ _ _ _ _ (by omega) dL_law_745 ?_
  refine r_callV (rest := []) C9 hm lk_X6_found w_6_39 is2 (ci := 6) rfl dL_law_746 rfl hC2 hn2 hr ⟨by decide, by decide⟩ (Nat.le_of_ble_eq_true rfl) (fun v2 w2 hp2 => ?_)
  obtain ⟨W2, r2, rfl, rfl, ⟨⟨qm, hpm, hqm⟩, hout⟩, hgo⟩ := hf2 v2 w2 hp2
  obtain ⟨x1, sz, x3, x4, x5, ac, x7, x8, x9, x10, x11, sp, ou, rfl⟩ := hqm
  show Ω (j + 1) _ [(5, .int (nI k)), (0, .ref b), (1, .ref hB), (2, .ref hM), (3, .ref o), (4, .int (nI i))] [.int r2] 749
  refine r_istore C9 (lv' := [(6, .int r2), (5, .int (nI k)), (0, .ref b), (1, .ref hB), (2, .ref hM), (3, .ref o), (4, .int (nI i))]) dL_law_749 (by decide) rfl ?_
  refine r_aload_n C9 (i := 2) 4 dL_law_751 rfl rfl ?_
  refine r_readV (rest := []) C9 (c_X6_thrown (hM := hM) (rf := k) (x1 := x1) (sz := sz) (x3 := x3) (x4 := x4) (x5 := x5) (ac := ac) (x7 := x7) (x8 := x8) (x9 := x9) (x10 := x10) (x11 := x11) (sp := sp) (ou := ou)) lk_X6_thrown w_5_104 [pm] (ci := 6) rfl dL_law_752 rfl (by rw [List.map_cons, hpm]; rfl) rfl rfl ⟨by decide, by decide⟩ (Nat.le_of_ble_eq_true rfl) (st' := [.int (nI k)]) rfl ?_
  refine r_iload C9 (i := 5) 1 dL_law_755 rfl ?_
  refine r_icmp_eqT C9 762 dL_law_757 (by decide) rfl ?_
  refine r_iload C9 (i := 5) 1 dL_law_762 rfl ?_
  by_cases hk : k = 0
  · subst hk
    obtain ⟨g2, hpo, hg2⟩ := hout rfl
    refine r_if_neF C9 (y := 0) (tgt := 779) dL_law_764 (by decide) (fun z => z rfl) ?_
    refine r_aload_n C9 (i := 3) 5 dL_law_767 rfl rfl ?_
    refine r_iconst C9 dL_law_768 ki_0 ?_
    refine r_lald (v := r2.toInt64) C9 po hpo (by decide) (by decide) hg2 dL_law_769 ?_
    refine r_iload C9 (i := 6) 0 dL_law_770 rfl ?_
    refine r_i2l (v := (r2).toInt64) C9 dL_law_772 rfl ?_
    refine r_lcmp C9 dL_law_773 rfl ?_
    refine r_if_eqT C9 (y := 0) 779 dL_law_774 (by decide) ((lg_cmp_eq _ _).mpr rfl) ?_
    refine r_goto C9 2187 dL_law_779 (by decide) ?_
    exact r_lv (lv' := (lv0 b hB hM o i)) C9 [2, 3, 4, 5, 6] rfl hgo
  · refine r_if_neT C9 (y := 0) 779 dL_law_764 (by decide) ((z_neN (by omega)).mpr hk) ?_
    refine r_goto C9 2187 dL_law_779 (by decide) ?_
    exact r_lv (lv' := (lv0 b hB hM o i)) C9 [2, 3, 4, 5, 6] rfl hgo
set_option maxRecDepth 100000 in
theorem lc_setting {l : Launch} {E : Ev} {b L : Nat} {xs : Nat → Int32} {c0 s0 : Nat} {Ω : Nat → Om} (hL : Lw l E b L xs c0 s0 Ω) {j i : Nat} (hj : j < 512) (hi : i + 5 ≤ L) (hL2 : L ≤ 2560) {hB hM o : Nat} {W : va_W} {v1 : Int32} (hv1 : (xs (i + 1)) = v1) {pm po : Nat} {wc1 : va_W} {is1 : List Nat} {post1 : Option Value → va_W → Prop} (hx : CtX l E yL_setting method_12_code 4 (some FieldType.int) [(0, 9, 12, 13)] 8 131 [.ref hB, .int v1, .ref o] wc1 post1) (hC1 : is1.map (fun i => W[i]?) = wc1.map some) (hn1 : va_nd is1 = true)
    (hf : ∀ (v : Option Value) (w : va_W), post1 v w → ∃ (W1 : va_W) (k : Nat) (wm : va_W) (fs : List Value) (post2 : Option Value → va_W → Prop) (is2 : List Nat), mrg W is1 w = W1 ∧ k < 4 ∧ v = some (.int (nI k)) ∧ Ct l E yX6_setting cX6_setting 2 (some FieldType.int) 1 25 [.ref hM, .int v1] wm post2 ∧ wm[0]? = some (hM, .inr (6, fs)) ∧ is2.map (fun i => W1[i]?) = wm.map some ∧ va_nd is2 = true ∧ ∀ (v2 : Option Value) (w2 : va_W), post2 v2 w2 → ∃ (W2 : va_W) (r2 : Int32), mrg W1 is2 w2 = W2 ∧ v2 = some (.int r2) ∧ Both E hM o k pm po r2 W2 ∧ Ω (j + 1) W2 (lv0 b hB hM o i) [] 2187) : Ω j W (lv0 b hB hM o i) [] 782 := by
  subst hv1
  have C := hL.1 j (by omega)
  have C9 := hL.1 (j + 1) (by omega)
  refine r_aload_n C (i := 1) 1 dL_law_782 rfl rfl ?_
  refine r_aload_n C (i := 0) 0 dL_law_783 rfl rfl ?_
  refine r_iload C (i := 4) 4 dL_law_784 rfl ?_
  refine r_iconst C dL_law_786 ki_1 ?_
  refine r_iadd (v := nI (i + 1)) C dL_law_787 (nI_add _ _) ?_
  refine hL.2.2.1 _ _ _ _ _ _ (by omega) dL_law_788 ?_
  refine r_aload_n C (i := 3) 3 dL_law_789 rfl rfl ?_
  refine hL.2.2.2.2.1 j _ _ _ [] _ _ _ _ _ _ _ _ _ _ _ _ _ hj hx lk_L_setting w_4_44 dL_law_790 rfl hC1 hn1 ⟨by decide, by decide⟩ (Nat.le_of_ble_eq_true rfl) (fun v w hp => ?_)
  obtain ⟨W1, k, wm, fs, post2, is2, rfl, hk4, rfl, hm, hr, hC2, hn2, hf2⟩ := hf v w hp
  show Ω (j + 1) _ [(0, .ref b), (1, .ref hB), (2, .ref hM), (3, .ref o), (4, .int (nI i))] [.int (nI k)] 793
  refine r_istore C9 (lv' := [(5, .int (nI k)), (0, .ref b), (1, .ref hB), (2, .ref hM), (3, .ref o), (4, .int (nI i))]) dL_law_793 (by decide) rfl ?_
  refine r_aload_n C9 (i := 2) 3 dL_law_795 rfl rfl ?_
  refine r_aload_n C9 (i := 0) 1 dL_law_796 rfl rfl ?_
  refine r_iload C9 (i := 4) 5 dL_law_797 rfl ?_
  refine r_iconst C9 dL_law_799 ki_1 ?_
  refine r_iadd (v := nI (i + 1)) C9 dL_law_800 (nI_add _ _) ?_
  refine hL.2.2.1 _ _ _ _ _ _ (by omega) dL_law_801 ?_
  refine r_callV (rest := []) C9 hm lk_X6_setting w_6_46 is2 (ci := 6) rfl dL_law_802 rfl hC2 hn2 hr ⟨by decide, by decide⟩ (Nat.le_of_ble_eq_true rfl) (fun v2 w2 hp2 => ?_)
  obtain ⟨W2, r2, rfl, rfl, ⟨⟨qm, hpm, hqm⟩, hout⟩, hgo⟩ := hf2 v2 w2 hp2
  obtain ⟨x1, sz, x3, x4, x5, ac, x7, x8, x9, x10, x11, sp, ou, rfl⟩ := hqm
  show Ω (j + 1) _ [(5, .int (nI k)), (0, .ref b), (1, .ref hB), (2, .ref hM), (3, .ref o), (4, .int (nI i))] [.int r2] 805
  refine r_istore C9 (lv' := [(6, .int r2), (5, .int (nI k)), (0, .ref b), (1, .ref hB), (2, .ref hM), (3, .ref o), (4, .int (nI i))]) dL_law_805 (by decide) rfl ?_
  refine r_aload_n C9 (i := 2) 4 dL_law_807 rfl rfl ?_
  refine r_readV (rest := []) C9 (c_X6_thrown (hM := hM) (rf := k) (x1 := x1) (sz := sz) (x3 := x3) (x4 := x4) (x5 := x5) (ac := ac) (x7 := x7) (x8 := x8) (x9 := x9) (x10 := x10) (x11 := x11) (sp := sp) (ou := ou)) lk_X6_thrown w_5_104 [pm] (ci := 6) rfl dL_law_808 rfl (by rw [List.map_cons, hpm]; rfl) rfl rfl ⟨by decide, by decide⟩ (Nat.le_of_ble_eq_true rfl) (st' := [.int (nI k)]) rfl ?_
  refine r_iload C9 (i := 5) 1 dL_law_811 rfl ?_
  refine r_icmp_eqT C9 818 dL_law_813 (by decide) rfl ?_
  refine r_iload C9 (i := 5) 1 dL_law_818 rfl ?_
  by_cases hk : k = 0
  · subst hk
    obtain ⟨g2, hpo, hg2⟩ := hout rfl
    refine r_if_neF C9 (y := 0) (tgt := 835) dL_law_820 (by decide) (fun z => z rfl) ?_
    refine r_aload_n C9 (i := 3) 5 dL_law_823 rfl rfl ?_
    refine r_iconst C9 dL_law_824 ki_0 ?_
    refine r_lald (v := r2.toInt64) C9 po hpo (by decide) (by decide) hg2 dL_law_825 ?_
    refine r_iload C9 (i := 6) 0 dL_law_826 rfl ?_
    refine r_i2l (v := (r2).toInt64) C9 dL_law_828 rfl ?_
    refine r_lcmp C9 dL_law_829 rfl ?_
    refine r_if_eqT C9 (y := 0) 835 dL_law_830 (by decide) ((lg_cmp_eq _ _).mpr rfl) ?_
    refine r_goto C9 2187 dL_law_835 (by decide) ?_
    exact r_lv (lv' := (lv0 b hB hM o i)) C9 [2, 3, 4, 5, 6] rfl hgo
  · refine r_if_neT C9 (y := 0) 835 dL_law_820 (by decide) ((z_neN (by omega)).mpr hk) ?_
    refine r_goto C9 2187 dL_law_835 (by decide) ?_
    exact r_lv (lv' := (lv0 b hB hM o i)) C9 [2, 3, 4, 5, 6] rfl hgo
set_option maxRecDepth 100000 in
theorem lc_addActor {l : Launch} {E : Ev} {b L : Nat} {xs : Nat → Int32} {c0 s0 : Nat} {Ω : Nat → Om} (hL : Lw l E b L xs c0 s0 Ω) {j i : Nat} (hj : j < 512) (hi : i + 5 ≤ L) (hL2 : L ≤ 2560) {hB hM o : Nat} {W : va_W} {v1 : Int32} (hv1 : (xs (i + 1)) = v1) {pm po : Nat} {wc1 : va_W} {is1 : List Nat} {post1 : Option Value → va_W → Prop} (hx : CtX l E yL_addActor method_13_code 4 (some FieldType.int) [(0, 9, 12, 13), (0, 9, 15, 15)] 7 112 [.ref hB, .int v1, .ref o] wc1 post1) (hC1 : is1.map (fun i => W[i]?) = wc1.map some) (hn1 : va_nd is1 = true)
    (hf : ∀ (v : Option Value) (w : va_W), post1 v w → ∃ (W1 : va_W) (k : Nat) (wm : va_W) (fs : List Value) (post2 : Option Value → va_W → Prop) (is2 : List Nat), mrg W is1 w = W1 ∧ k < 4 ∧ v = some (.int (nI k)) ∧ Ct l E yX6_addActor cX6_addActor 2 (some FieldType.int) 2 45 [.ref hM, .int v1] wm post2 ∧ wm[0]? = some (hM, .inr (6, fs)) ∧ is2.map (fun i => W1[i]?) = wm.map some ∧ va_nd is2 = true ∧ ∀ (v2 : Option Value) (w2 : va_W), post2 v2 w2 → ∃ (W2 : va_W) (r2 : Int32), mrg W1 is2 w2 = W2 ∧ v2 = some (.int r2) ∧ Both E hM o k pm po r2 W2 ∧ Ω (j + 1) W2 (lv0 b hB hM o i) [] 2187) : Ω j W (lv0 b hB hM o i) [] 838 := by
  subst hv1
  have C := hL.1 j (by omega)
  have C9 := hL.1 (j + 1) (by omega)
  refine r_aload_n C (i := 1) 1 dL_law_838 rfl rfl ?_
  refine r_aload_n C (i := 0) 0 dL_law_839 rfl rfl ?_
  refine r_iload C (i := 4) 4 dL_law_840 rfl ?_
  refine r_iconst C dL_law_842 ki_1 ?_
  refine r_iadd (v := nI (i + 1)) C dL_law_843 (nI_add _ _) ?_
  refine hL.2.2.1 _ _ _ _ _ _ (by omega) dL_law_844 ?_
  refine r_aload_n C (i := 3) 3 dL_law_845 rfl rfl ?_
  refine hL.2.2.2.2.1 j _ _ _ [] _ _ _ _ _ _ _ _ _ _ _ _ _ hj hx lk_L_addActor w_4_56 dL_law_846 rfl hC1 hn1 ⟨by decide, by decide⟩ (Nat.le_of_ble_eq_true rfl) (fun v w hp => ?_)
  obtain ⟨W1, k, wm, fs, post2, is2, rfl, hk4, rfl, hm, hr, hC2, hn2, hf2⟩ := hf v w hp
  show Ω (j + 1) _ [(0, .ref b), (1, .ref hB), (2, .ref hM), (3, .ref o), (4, .int (nI i))] [.int (nI k)] 849
  refine r_istore C9 (lv' := [(5, .int (nI k)), (0, .ref b), (1, .ref hB), (2, .ref hM), (3, .ref o), (4, .int (nI i))]) dL_law_849 (by decide) rfl ?_
  refine r_aload_n C9 (i := 2) 3 dL_law_851 rfl rfl ?_
  refine r_aload_n C9 (i := 0) 1 dL_law_852 rfl rfl ?_
  refine r_iload C9 (i := 4) 5 dL_law_853 rfl ?_
  refine r_iconst C9 dL_law_855 ki_1 ?_
  refine r_iadd (v := nI (i + 1)) C9 dL_law_856 (nI_add _ _) ?_
  refine hL.2.2.1 _ _ _ _ _ _ (by omega) dL_law_857 ?_
  refine r_callV (rest := []) C9 hm lk_X6_addActor w_6_50 is2 (ci := 6) rfl dL_law_858 rfl hC2 hn2 hr ⟨by decide, by decide⟩ (Nat.le_of_ble_eq_true rfl) (fun v2 w2 hp2 => ?_)
  obtain ⟨W2, r2, rfl, rfl, ⟨⟨qm, hpm, hqm⟩, hout⟩, hgo⟩ := hf2 v2 w2 hp2
  obtain ⟨x1, sz, x3, x4, x5, ac, x7, x8, x9, x10, x11, sp, ou, rfl⟩ := hqm
  show Ω (j + 1) _ [(5, .int (nI k)), (0, .ref b), (1, .ref hB), (2, .ref hM), (3, .ref o), (4, .int (nI i))] [.int r2] 861
  refine r_istore C9 (lv' := [(6, .int r2), (5, .int (nI k)), (0, .ref b), (1, .ref hB), (2, .ref hM), (3, .ref o), (4, .int (nI i))]) dL_law_861 (by decide) rfl ?_
  refine r_aload_n C9 (i := 2) 4 dL_law_863 rfl rfl ?_
  refine r_readV (rest := []) C9 (c_X6_thrown (hM := hM) (rf := k) (x1 := x1) (sz := sz) (x3 := x3) (x4 := x4) (x5 := x5) (ac := ac) (x7 := x7) (x8 := x8) (x9 := x9) (x10 := x10) (x11 := x11) (sp := sp) (ou := ou)) lk_X6_thrown w_5_104 [pm] (ci := 6) rfl dL_law_864 rfl (by rw [List.map_cons, hpm]; rfl) rfl rfl ⟨by decide, by decide⟩ (Nat.le_of_ble_eq_true rfl) (st' := [.int (nI k)]) rfl ?_
  refine r_iload C9 (i := 5) 1 dL_law_867 rfl ?_
  refine r_icmp_eqT C9 874 dL_law_869 (by decide) rfl ?_
  refine r_iload C9 (i := 5) 1 dL_law_874 rfl ?_
  by_cases hk : k = 0
  · subst hk
    obtain ⟨g2, hpo, hg2⟩ := hout rfl
    refine r_if_neF C9 (y := 0) (tgt := 891) dL_law_876 (by decide) (fun z => z rfl) ?_
    refine r_aload_n C9 (i := 3) 5 dL_law_879 rfl rfl ?_
    refine r_iconst C9 dL_law_880 ki_0 ?_
    refine r_lald (v := r2.toInt64) C9 po hpo (by decide) (by decide) hg2 dL_law_881 ?_
    refine r_iload C9 (i := 6) 0 dL_law_882 rfl ?_
    refine r_i2l (v := (r2).toInt64) C9 dL_law_884 rfl ?_
    refine r_lcmp C9 dL_law_885 rfl ?_
    refine r_if_eqT C9 (y := 0) 891 dL_law_886 (by decide) ((lg_cmp_eq _ _).mpr rfl) ?_
    refine r_goto C9 2187 dL_law_891 (by decide) ?_
    exact r_lv (lv' := (lv0 b hB hM o i)) C9 [2, 3, 4, 5, 6] rfl hgo
  · refine r_if_neT C9 (y := 0) 891 dL_law_876 (by decide) ((z_neN (by omega)).mpr hk) ?_
    refine r_goto C9 2187 dL_law_891 (by decide) ?_
    exact r_lv (lv' := (lv0 b hB hM o i)) C9 [2, 3, 4, 5, 6] rfl hgo
set_option maxRecDepth 100000 in
theorem lc_addPart {l : Launch} {E : Ev} {b L : Nat} {xs : Nat → Int32} {c0 s0 : Nat} {Ω : Nat → Om} (hL : Lw l E b L xs c0 s0 Ω) {j i : Nat} (hj : j < 512) (hi : i + 5 ≤ L) (hL2 : L ≤ 2560) {hB hM o : Nat} {W : va_W} {pm po : Nat} {wc1 : va_W} {is1 : List Nat} {post1 : Option Value → va_W → Prop} (hx : CtX l E yL_addPart method_14_code 3 (some FieldType.int) [(0, 8, 11, 15)] 7 130 [.ref hB, .ref o] wc1 post1) (hC1 : is1.map (fun i => W[i]?) = wc1.map some) (hn1 : va_nd is1 = true)
    (hf : ∀ (v : Option Value) (w : va_W), post1 v w → ∃ (W1 : va_W) (k : Nat) (wm : va_W) (fs : List Value) (post2 : Option Value → va_W → Prop) (is2 : List Nat), mrg W is1 w = W1 ∧ k < 4 ∧ v = some (.int (nI k)) ∧ Ct l E yX6_addPart cX6_addPart 1 (some FieldType.int) 2 45 [.ref hM] wm post2 ∧ wm[0]? = some (hM, .inr (6, fs)) ∧ is2.map (fun i => W1[i]?) = wm.map some ∧ va_nd is2 = true ∧ ∀ (v2 : Option Value) (w2 : va_W), post2 v2 w2 → ∃ (W2 : va_W) (r2 : Int32), mrg W1 is2 w2 = W2 ∧ v2 = some (.int r2) ∧ Both E hM o k pm po r2 W2 ∧ Ω (j + 1) W2 (lv0 b hB hM o i) [] 2187) : Ω j W (lv0 b hB hM o i) [] 894 := by
  have C := hL.1 j (by omega)
  have C9 := hL.1 (j + 1) (by omega)
  refine r_aload_n C (i := 1) 1 dL_law_894 rfl rfl ?_
  refine r_aload_n C (i := 3) 3 dL_law_895 rfl rfl ?_
  refine hL.2.2.2.2.1 j _ _ _ [] _ _ _ _ _ _ _ _ _ _ _ _ _ hj hx lk_L_addPart w_4_77 dL_law_896 rfl hC1 hn1 ⟨by decide, by decide⟩ (Nat.le_of_ble_eq_true rfl) (fun v w hp => ?_)
  obtain ⟨W1, k, wm, fs, post2, is2, rfl, hk4, rfl, hm, hr, hC2, hn2, hf2⟩ := hf v w hp
  show Ω (j + 1) _ [(0, .ref b), (1, .ref hB), (2, .ref hM), (3, .ref o), (4, .int (nI i))] [.int (nI k)] 899
  refine r_istore C9 (lv' := [(5, .int (nI k)), (0, .ref b), (1, .ref hB), (2, .ref hM), (3, .ref o), (4, .int (nI i))]) dL_law_899 (by decide) rfl ?_
  refine r_aload_n C9 (i := 2) 3 dL_law_901 rfl rfl ?_
  refine r_callV (rest := []) C9 hm lk_X6_addPart w_6_58 is2 (ci := 6) rfl dL_law_902 rfl hC2 hn2 hr ⟨by decide, by decide⟩ (Nat.le_of_ble_eq_true rfl) (fun v2 w2 hp2 => ?_)
  obtain ⟨W2, r2, rfl, rfl, ⟨⟨qm, hpm, hqm⟩, hout⟩, hgo⟩ := hf2 v2 w2 hp2
  obtain ⟨x1, sz, x3, x4, x5, ac, x7, x8, x9, x10, x11, sp, ou, rfl⟩ := hqm
  show Ω (j + 1) _ [(5, .int (nI k)), (0, .ref b), (1, .ref hB), (2, .ref hM), (3, .ref o), (4, .int (nI i))] [.int r2] 905
  refine r_istore C9 (lv' := [(6, .int r2), (5, .int (nI k)), (0, .ref b), (1, .ref hB), (2, .ref hM), (3, .ref o), (4, .int (nI i))]) dL_law_905 (by decide) rfl ?_
  refine r_aload_n C9 (i := 2) 4 dL_law_907 rfl rfl ?_
  refine r_readV (rest := []) C9 (c_X6_thrown (hM := hM) (rf := k) (x1 := x1) (sz := sz) (x3 := x3) (x4 := x4) (x5 := x5) (ac := ac) (x7 := x7) (x8 := x8) (x9 := x9) (x10 := x10) (x11 := x11) (sp := sp) (ou := ou)) lk_X6_thrown w_5_104 [pm] (ci := 6) rfl dL_law_908 rfl (by rw [List.map_cons, hpm]; rfl) rfl rfl ⟨by decide, by decide⟩ (Nat.le_of_ble_eq_true rfl) (st' := [.int (nI k)]) rfl ?_
  refine r_iload C9 (i := 5) 1 dL_law_911 rfl ?_
  refine r_icmp_eqT C9 918 dL_law_913 (by decide) rfl ?_
  refine r_iload C9 (i := 5) 1 dL_law_918 rfl ?_
  by_cases hk : k = 0
  · subst hk
    obtain ⟨g2, hpo, hg2⟩ := hout rfl
    refine r_if_neF C9 (y := 0) (tgt := 935) dL_law_920 (by decide) (fun z => z rfl) ?_
    refine r_aload_n C9 (i := 3) 5 dL_law_923 rfl rfl ?_
    refine r_iconst C9 dL_law_924 ki_0 ?_
    refine r_lald (v := r2.toInt64) C9 po hpo (by decide) (by decide) hg2 dL_law_925 ?_
    refine r_iload C9 (i := 6) 0 dL_law_926 rfl ?_
    refine r_i2l (v := (r2).toInt64) C9 dL_law_928 rfl ?_
    refine r_lcmp C9 dL_law_929 rfl ?_
    refine r_if_eqT C9 (y := 0) 935 dL_law_930 (by decide) ((lg_cmp_eq _ _).mpr rfl) ?_
    refine r_goto C9 2187 dL_law_935 (by decide) ?_
    exact r_lv (lv' := (lv0 b hB hM o i)) C9 [2, 3, 4, 5, 6] rfl hgo
  · refine r_if_neT C9 (y := 0) 935 dL_law_920 (by decide) ((z_neN (by omega)).mpr hk) ?_
    refine r_goto C9 2187 dL_law_935 (by decide) ?_
    exact r_lv (lv' := (lv0 b hB hM o i)) C9 [2, 3, 4, 5, 6] rfl hgo
set_option maxRecDepth 100000 in
theorem lc_cast {l : Launch} {E : Ev} {b L : Nat} {xs : Nat → Int32} {c0 s0 : Nat} {Ω : Nat → Om} (hL : Lw l E b L xs c0 s0 Ω) {j i : Nat} (hj : j < 512) (hi : i + 5 ≤ L) (hL2 : L ≤ 2560) {hB hM o : Nat} {W : va_W} {v1 : Int32} (hv1 : (xs (i + 1)) = v1) {v2 : Int32} (hv2 : (xs (i + 2)) = v2) {v3 : Int32} (hv3 : (xs (i + 3)) = v3) {pm po : Nat} {wc1 : va_W} {is1 : List Nat} {post1 : Option Value → va_W → Prop} (hx : CtX l E yL_cast method_15_code 6 (some FieldType.int) [(0, 12, 15, 28)] 7 114 [.ref hB, .int v1, .int v2, .int v3, .ref o] wc1 post1) (hC1 : is1.map (fun i => W[i]?) = wc1.map some) (hn1 : va_nd is1 = true)
    (hf : ∀ (v : Option Value) (w : va_W), post1 v w → ∃ (W1 : va_W) (k : Nat) (wm : va_W) (fs : List Value) (post2 : Option Value → va_W → Prop) (is2 : List Nat), mrg W is1 w = W1 ∧ k < 4 ∧ v = some (.int (nI k)) ∧ Ct l E yX6_cast cX6_cast 4 (some FieldType.int) 2 47 [.ref hM, .int v1, .int v2, .int v3] wm post2 ∧ wm[0]? = some (hM, .inr (6, fs)) ∧ is2.map (fun i => W1[i]?) = wm.map some ∧ va_nd is2 = true ∧ ∀ (v2 : Option Value) (w2 : va_W), post2 v2 w2 → ∃ (W2 : va_W) (r2 : Int32), mrg W1 is2 w2 = W2 ∧ v2 = some (.int r2) ∧ Both E hM o k pm po r2 W2 ∧ Ω (j + 1) W2 (lv0 b hB hM o i) [] 2187) : Ω j W (lv0 b hB hM o i) [] 938 := by
  subst hv1 hv2 hv3
  have C := hL.1 j (by omega)
  have C9 := hL.1 (j + 1) (by omega)
  refine r_aload_n C (i := 1) 1 dL_law_938 rfl rfl ?_
  refine r_aload_n C (i := 0) 0 dL_law_939 rfl rfl ?_
  refine r_iload C (i := 4) 4 dL_law_940 rfl ?_
  refine r_iconst C dL_law_942 ki_1 ?_
  refine r_iadd (v := nI (i + 1)) C dL_law_943 (nI_add _ _) ?_
  refine hL.2.2.1 _ _ _ _ _ _ (by omega) dL_law_944 ?_
  refine r_aload_n C (i := 0) 0 dL_law_945 rfl rfl ?_
  refine r_iload C (i := 4) 4 dL_law_946 rfl ?_
  refine r_iconst C dL_law_948 ki_2 ?_
  refine r_iadd (v := nI (i + 2)) C dL_law_949 (nI_add _ _) ?_
  refine hL.2.2.1 _ _ _ _ _ _ (by omega) dL_law_950 ?_
  refine r_aload_n C (i := 0) 0 dL_law_951 rfl rfl ?_
  refine r_iload C (i := 4) 4 dL_law_952 rfl ?_
  refine r_iconst C dL_law_954 ki_3 ?_
  refine r_iadd (v := nI (i + 3)) C dL_law_955 (nI_add _ _) ?_
  refine hL.2.2.1 _ _ _ _ _ _ (by omega) dL_law_956 ?_
  refine r_aload_n C (i := 3) 3 dL_law_957 rfl rfl ?_
  refine hL.2.2.2.2.1 j _ _ _ [] _ _ _ _ _ _ _ _ _ _ _ _ _ hj hx lk_L_cast w_4_86 dL_law_958 rfl hC1 hn1 ⟨by decide, by decide⟩ (Nat.le_of_ble_eq_true rfl) (fun v w hp => ?_)
  obtain ⟨W1, k, wm, fs, post2, is2, rfl, hk4, rfl, hm, hr, hC2, hn2, hf2⟩ := hf v w hp
  show Ω (j + 1) _ [(0, .ref b), (1, .ref hB), (2, .ref hM), (3, .ref o), (4, .int (nI i))] [.int (nI k)] 961
  refine r_istore C9 (lv' := [(5, .int (nI k)), (0, .ref b), (1, .ref hB), (2, .ref hM), (3, .ref o), (4, .int (nI i))]) dL_law_961 (by decide) rfl ?_
  refine r_aload_n C9 (i := 2) 3 dL_law_963 rfl rfl ?_
  refine r_aload_n C9 (i := 0) 1 dL_law_964 rfl rfl ?_
  refine r_iload C9 (i := 4) 5 dL_law_965 rfl ?_
  refine r_iconst C9 dL_law_967 ki_1 ?_
  refine r_iadd (v := nI (i + 1)) C9 dL_law_968 (nI_add _ _) ?_
  refine hL.2.2.1 _ _ _ _ _ _ (by omega) dL_law_969 ?_
  refine r_aload_n C9 (i := 0) 1 dL_law_970 rfl rfl ?_
  refine r_iload C9 (i := 4) 5 dL_law_971 rfl ?_
  refine r_iconst C9 dL_law_973 ki_2 ?_
  refine r_iadd (v := nI (i + 2)) C9 dL_law_974 (nI_add _ _) ?_
  refine hL.2.2.1 _ _ _ _ _ _ (by omega) dL_law_975 ?_
  refine r_aload_n C9 (i := 0) 1 dL_law_976 rfl rfl ?_
  refine r_iload C9 (i := 4) 5 dL_law_977 rfl ?_
  refine r_iconst C9 dL_law_979 ki_3 ?_
  refine r_iadd (v := nI (i + 3)) C9 dL_law_980 (nI_add _ _) ?_
  refine hL.2.2.1 _ _ _ _ _ _ (by omega) dL_law_981 ?_
  refine r_callV (rest := []) C9 hm lk_X6_cast w_6_62 is2 (ci := 6) rfl dL_law_982 rfl hC2 hn2 hr ⟨by decide, by decide⟩ (Nat.le_of_ble_eq_true rfl) (fun v2 w2 hp2 => ?_)
  obtain ⟨W2, r2, rfl, rfl, ⟨⟨qm, hpm, hqm⟩, hout⟩, hgo⟩ := hf2 v2 w2 hp2
  obtain ⟨x1, sz, x3, x4, x5, ac, x7, x8, x9, x10, x11, sp, ou, rfl⟩ := hqm
  show Ω (j + 1) _ [(5, .int (nI k)), (0, .ref b), (1, .ref hB), (2, .ref hM), (3, .ref o), (4, .int (nI i))] [.int r2] 985
  refine r_istore C9 (lv' := [(6, .int r2), (5, .int (nI k)), (0, .ref b), (1, .ref hB), (2, .ref hM), (3, .ref o), (4, .int (nI i))]) dL_law_985 (by decide) rfl ?_
  refine r_aload_n C9 (i := 2) 4 dL_law_987 rfl rfl ?_
  refine r_readV (rest := []) C9 (c_X6_thrown (hM := hM) (rf := k) (x1 := x1) (sz := sz) (x3 := x3) (x4 := x4) (x5 := x5) (ac := ac) (x7 := x7) (x8 := x8) (x9 := x9) (x10 := x10) (x11 := x11) (sp := sp) (ou := ou)) lk_X6_thrown w_5_104 [pm] (ci := 6) rfl dL_law_988 rfl (by rw [List.map_cons, hpm]; rfl) rfl rfl ⟨by decide, by decide⟩ (Nat.le_of_ble_eq_true rfl) (st' := [.int (nI k)]) rfl ?_
  refine r_iload C9 (i := 5) 1 dL_law_991 rfl ?_
  refine r_icmp_eqT C9 998 dL_law_993 (by decide) rfl ?_
  refine r_iload C9 (i := 5) 1 dL_law_998 rfl ?_
  by_cases hk : k = 0
  · subst hk
    obtain ⟨g2, hpo, hg2⟩ := hout rfl
    refine r_if_neF C9 (y := 0) (tgt := 1015) dL_law_1000 (by decide) (fun z => z rfl) ?_
    refine r_aload_n C9 (i := 3) 5 dL_law_1003 rfl rfl ?_
    refine r_iconst C9 dL_law_1004 ki_0 ?_
    refine r_lald (v := r2.toInt64) C9 po hpo (by decide) (by decide) hg2 dL_law_1005 ?_
    refine r_iload C9 (i := 6) 0 dL_law_1006 rfl ?_
    refine r_i2l (v := (r2).toInt64) C9 dL_law_1008 rfl ?_
    refine r_lcmp C9 dL_law_1009 rfl ?_
    refine r_if_eqT C9 (y := 0) 1015 dL_law_1010 (by decide) ((lg_cmp_eq _ _).mpr rfl) ?_
    refine r_goto C9 2187 dL_law_1015 (by decide) ?_
    exact r_lv (lv' := (lv0 b hB hM o i)) C9 [2, 3, 4, 5, 6] rfl hgo
  · refine r_if_neT C9 (y := 0) 1015 dL_law_1000 (by decide) ((z_neN (by omega)).mpr hk) ?_
    refine r_goto C9 2187 dL_law_1015 (by decide) ?_
    exact r_lv (lv' := (lv0 b hB hM o i)) C9 [2, 3, 4, 5, 6] rfl hgo
set_option maxRecDepth 100000 in
theorem lc_understudy {l : Launch} {E : Ev} {b L : Nat} {xs : Nat → Int32} {c0 s0 : Nat} {Ω : Nat → Om} (hL : Lw l E b L xs c0 s0 Ω) {j i : Nat} (hj : j < 512) (hi : i + 5 ≤ L) (hL2 : L ≤ 2560) {hB hM o : Nat} {W : va_W} {v1 : Int32} (hv1 : (xs (i + 1)) = v1) {v2 : Int32} (hv2 : (xs (i + 2)) = v2) {pm po : Nat} {wc1 : va_W} {is1 : List Nat} {post1 : Option Value → va_W → Prop} (hx : CtX l E yL_understudy method_16_code 5 (some FieldType.int) [(0, 10, 13, 28), (0, 10, 17, 15)] 8 133 [.ref hB, .int v1, .int v2, .ref o] wc1 post1) (hC1 : is1.map (fun i => W[i]?) = wc1.map some) (hn1 : va_nd is1 = true)
    (hf : ∀ (v : Option Value) (w : va_W), post1 v w → ∃ (W1 : va_W) (k : Nat) (wm : va_W) (fs : List Value) (post2 : Option Value → va_W → Prop) (is2 : List Nat), mrg W is1 w = W1 ∧ k < 4 ∧ v = some (.int (nI k)) ∧ Ct l E yX6_understudy cX6_understudy 3 (some FieldType.int) 3 68 [.ref hM, .int v1, .int v2] wm post2 ∧ wm[0]? = some (hM, .inr (6, fs)) ∧ is2.map (fun i => W1[i]?) = wm.map some ∧ va_nd is2 = true ∧ ∀ (v2 : Option Value) (w2 : va_W), post2 v2 w2 → ∃ (W2 : va_W) (r2 : Int32), mrg W1 is2 w2 = W2 ∧ v2 = some (.int r2) ∧ Both E hM o k pm po r2 W2 ∧ Ω (j + 1) W2 (lv0 b hB hM o i) [] 2187) : Ω j W (lv0 b hB hM o i) [] 1018 := by
  subst hv1 hv2
  have C := hL.1 j (by omega)
  have C9 := hL.1 (j + 1) (by omega)
  refine r_aload_n C (i := 1) 1 dL_law_1018 rfl rfl ?_
  refine r_aload_n C (i := 0) 0 dL_law_1019 rfl rfl ?_
  refine r_iload C (i := 4) 4 dL_law_1020 rfl ?_
  refine r_iconst C dL_law_1022 ki_1 ?_
  refine r_iadd (v := nI (i + 1)) C dL_law_1023 (nI_add _ _) ?_
  refine hL.2.2.1 _ _ _ _ _ _ (by omega) dL_law_1024 ?_
  refine r_aload_n C (i := 0) 0 dL_law_1025 rfl rfl ?_
  refine r_iload C (i := 4) 4 dL_law_1026 rfl ?_
  refine r_iconst C dL_law_1028 ki_2 ?_
  refine r_iadd (v := nI (i + 2)) C dL_law_1029 (nI_add _ _) ?_
  refine hL.2.2.1 _ _ _ _ _ _ (by omega) dL_law_1030 ?_
  refine r_aload_n C (i := 3) 3 dL_law_1031 rfl rfl ?_
  refine hL.2.2.2.2.1 j _ _ _ [] _ _ _ _ _ _ _ _ _ _ _ _ _ hj hx lk_L_understudy w_4_95 dL_law_1032 rfl hC1 hn1 ⟨by decide, by decide⟩ (Nat.le_of_ble_eq_true rfl) (fun v w hp => ?_)
  obtain ⟨W1, k, wm, fs, post2, is2, rfl, hk4, rfl, hm, hr, hC2, hn2, hf2⟩ := hf v w hp
  show Ω (j + 1) _ [(0, .ref b), (1, .ref hB), (2, .ref hM), (3, .ref o), (4, .int (nI i))] [.int (nI k)] 1035
  refine r_istore C9 (lv' := [(5, .int (nI k)), (0, .ref b), (1, .ref hB), (2, .ref hM), (3, .ref o), (4, .int (nI i))]) dL_law_1035 (by decide) rfl ?_
  refine r_aload_n C9 (i := 2) 3 dL_law_1037 rfl rfl ?_
  refine r_aload_n C9 (i := 0) 1 dL_law_1038 rfl rfl ?_
  refine r_iload C9 (i := 4) 5 dL_law_1039 rfl ?_
  refine r_iconst C9 dL_law_1041 ki_1 ?_
  refine r_iadd (v := nI (i + 1)) C9 dL_law_1042 (nI_add _ _) ?_
  refine hL.2.2.1 _ _ _ _ _ _ (by omega) dL_law_1043 ?_
  refine r_aload_n C9 (i := 0) 1 dL_law_1044 rfl rfl ?_
  refine r_iload C9 (i := 4) 5 dL_law_1045 rfl ?_
  refine r_iconst C9 dL_law_1047 ki_2 ?_
  refine r_iadd (v := nI (i + 2)) C9 dL_law_1048 (nI_add _ _) ?_
  refine hL.2.2.1 _ _ _ _ _ _ (by omega) dL_law_1049 ?_
  refine r_callV (rest := []) C9 hm lk_X6_understudy w_6_66 is2 (ci := 6) rfl dL_law_1050 rfl hC2 hn2 hr ⟨by decide, by decide⟩ (Nat.le_of_ble_eq_true rfl) (fun v2 w2 hp2 => ?_)
  obtain ⟨W2, r2, rfl, rfl, ⟨⟨qm, hpm, hqm⟩, hout⟩, hgo⟩ := hf2 v2 w2 hp2
  obtain ⟨x1, sz, x3, x4, x5, ac, x7, x8, x9, x10, x11, sp, ou, rfl⟩ := hqm
  show Ω (j + 1) _ [(5, .int (nI k)), (0, .ref b), (1, .ref hB), (2, .ref hM), (3, .ref o), (4, .int (nI i))] [.int r2] 1053
  refine r_istore C9 (lv' := [(6, .int r2), (5, .int (nI k)), (0, .ref b), (1, .ref hB), (2, .ref hM), (3, .ref o), (4, .int (nI i))]) dL_law_1053 (by decide) rfl ?_
  refine r_aload_n C9 (i := 2) 4 dL_law_1055 rfl rfl ?_
  refine r_readV (rest := []) C9 (c_X6_thrown (hM := hM) (rf := k) (x1 := x1) (sz := sz) (x3 := x3) (x4 := x4) (x5 := x5) (ac := ac) (x7 := x7) (x8 := x8) (x9 := x9) (x10 := x10) (x11 := x11) (sp := sp) (ou := ou)) lk_X6_thrown w_5_104 [pm] (ci := 6) rfl dL_law_1056 rfl (by rw [List.map_cons, hpm]; rfl) rfl rfl ⟨by decide, by decide⟩ (Nat.le_of_ble_eq_true rfl) (st' := [.int (nI k)]) rfl ?_
  refine r_iload C9 (i := 5) 1 dL_law_1059 rfl ?_
  refine r_icmp_eqT C9 1066 dL_law_1061 (by decide) rfl ?_
  refine r_iload C9 (i := 5) 1 dL_law_1066 rfl ?_
  by_cases hk : k = 0
  · subst hk
    obtain ⟨g2, hpo, hg2⟩ := hout rfl
    refine r_if_neF C9 (y := 0) (tgt := 1083) dL_law_1068 (by decide) (fun z => z rfl) ?_
    refine r_aload_n C9 (i := 3) 5 dL_law_1071 rfl rfl ?_
    refine r_iconst C9 dL_law_1072 ki_0 ?_
    refine r_lald (v := r2.toInt64) C9 po hpo (by decide) (by decide) hg2 dL_law_1073 ?_
    refine r_iload C9 (i := 6) 0 dL_law_1074 rfl ?_
    refine r_i2l (v := (r2).toInt64) C9 dL_law_1076 rfl ?_
    refine r_lcmp C9 dL_law_1077 rfl ?_
    refine r_if_eqT C9 (y := 0) 1083 dL_law_1078 (by decide) ((lg_cmp_eq _ _).mpr rfl) ?_
    refine r_goto C9 2187 dL_law_1083 (by decide) ?_
    exact r_lv (lv' := (lv0 b hB hM o i)) C9 [2, 3, 4, 5, 6] rfl hgo
  · refine r_if_neT C9 (y := 0) 1083 dL_law_1068 (by decide) ((z_neN (by omega)).mpr hk) ?_
    refine r_goto C9 2187 dL_law_1083 (by decide) ?_
    exact r_lv (lv' := (lv0 b hB hM o i)) C9 [2, 3, 4, 5, 6] rfl hgo
set_option maxRecDepth 100000 in
theorem lc_release {l : Launch} {E : Ev} {b L : Nat} {xs : Nat → Int32} {c0 s0 : Nat} {Ω : Nat → Om} (hL : Lw l E b L xs c0 s0 Ω) {j i : Nat} (hj : j < 512) (hi : i + 5 ≤ L) (hL2 : L ≤ 2560) {hB hM o : Nat} {W : va_W} {v1 : Int32} (hv1 : (xs (i + 1)) = v1) {v2 : Int32} (hv2 : (xs (i + 2)) = v2) {pm po : Nat} {wc1 : va_W} {is1 : List Nat} {post1 : Option Value → va_W → Prop} (hx : CtX l E yL_release method_17_code 5 (some FieldType.int) [(0, 10, 13, 28), (0, 10, 17, 15)] 8 134 [.ref hB, .int v1, .int v2, .ref o] wc1 post1) (hC1 : is1.map (fun i => W[i]?) = wc1.map some) (hn1 : va_nd is1 = true)
    (hf : ∀ (v : Option Value) (w : va_W), post1 v w → ∃ (W1 : va_W) (k : Nat) (wm : va_W) (fs : List Value) (post2 : Option Value → va_W → Prop) (is2 : List Nat), mrg W is1 w = W1 ∧ k < 4 ∧ v = some (.int (nI k)) ∧ Ct l E yX6_release cX6_release 3 (some FieldType.int) 2 47 [.ref hM, .int v1, .int v2] wm post2 ∧ wm[0]? = some (hM, .inr (6, fs)) ∧ is2.map (fun i => W1[i]?) = wm.map some ∧ va_nd is2 = true ∧ ∀ (v2 : Option Value) (w2 : va_W), post2 v2 w2 → ∃ (W2 : va_W) (r2 : Int32), mrg W1 is2 w2 = W2 ∧ v2 = some (.int r2) ∧ Both E hM o k pm po r2 W2 ∧ Ω (j + 1) W2 (lv0 b hB hM o i) [] 2187) : Ω j W (lv0 b hB hM o i) [] 1086 := by
  subst hv1 hv2
  have C := hL.1 j (by omega)
  have C9 := hL.1 (j + 1) (by omega)
  refine r_aload_n C (i := 1) 1 dL_law_1086 rfl rfl ?_
  refine r_aload_n C (i := 0) 0 dL_law_1087 rfl rfl ?_
  refine r_iload C (i := 4) 4 dL_law_1088 rfl ?_
  refine r_iconst C dL_law_1090 ki_1 ?_
  refine r_iadd (v := nI (i + 1)) C dL_law_1091 (nI_add _ _) ?_
  refine hL.2.2.1 _ _ _ _ _ _ (by omega) dL_law_1092 ?_
  refine r_aload_n C (i := 0) 0 dL_law_1093 rfl rfl ?_
  refine r_iload C (i := 4) 4 dL_law_1094 rfl ?_
  refine r_iconst C dL_law_1096 ki_2 ?_
  refine r_iadd (v := nI (i + 2)) C dL_law_1097 (nI_add _ _) ?_
  refine hL.2.2.1 _ _ _ _ _ _ (by omega) dL_law_1098 ?_
  refine r_aload_n C (i := 3) 3 dL_law_1099 rfl rfl ?_
  refine hL.2.2.2.2.1 j _ _ _ [] _ _ _ _ _ _ _ _ _ _ _ _ _ hj hx lk_L_release w_4_105 dL_law_1100 rfl hC1 hn1 ⟨by decide, by decide⟩ (Nat.le_of_ble_eq_true rfl) (fun v w hp => ?_)
  obtain ⟨W1, k, wm, fs, post2, is2, rfl, hk4, rfl, hm, hr, hC2, hn2, hf2⟩ := hf v w hp
  show Ω (j + 1) _ [(0, .ref b), (1, .ref hB), (2, .ref hM), (3, .ref o), (4, .int (nI i))] [.int (nI k)] 1103
  refine r_istore C9 (lv' := [(5, .int (nI k)), (0, .ref b), (1, .ref hB), (2, .ref hM), (3, .ref o), (4, .int (nI i))]) dL_law_1103 (by decide) rfl ?_
  refine r_aload_n C9 (i := 2) 3 dL_law_1105 rfl rfl ?_
  refine r_aload_n C9 (i := 0) 1 dL_law_1106 rfl rfl ?_
  refine r_iload C9 (i := 4) 5 dL_law_1107 rfl ?_
  refine r_iconst C9 dL_law_1109 ki_1 ?_
  refine r_iadd (v := nI (i + 1)) C9 dL_law_1110 (nI_add _ _) ?_
  refine hL.2.2.1 _ _ _ _ _ _ (by omega) dL_law_1111 ?_
  refine r_aload_n C9 (i := 0) 1 dL_law_1112 rfl rfl ?_
  refine r_iload C9 (i := 4) 5 dL_law_1113 rfl ?_
  refine r_iconst C9 dL_law_1115 ki_2 ?_
  refine r_iadd (v := nI (i + 2)) C9 dL_law_1116 (nI_add _ _) ?_
  refine hL.2.2.1 _ _ _ _ _ _ (by omega) dL_law_1117 ?_
  refine r_callV (rest := []) C9 hm lk_X6_release w_6_70 is2 (ci := 6) rfl dL_law_1118 rfl hC2 hn2 hr ⟨by decide, by decide⟩ (Nat.le_of_ble_eq_true rfl) (fun v2 w2 hp2 => ?_)
  obtain ⟨W2, r2, rfl, rfl, ⟨⟨qm, hpm, hqm⟩, hout⟩, hgo⟩ := hf2 v2 w2 hp2
  obtain ⟨x1, sz, x3, x4, x5, ac, x7, x8, x9, x10, x11, sp, ou, rfl⟩ := hqm
  show Ω (j + 1) _ [(5, .int (nI k)), (0, .ref b), (1, .ref hB), (2, .ref hM), (3, .ref o), (4, .int (nI i))] [.int r2] 1121
  refine r_istore C9 (lv' := [(6, .int r2), (5, .int (nI k)), (0, .ref b), (1, .ref hB), (2, .ref hM), (3, .ref o), (4, .int (nI i))]) dL_law_1121 (by decide) rfl ?_
  refine r_aload_n C9 (i := 2) 4 dL_law_1123 rfl rfl ?_
  refine r_readV (rest := []) C9 (c_X6_thrown (hM := hM) (rf := k) (x1 := x1) (sz := sz) (x3 := x3) (x4 := x4) (x5 := x5) (ac := ac) (x7 := x7) (x8 := x8) (x9 := x9) (x10 := x10) (x11 := x11) (sp := sp) (ou := ou)) lk_X6_thrown w_5_104 [pm] (ci := 6) rfl dL_law_1124 rfl (by rw [List.map_cons, hpm]; rfl) rfl rfl ⟨by decide, by decide⟩ (Nat.le_of_ble_eq_true rfl) (st' := [.int (nI k)]) rfl ?_
  refine r_iload C9 (i := 5) 1 dL_law_1127 rfl ?_
  refine r_icmp_eqT C9 1134 dL_law_1129 (by decide) rfl ?_
  refine r_iload C9 (i := 5) 1 dL_law_1134 rfl ?_
  by_cases hk : k = 0
  · subst hk
    obtain ⟨g2, hpo, hg2⟩ := hout rfl
    refine r_if_neF C9 (y := 0) (tgt := 1151) dL_law_1136 (by decide) (fun z => z rfl) ?_
    refine r_aload_n C9 (i := 3) 5 dL_law_1139 rfl rfl ?_
    refine r_iconst C9 dL_law_1140 ki_0 ?_
    refine r_lald (v := r2.toInt64) C9 po hpo (by decide) (by decide) hg2 dL_law_1141 ?_
    refine r_iload C9 (i := 6) 0 dL_law_1142 rfl ?_
    refine r_i2l (v := (r2).toInt64) C9 dL_law_1144 rfl ?_
    refine r_lcmp C9 dL_law_1145 rfl ?_
    refine r_if_eqT C9 (y := 0) 1151 dL_law_1146 (by decide) ((lg_cmp_eq _ _).mpr rfl) ?_
    refine r_goto C9 2187 dL_law_1151 (by decide) ?_
    exact r_lv (lv' := (lv0 b hB hM o i)) C9 [2, 3, 4, 5, 6] rfl hgo
  · refine r_if_neT C9 (y := 0) 1151 dL_law_1136 (by decide) ((z_neN (by omega)).mpr hk) ?_
    refine r_goto C9 2187 dL_law_1151 (by decide) ?_
    exact r_lv (lv' := (lv0 b hB hM o i)) C9 [2, 3, 4, 5, 6] rfl hgo
set_option maxRecDepth 100000 in
theorem lc_ill0 {l : Launch} {E : Ev} {b L : Nat} {xs : Nat → Int32} {c0 s0 : Nat} {Ω : Nat → Om} (hL : Lw l E b L xs c0 s0 Ω) {j i : Nat} (hj : j < 512) (hi : i + 5 ≤ L) (hL2 : L ≤ 2560) {hB hM o : Nat} {W : va_W} (hz : xs (i + 3) = 0) {v1 : Int32} (hv1 : (xs (i + 1)) = v1) {v2 : Int32} (hv2 : (xs (i + 2)) = v2) {pm po : Nat} {wc1 : va_W} {is1 : List Nat} {post1 : Option Value → va_W → Prop} (hx : CtX l E yL_ill method_18_code 6 (some FieldType.int) [(0, 12, 15, 28)] 8 134 [.ref hB, .int v1, .int v2, .int (nI 0), .ref o] wc1 post1) (hC1 : is1.map (fun i => W[i]?) = wc1.map some) (hn1 : va_nd is1 = true)
    (hf : ∀ (v : Option Value) (w : va_W), post1 v w → ∃ (W1 : va_W) (k : Nat) (wm : va_W) (fs : List Value) (post2 : Option Value → va_W → Prop) (is2 : List Nat), mrg W is1 w = W1 ∧ k < 4 ∧ v = some (.int (nI k)) ∧ Ct l E yX6_ill cX6_ill 4 (some FieldType.int) 2 46 [.ref hM, .int v1, .int v2, .int (nI 0)] wm post2 ∧ wm[0]? = some (hM, .inr (6, fs)) ∧ is2.map (fun i => W1[i]?) = wm.map some ∧ va_nd is2 = true ∧ ∀ (v2 : Option Value) (w2 : va_W), post2 v2 w2 → ∃ (W2 : va_W) (r2 : Int32), mrg W1 is2 w2 = W2 ∧ v2 = some (.int r2) ∧ Both E hM o k pm po r2 W2 ∧ Ω (j + 1) W2 (lv0 b hB hM o i) [] 2187) : Ω j W (lv0 b hB hM o i) [] 1154 := by
  subst hv1 hv2
  have C := hL.1 j (by omega)
  have C9 := hL.1 (j + 1) (by omega)
  refine r_aload_n C (i := 1) 1 dL_law_1154 rfl rfl ?_
  refine r_aload_n C (i := 0) 0 dL_law_1155 rfl rfl ?_
  refine r_iload C (i := 4) 4 dL_law_1156 rfl ?_
  refine r_iconst C dL_law_1158 ki_1 ?_
  refine r_iadd (v := nI (i + 1)) C dL_law_1159 (nI_add _ _) ?_
  refine hL.2.2.1 _ _ _ _ _ _ (by omega) dL_law_1160 ?_
  refine r_aload_n C (i := 0) 0 dL_law_1161 rfl rfl ?_
  refine r_iload C (i := 4) 4 dL_law_1162 rfl ?_
  refine r_iconst C dL_law_1164 ki_2 ?_
  refine r_iadd (v := nI (i + 2)) C dL_law_1165 (nI_add _ _) ?_
  refine hL.2.2.1 _ _ _ _ _ _ (by omega) dL_law_1166 ?_
  refine r_aload_n C (i := 0) 0 dL_law_1167 rfl rfl ?_
  refine r_iload C (i := 4) 4 dL_law_1168 rfl ?_
  refine r_iconst C dL_law_1170 ki_3 ?_
  refine r_iadd (v := nI (i + 3)) C dL_law_1171 (nI_add _ _) ?_
  refine hL.2.2.1 _ _ _ _ _ _ (by omega) dL_law_1172 ?_
  refine r_if_eqT C (y := 0) 1180 dL_law_1173 (by decide) hz ?_
  refine r_iconst C dL_law_1180 ki_0 ?_
  refine r_aload_n C (i := 3) 3 dL_law_1181 rfl rfl ?_
  refine hL.2.2.2.2.1 j _ _ _ [] _ _ _ _ _ _ _ _ _ _ _ _ _ hj hx lk_L_ill w_4_118 dL_law_1182 rfl hC1 hn1 ⟨by decide, by decide⟩ (Nat.le_of_ble_eq_true rfl) (fun v w hp => ?_)
  obtain ⟨W1, k, wm, fs, post2, is2, rfl, hk4, rfl, hm, hr, hC2, hn2, hf2⟩ := hf v w hp
  show Ω (j + 1) _ [(0, .ref b), (1, .ref hB), (2, .ref hM), (3, .ref o), (4, .int (nI i))] [.int (nI k)] 1185
  refine r_istore C9 (lv' := [(5, .int (nI k)), (0, .ref b), (1, .ref hB), (2, .ref hM), (3, .ref o), (4, .int (nI i))]) dL_law_1185 (by decide) rfl ?_
  refine r_aload_n C9 (i := 2) 3 dL_law_1187 rfl rfl ?_
  refine r_aload_n C9 (i := 0) 1 dL_law_1188 rfl rfl ?_
  refine r_iload C9 (i := 4) 5 dL_law_1189 rfl ?_
  refine r_iconst C9 dL_law_1191 ki_1 ?_
  refine r_iadd (v := nI (i + 1)) C9 dL_law_1192 (nI_add _ _) ?_
  refine hL.2.2.1 _ _ _ _ _ _ (by omega) dL_law_1193 ?_
  refine r_aload_n C9 (i := 0) 1 dL_law_1194 rfl rfl ?_
  refine r_iload C9 (i := 4) 5 dL_law_1195 rfl ?_
  refine r_iconst C9 dL_law_1197 ki_2 ?_
  refine r_iadd (v := nI (i + 2)) C9 dL_law_1198 (nI_add _ _) ?_
  refine hL.2.2.1 _ _ _ _ _ _ (by omega) dL_law_1199 ?_
  refine r_aload_n C9 (i := 0) 1 dL_law_1200 rfl rfl ?_
  refine r_iload C9 (i := 4) 5 dL_law_1201 rfl ?_
  refine r_iconst C9 dL_law_1203 ki_3 ?_
  refine r_iadd (v := nI (i + 3)) C9 dL_law_1204 (nI_add _ _) ?_
  refine hL.2.2.1 _ _ _ _ _ _ (by omega) dL_law_1205 ?_
  refine r_if_eqT C9 (y := 0) 1213 dL_law_1206 (by decide) hz ?_
  refine r_iconst C9 dL_law_1213 ki_0 ?_
  refine r_callV (rest := []) C9 hm lk_X6_ill w_6_77 is2 (ci := 6) rfl dL_law_1214 rfl hC2 hn2 hr ⟨by decide, by decide⟩ (Nat.le_of_ble_eq_true rfl) (fun v2 w2 hp2 => ?_)
  obtain ⟨W2, r2, rfl, rfl, ⟨⟨qm, hpm, hqm⟩, hout⟩, hgo⟩ := hf2 v2 w2 hp2
  obtain ⟨x1, sz, x3, x4, x5, ac, x7, x8, x9, x10, x11, sp, ou, rfl⟩ := hqm
  show Ω (j + 1) _ [(5, .int (nI k)), (0, .ref b), (1, .ref hB), (2, .ref hM), (3, .ref o), (4, .int (nI i))] [.int r2] 1217
  refine r_istore C9 (lv' := [(6, .int r2), (5, .int (nI k)), (0, .ref b), (1, .ref hB), (2, .ref hM), (3, .ref o), (4, .int (nI i))]) dL_law_1217 (by decide) rfl ?_
  refine r_aload_n C9 (i := 2) 4 dL_law_1219 rfl rfl ?_
  refine r_readV (rest := []) C9 (c_X6_thrown (hM := hM) (rf := k) (x1 := x1) (sz := sz) (x3 := x3) (x4 := x4) (x5 := x5) (ac := ac) (x7 := x7) (x8 := x8) (x9 := x9) (x10 := x10) (x11 := x11) (sp := sp) (ou := ou)) lk_X6_thrown w_5_104 [pm] (ci := 6) rfl dL_law_1220 rfl (by rw [List.map_cons, hpm]; rfl) rfl rfl ⟨by decide, by decide⟩ (Nat.le_of_ble_eq_true rfl) (st' := [.int (nI k)]) rfl ?_
  refine r_iload C9 (i := 5) 1 dL_law_1223 rfl ?_
  refine r_icmp_eqT C9 1230 dL_law_1225 (by decide) rfl ?_
  refine r_iload C9 (i := 5) 1 dL_law_1230 rfl ?_
  by_cases hk : k = 0
  · subst hk
    obtain ⟨g2, hpo, hg2⟩ := hout rfl
    refine r_if_neF C9 (y := 0) (tgt := 1247) dL_law_1232 (by decide) (fun z => z rfl) ?_
    refine r_aload_n C9 (i := 3) 5 dL_law_1235 rfl rfl ?_
    refine r_iconst C9 dL_law_1236 ki_0 ?_
    refine r_lald (v := r2.toInt64) C9 po hpo (by decide) (by decide) hg2 dL_law_1237 ?_
    refine r_iload C9 (i := 6) 0 dL_law_1238 rfl ?_
    refine r_i2l (v := (r2).toInt64) C9 dL_law_1240 rfl ?_
    refine r_lcmp C9 dL_law_1241 rfl ?_
    refine r_if_eqT C9 (y := 0) 1247 dL_law_1242 (by decide) ((lg_cmp_eq _ _).mpr rfl) ?_
    refine r_goto C9 2187 dL_law_1247 (by decide) ?_
    exact r_lv (lv' := (lv0 b hB hM o i)) C9 [2, 3, 4, 5, 6] rfl hgo
  · refine r_if_neT C9 (y := 0) 1247 dL_law_1232 (by decide) ((z_neN (by omega)).mpr hk) ?_
    refine r_goto C9 2187 dL_law_1247 (by decide) ?_
    exact r_lv (lv' := (lv0 b hB hM o i)) C9 [2, 3, 4, 5, 6] rfl hgo
set_option maxRecDepth 100000 in
theorem lc_ill1 {l : Launch} {E : Ev} {b L : Nat} {xs : Nat → Int32} {c0 s0 : Nat} {Ω : Nat → Om} (hL : Lw l E b L xs c0 s0 Ω) {j i : Nat} (hj : j < 512) (hi : i + 5 ≤ L) (hL2 : L ≤ 2560) {hB hM o : Nat} {W : va_W} (hz : ¬ xs (i + 3) = 0) {v1 : Int32} (hv1 : (xs (i + 1)) = v1) {v2 : Int32} (hv2 : (xs (i + 2)) = v2) {pm po : Nat} {wc1 : va_W} {is1 : List Nat} {post1 : Option Value → va_W → Prop} (hx : CtX l E yL_ill method_18_code 6 (some FieldType.int) [(0, 12, 15, 28)] 8 134 [.ref hB, .int v1, .int v2, .int (nI 1), .ref o] wc1 post1) (hC1 : is1.map (fun i => W[i]?) = wc1.map some) (hn1 : va_nd is1 = true)
    (hf : ∀ (v : Option Value) (w : va_W), post1 v w → ∃ (W1 : va_W) (k : Nat) (wm : va_W) (fs : List Value) (post2 : Option Value → va_W → Prop) (is2 : List Nat), mrg W is1 w = W1 ∧ k < 4 ∧ v = some (.int (nI k)) ∧ Ct l E yX6_ill cX6_ill 4 (some FieldType.int) 2 46 [.ref hM, .int v1, .int v2, .int (nI 1)] wm post2 ∧ wm[0]? = some (hM, .inr (6, fs)) ∧ is2.map (fun i => W1[i]?) = wm.map some ∧ va_nd is2 = true ∧ ∀ (v2 : Option Value) (w2 : va_W), post2 v2 w2 → ∃ (W2 : va_W) (r2 : Int32), mrg W1 is2 w2 = W2 ∧ v2 = some (.int r2) ∧ Both E hM o k pm po r2 W2 ∧ Ω (j + 1) W2 (lv0 b hB hM o i) [] 2187) : Ω j W (lv0 b hB hM o i) [] 1154 := by
  subst hv1 hv2
  have C := hL.1 j (by omega)
  have C9 := hL.1 (j + 1) (by omega)
  refine r_aload_n C (i := 1) 1 dL_law_1154 rfl rfl ?_
  refine r_aload_n C (i := 0) 0 dL_law_1155 rfl rfl ?_
  refine r_iload C (i := 4) 4 dL_law_1156 rfl ?_
  refine r_iconst C dL_law_1158 ki_1 ?_
  refine r_iadd (v := nI (i + 1)) C dL_law_1159 (nI_add _ _) ?_
  refine hL.2.2.1 _ _ _ _ _ _ (by omega) dL_law_1160 ?_
  refine r_aload_n C (i := 0) 0 dL_law_1161 rfl rfl ?_
  refine r_iload C (i := 4) 4 dL_law_1162 rfl ?_
  refine r_iconst C dL_law_1164 ki_2 ?_
  refine r_iadd (v := nI (i + 2)) C dL_law_1165 (nI_add _ _) ?_
  refine hL.2.2.1 _ _ _ _ _ _ (by omega) dL_law_1166 ?_
  refine r_aload_n C (i := 0) 0 dL_law_1167 rfl rfl ?_
  refine r_iload C (i := 4) 4 dL_law_1168 rfl ?_
  refine r_iconst C dL_law_1170 ki_3 ?_
  refine r_iadd (v := nI (i + 3)) C dL_law_1171 (nI_add _ _) ?_
  refine hL.2.2.1 _ _ _ _ _ _ (by omega) dL_law_1172 ?_
  refine r_if_eqF C (y := 0) (tgt := 1180) dL_law_1173 (by decide) hz ?_
  refine r_iconst C dL_law_1176 ki_1 ?_
  refine r_goto C 1181 dL_law_1177 (by decide) ?_
  refine r_aload_n C (i := 3) 3 dL_law_1181 rfl rfl ?_
  refine hL.2.2.2.2.1 j _ _ _ [] _ _ _ _ _ _ _ _ _ _ _ _ _ hj hx lk_L_ill w_4_118 dL_law_1182 rfl hC1 hn1 ⟨by decide, by decide⟩ (Nat.le_of_ble_eq_true rfl) (fun v w hp => ?_)
  obtain ⟨W1, k, wm, fs, post2, is2, rfl, hk4, rfl, hm, hr, hC2, hn2, hf2⟩ := hf v w hp
  show Ω (j + 1) _ [(0, .ref b), (1, .ref hB), (2, .ref hM), (3, .ref o), (4, .int (nI i))] [.int (nI k)] 1185
  refine r_istore C9 (lv' := [(5, .int (nI k)), (0, .ref b), (1, .ref hB), (2, .ref hM), (3, .ref o), (4, .int (nI i))]) dL_law_1185 (by decide) rfl ?_
  refine r_aload_n C9 (i := 2) 3 dL_law_1187 rfl rfl ?_
  refine r_aload_n C9 (i := 0) 1 dL_law_1188 rfl rfl ?_
  refine r_iload C9 (i := 4) 5 dL_law_1189 rfl ?_
  refine r_iconst C9 dL_law_1191 ki_1 ?_
  refine r_iadd (v := nI (i + 1)) C9 dL_law_1192 (nI_add _ _) ?_
  refine hL.2.2.1 _ _ _ _ _ _ (by omega) dL_law_1193 ?_
  refine r_aload_n C9 (i := 0) 1 dL_law_1194 rfl rfl ?_
  refine r_iload C9 (i := 4) 5 dL_law_1195 rfl ?_
  refine r_iconst C9 dL_law_1197 ki_2 ?_
  refine r_iadd (v := nI (i + 2)) C9 dL_law_1198 (nI_add _ _) ?_
  refine hL.2.2.1 _ _ _ _ _ _ (by omega) dL_law_1199 ?_
  refine r_aload_n C9 (i := 0) 1 dL_law_1200 rfl rfl ?_
  refine r_iload C9 (i := 4) 5 dL_law_1201 rfl ?_
  refine r_iconst C9 dL_law_1203 ki_3 ?_
  refine r_iadd (v := nI (i + 3)) C9 dL_law_1204 (nI_add _ _) ?_
  refine hL.2.2.1 _ _ _ _ _ _ (by omega) dL_law_1205 ?_
  refine r_if_eqF C9 (y := 0) (tgt := 1213) dL_law_1206 (by decide) hz ?_
  refine r_iconst C9 dL_law_1209 ki_1 ?_
  refine r_goto C9 1214 dL_law_1210 (by decide) ?_
  refine r_callV (rest := []) C9 hm lk_X6_ill w_6_77 is2 (ci := 6) rfl dL_law_1214 rfl hC2 hn2 hr ⟨by decide, by decide⟩ (Nat.le_of_ble_eq_true rfl) (fun v2 w2 hp2 => ?_)
  obtain ⟨W2, r2, rfl, rfl, ⟨⟨qm, hpm, hqm⟩, hout⟩, hgo⟩ := hf2 v2 w2 hp2
  obtain ⟨x1, sz, x3, x4, x5, ac, x7, x8, x9, x10, x11, sp, ou, rfl⟩ := hqm
  show Ω (j + 1) _ [(5, .int (nI k)), (0, .ref b), (1, .ref hB), (2, .ref hM), (3, .ref o), (4, .int (nI i))] [.int r2] 1217
  refine r_istore C9 (lv' := [(6, .int r2), (5, .int (nI k)), (0, .ref b), (1, .ref hB), (2, .ref hM), (3, .ref o), (4, .int (nI i))]) dL_law_1217 (by decide) rfl ?_
  refine r_aload_n C9 (i := 2) 4 dL_law_1219 rfl rfl ?_
  refine r_readV (rest := []) C9 (c_X6_thrown (hM := hM) (rf := k) (x1 := x1) (sz := sz) (x3 := x3) (x4 := x4) (x5 := x5) (ac := ac) (x7 := x7) (x8 := x8) (x9 := x9) (x10 := x10) (x11 := x11) (sp := sp) (ou := ou)) lk_X6_thrown w_5_104 [pm] (ci := 6) rfl dL_law_1220 rfl (by rw [List.map_cons, hpm]; rfl) rfl rfl ⟨by decide, by decide⟩ (Nat.le_of_ble_eq_true rfl) (st' := [.int (nI k)]) rfl ?_
  refine r_iload C9 (i := 5) 1 dL_law_1223 rfl ?_
  refine r_icmp_eqT C9 1230 dL_law_1225 (by decide) rfl ?_
  refine r_iload C9 (i := 5) 1 dL_law_1230 rfl ?_
  by_cases hk : k = 0
  · subst hk
    obtain ⟨g2, hpo, hg2⟩ := hout rfl
    refine r_if_neF C9 (y := 0) (tgt := 1247) dL_law_1232 (by decide) (fun z => z rfl) ?_
    refine r_aload_n C9 (i := 3) 5 dL_law_1235 rfl rfl ?_
    refine r_iconst C9 dL_law_1236 ki_0 ?_
    refine r_lald (v := r2.toInt64) C9 po hpo (by decide) (by decide) hg2 dL_law_1237 ?_
    refine r_iload C9 (i := 6) 0 dL_law_1238 rfl ?_
    refine r_i2l (v := (r2).toInt64) C9 dL_law_1240 rfl ?_
    refine r_lcmp C9 dL_law_1241 rfl ?_
    refine r_if_eqT C9 (y := 0) 1247 dL_law_1242 (by decide) ((lg_cmp_eq _ _).mpr rfl) ?_
    refine r_goto C9 2187 dL_law_1247 (by decide) ?_
    exact r_lv (lv' := (lv0 b hB hM o i)) C9 [2, 3, 4, 5, 6] rfl hgo
  · refine r_if_neT C9 (y := 0) 1247 dL_law_1232 (by decide) ((z_neN (by omega)).mpr hk) ?_
    refine r_goto C9 2187 dL_law_1247 (by decide) ?_
    exact r_lv (lv' := (lv0 b hB hM o i)) C9 [2, 3, 4, 5, 6] rfl hgo
set_option maxRecDepth 100000 in
theorem lc_slip {l : Launch} {E : Ev} {b L : Nat} {xs : Nat → Int32} {c0 s0 : Nat} {Ω : Nat → Om} (hL : Lw l E b L xs c0 s0 Ω) {j i : Nat} (hj : j < 512) (hi : i + 5 ≤ L) (hL2 : L ≤ 2560) {hB hM o : Nat} {W : va_W} {v1 : Int32} (hv1 : (xs (i + 1)) = v1) {v2 : Int32} (hv2 : (xs (i + 2)) = v2) {v3 : Int32} (hv3 : (xs (i + 3)) = v3) {v4 : Int32} (hv4 : (xs (i + 4)) = v4) {pm po : Nat} {wc1 : va_W} {is1 : List Nat} {post1 : Option Value → va_W → Prop} (hx : CtX l E yL_slip method_19_code 7 (some FieldType.int) [(0, 14, 17, 28), (0, 14, 21, 13), (0, 14, 25, 15)] 8 136 [.ref hB, .int v1, .int v2, .int v3, .int v4, .ref o] wc1 post1) (hC1 : is1.map (fun i => W[i]?) = wc1.map some) (hn1 : va_nd is1 = true)
    (hf : ∀ (v : Option Value) (w : va_W), post1 v w → ∃ (W1 : va_W) (k : Nat) (wm : va_W) (fs : List Value) (post2 : Option Value → va_W → Prop) (is2 : List Nat), mrg W is1 w = W1 ∧ k < 4 ∧ v = some (.int (nI k)) ∧ Ct l E yX6_slip cX6_slip 5 (some FieldType.int) 3 69 [.ref hM, .int v1, .int v2, .int v3, .int v4] wm post2 ∧ wm[0]? = some (hM, .inr (6, fs)) ∧ is2.map (fun i => W1[i]?) = wm.map some ∧ va_nd is2 = true ∧ ∀ (v2 : Option Value) (w2 : va_W), post2 v2 w2 → ∃ (W2 : va_W) (r2 : Int32), mrg W1 is2 w2 = W2 ∧ v2 = some (.int r2) ∧ Both E hM o k pm po r2 W2 ∧ Ω (j + 1) W2 (lv0 b hB hM o i) [] 2187) : Ω j W (lv0 b hB hM o i) [] 1250 := by
  subst hv1 hv2 hv3 hv4
  have C := hL.1 j (by omega)
  have C9 := hL.1 (j + 1) (by omega)
  refine r_aload_n C (i := 1) 1 dL_law_1250 rfl rfl ?_
  refine r_aload_n C (i := 0) 0 dL_law_1251 rfl rfl ?_
  refine r_iload C (i := 4) 4 dL_law_1252 rfl ?_
  refine r_iconst C dL_law_1254 ki_1 ?_
  refine r_iadd (v := nI (i + 1)) C dL_law_1255 (nI_add _ _) ?_
  refine hL.2.2.1 _ _ _ _ _ _ (by omega) dL_law_1256 ?_
  refine r_aload_n C (i := 0) 0 dL_law_1257 rfl rfl ?_
  refine r_iload C (i := 4) 4 dL_law_1258 rfl ?_
  refine r_iconst C dL_law_1260 ki_2 ?_
  refine r_iadd (v := nI (i + 2)) C dL_law_1261 (nI_add _ _) ?_
  refine hL.2.2.1 _ _ _ _ _ _ (by omega) dL_law_1262 ?_
  refine r_aload_n C (i := 0) 0 dL_law_1263 rfl rfl ?_
  refine r_iload C (i := 4) 4 dL_law_1264 rfl ?_
  refine r_iconst C dL_law_1266 ki_3 ?_
  refine r_iadd (v := nI (i + 3)) C dL_law_1267 (nI_add _ _) ?_
  refine hL.2.2.1 _ _ _ _ _ _ (by omega) dL_law_1268 ?_
  refine r_aload_n C (i := 0) 0 dL_law_1269 rfl rfl ?_
  refine r_iload C (i := 4) 4 dL_law_1270 rfl ?_
  refine r_iconst C dL_law_1272 ki_4 ?_
  refine r_iadd (v := nI (i + 4)) C dL_law_1273 (nI_add _ _) ?_
  refine hL.2.2.1 _ _ _ _ _ _ (by omega) dL_law_1274 ?_
  refine r_aload_n C (i := 3) 3 dL_law_1275 rfl rfl ?_
  refine hL.2.2.2.2.1 j _ _ _ [] _ _ _ _ _ _ _ _ _ _ _ _ _ hj hx lk_L_slip w_4_125 dL_law_1276 rfl hC1 hn1 ⟨by decide, by decide⟩ (Nat.le_of_ble_eq_true rfl) (fun v w hp => ?_)
  obtain ⟨W1, k, wm, fs, post2, is2, rfl, hk4, rfl, hm, hr, hC2, hn2, hf2⟩ := hf v w hp
  show Ω (j + 1) _ [(0, .ref b), (1, .ref hB), (2, .ref hM), (3, .ref o), (4, .int (nI i))] [.int (nI k)] 1279
  refine r_istore C9 (lv' := [(5, .int (nI k)), (0, .ref b), (1, .ref hB), (2, .ref hM), (3, .ref o), (4, .int (nI i))]) dL_law_1279 (by decide) rfl ?_
  refine r_aload_n C9 (i := 2) 3 dL_law_1281 rfl rfl ?_
  refine r_aload_n C9 (i := 0) 1 dL_law_1282 rfl rfl ?_
  refine r_iload C9 (i := 4) 5 dL_law_1283 rfl ?_
  refine r_iconst C9 dL_law_1285 ki_1 ?_
  refine r_iadd (v := nI (i + 1)) C9 dL_law_1286 (nI_add _ _) ?_
  refine hL.2.2.1 _ _ _ _ _ _ (by omega) dL_law_1287 ?_
  refine r_aload_n C9 (i := 0) 1 dL_law_1288 rfl rfl ?_
  refine r_iload C9 (i := 4) 5 dL_law_1289 rfl ?_
  refine r_iconst C9 dL_law_1291 ki_2 ?_
  refine r_iadd (v := nI (i + 2)) C9 dL_law_1292 (nI_add _ _) ?_
  refine hL.2.2.1 _ _ _ _ _ _ (by omega) dL_law_1293 ?_
  refine r_aload_n C9 (i := 0) 1 dL_law_1294 rfl rfl ?_
  refine r_iload C9 (i := 4) 5 dL_law_1295 rfl ?_
  refine r_iconst C9 dL_law_1297 ki_3 ?_
  refine r_iadd (v := nI (i + 3)) C9 dL_law_1298 (nI_add _ _) ?_
  refine hL.2.2.1 _ _ _ _ _ _ (by omega) dL_law_1299 ?_
  refine r_aload_n C9 (i := 0) 1 dL_law_1300 rfl rfl ?_
  refine r_iload C9 (i := 4) 5 dL_law_1301 rfl ?_
  refine r_iconst C9 dL_law_1303 ki_4 ?_
  refine r_iadd (v := nI (i + 4)) C9 dL_law_1304 (nI_add _ _) ?_
  refine hL.2.2.1 _ _ _ _ _ _ (by omega) dL_law_1305 ?_
  refine r_callV (rest := []) C9 hm lk_X6_slip w_6_81 is2 (ci := 6) rfl dL_law_1306 rfl hC2 hn2 hr ⟨by decide, by decide⟩ (Nat.le_of_ble_eq_true rfl) (fun v2 w2 hp2 => ?_)
  obtain ⟨W2, r2, rfl, rfl, ⟨⟨qm, hpm, hqm⟩, hout⟩, hgo⟩ := hf2 v2 w2 hp2
  obtain ⟨x1, sz, x3, x4, x5, ac, x7, x8, x9, x10, x11, sp, ou, rfl⟩ := hqm
  show Ω (j + 1) _ [(5, .int (nI k)), (0, .ref b), (1, .ref hB), (2, .ref hM), (3, .ref o), (4, .int (nI i))] [.int r2] 1309
  refine r_istore C9 (lv' := [(6, .int r2), (5, .int (nI k)), (0, .ref b), (1, .ref hB), (2, .ref hM), (3, .ref o), (4, .int (nI i))]) dL_law_1309 (by decide) rfl ?_
  refine r_aload_n C9 (i := 2) 4 dL_law_1311 rfl rfl ?_
  refine r_readV (rest := []) C9 (c_X6_thrown (hM := hM) (rf := k) (x1 := x1) (sz := sz) (x3 := x3) (x4 := x4) (x5 := x5) (ac := ac) (x7 := x7) (x8 := x8) (x9 := x9) (x10 := x10) (x11 := x11) (sp := sp) (ou := ou)) lk_X6_thrown w_5_104 [pm] (ci := 6) rfl dL_law_1312 rfl (by rw [List.map_cons, hpm]; rfl) rfl rfl ⟨by decide, by decide⟩ (Nat.le_of_ble_eq_true rfl) (st' := [.int (nI k)]) rfl ?_
  refine r_iload C9 (i := 5) 1 dL_law_1315 rfl ?_
  refine r_icmp_eqT C9 1322 dL_law_1317 (by decide) rfl ?_
  refine r_iload C9 (i := 5) 1 dL_law_1322 rfl ?_
  by_cases hk : k = 0
  · subst hk
    obtain ⟨g2, hpo, hg2⟩ := hout rfl
    refine r_if_neF C9 (y := 0) (tgt := 1339) dL_law_1324 (by decide) (fun z => z rfl) ?_
    refine r_aload_n C9 (i := 3) 5 dL_law_1327 rfl rfl ?_
    refine r_iconst C9 dL_law_1328 ki_0 ?_
    refine r_lald (v := r2.toInt64) C9 po hpo (by decide) (by decide) hg2 dL_law_1329 ?_
    refine r_iload C9 (i := 6) 0 dL_law_1330 rfl ?_
    refine r_i2l (v := (r2).toInt64) C9 dL_law_1332 rfl ?_
    refine r_lcmp C9 dL_law_1333 rfl ?_
    refine r_if_eqT C9 (y := 0) 1339 dL_law_1334 (by decide) ((lg_cmp_eq _ _).mpr rfl) ?_
    refine r_goto C9 2187 dL_law_1339 (by decide) ?_
    exact r_lv (lv' := (lv0 b hB hM o i)) C9 [2, 3, 4, 5, 6] rfl hgo
  · refine r_if_neT C9 (y := 0) 1339 dL_law_1324 (by decide) ((z_neN (by omega)).mpr hk) ?_
    refine r_goto C9 2187 dL_law_1339 (by decide) ?_
    exact r_lv (lv' := (lv0 b hB hM o i)) C9 [2, 3, 4, 5, 6] rfl hgo
set_option maxRecDepth 100000 in
theorem lc_lose {l : Launch} {E : Ev} {b L : Nat} {xs : Nat → Int32} {c0 s0 : Nat} {Ω : Nat → Om} (hL : Lw l E b L xs c0 s0 Ω) {j i : Nat} (hj : j < 512) (hi : i + 5 ≤ L) (hL2 : L ≤ 2560) {hB hM o : Nat} {W : va_W} {v1 : Int32} (hv1 : (xs (i + 1)) = v1) {pm po : Nat} {wc1 : va_W} {is1 : List Nat} {post1 : Option Value → va_W → Prop} (hx : CtX l E yL_lose method_20_code 4 (some FieldType.int) [(0, 9, 12, 28)] 8 132 [.ref hB, .int v1, .ref o] wc1 post1) (hC1 : is1.map (fun i => W[i]?) = wc1.map some) (hn1 : va_nd is1 = true)
    (hf : ∀ (v : Option Value) (w : va_W), post1 v w → ∃ (W1 : va_W) (k : Nat) (wm : va_W) (fs : List Value) (post2 : Option Value → va_W → Prop) (is2 : List Nat), mrg W is1 w = W1 ∧ k < 4 ∧ v = some (.int (nI k)) ∧ Ct l E yX6_lose cX6_lose 2 (some FieldType.int) 2 46 [.ref hM, .int v1] wm post2 ∧ wm[0]? = some (hM, .inr (6, fs)) ∧ is2.map (fun i => W1[i]?) = wm.map some ∧ va_nd is2 = true ∧ ∀ (v2 : Option Value) (w2 : va_W), post2 v2 w2 → ∃ (W2 : va_W) (r2 : Int32), mrg W1 is2 w2 = W2 ∧ v2 = some (.int r2) ∧ Both E hM o k pm po r2 W2 ∧ Ω (j + 1) W2 (lv0 b hB hM o i) [] 2187) : Ω j W (lv0 b hB hM o i) [] 1342 := by
  subst hv1
  have C := hL.1 j (by omega)
  have C9 := hL.1 (j + 1) (by omega)
  refine r_aload_n C (i := 1) 1 dL_law_1342 rfl rfl ?_
  refine r_aload_n C (i := 0) 0 dL_law_1343 rfl rfl ?_
  refine r_iload C (i := 4) 4 dL_law_1344 rfl ?_
  refine r_iconst C dL_law_1346 ki_1 ?_
  refine r_iadd (v := nI (i + 1)) C dL_law_1347 (nI_add _ _) ?_
  refine hL.2.2.1 _ _ _ _ _ _ (by omega) dL_law_1348 ?_
  refine r_aload_n C (i := 3) 3 dL_law_1349 rfl rfl ?_
  refine hL.2.2.2.2.1 j _ _ _ [] _ _ _ _ _ _ _ _ _ _ _ _ _ hj hx lk_L_lose w_4_135 dL_law_1350 rfl hC1 hn1 ⟨by decide, by decide⟩ (Nat.le_of_ble_eq_true rfl) (fun v w hp => ?_)
  obtain ⟨W1, k, wm, fs, post2, is2, rfl, hk4, rfl, hm, hr, hC2, hn2, hf2⟩ := hf v w hp
  show Ω (j + 1) _ [(0, .ref b), (1, .ref hB), (2, .ref hM), (3, .ref o), (4, .int (nI i))] [.int (nI k)] 1353
  refine r_istore C9 (lv' := [(5, .int (nI k)), (0, .ref b), (1, .ref hB), (2, .ref hM), (3, .ref o), (4, .int (nI i))]) dL_law_1353 (by decide) rfl ?_
  refine r_aload_n C9 (i := 2) 3 dL_law_1355 rfl rfl ?_
  refine r_aload_n C9 (i := 0) 1 dL_law_1356 rfl rfl ?_
  refine r_iload C9 (i := 4) 5 dL_law_1357 rfl ?_
  refine r_iconst C9 dL_law_1359 ki_1 ?_
  refine r_iadd (v := nI (i + 1)) C9 dL_law_1360 (nI_add _ _) ?_
  refine hL.2.2.1 _ _ _ _ _ _ (by omega) dL_law_1361 ?_
  refine r_callV (rest := []) C9 hm lk_X6_lose w_6_86 is2 (ci := 6) rfl dL_law_1362 rfl hC2 hn2 hr ⟨by decide, by decide⟩ (Nat.le_of_ble_eq_true rfl) (fun v2 w2 hp2 => ?_)
  obtain ⟨W2, r2, rfl, rfl, ⟨⟨qm, hpm, hqm⟩, hout⟩, hgo⟩ := hf2 v2 w2 hp2
  obtain ⟨x1, sz, x3, x4, x5, ac, x7, x8, x9, x10, x11, sp, ou, rfl⟩ := hqm
  show Ω (j + 1) _ [(5, .int (nI k)), (0, .ref b), (1, .ref hB), (2, .ref hM), (3, .ref o), (4, .int (nI i))] [.int r2] 1365
  refine r_istore C9 (lv' := [(6, .int r2), (5, .int (nI k)), (0, .ref b), (1, .ref hB), (2, .ref hM), (3, .ref o), (4, .int (nI i))]) dL_law_1365 (by decide) rfl ?_
  refine r_aload_n C9 (i := 2) 4 dL_law_1367 rfl rfl ?_
  refine r_readV (rest := []) C9 (c_X6_thrown (hM := hM) (rf := k) (x1 := x1) (sz := sz) (x3 := x3) (x4 := x4) (x5 := x5) (ac := ac) (x7 := x7) (x8 := x8) (x9 := x9) (x10 := x10) (x11 := x11) (sp := sp) (ou := ou)) lk_X6_thrown w_5_104 [pm] (ci := 6) rfl dL_law_1368 rfl (by rw [List.map_cons, hpm]; rfl) rfl rfl ⟨by decide, by decide⟩ (Nat.le_of_ble_eq_true rfl) (st' := [.int (nI k)]) rfl ?_
  refine r_iload C9 (i := 5) 1 dL_law_1371 rfl ?_
  refine r_icmp_eqT C9 1378 dL_law_1373 (by decide) rfl ?_
  refine r_iload C9 (i := 5) 1 dL_law_1378 rfl ?_
  by_cases hk : k = 0
  · subst hk
    obtain ⟨g2, hpo, hg2⟩ := hout rfl
    refine r_if_neF C9 (y := 0) (tgt := 1395) dL_law_1380 (by decide) (fun z => z rfl) ?_
    refine r_aload_n C9 (i := 3) 5 dL_law_1383 rfl rfl ?_
    refine r_iconst C9 dL_law_1384 ki_0 ?_
    refine r_lald (v := r2.toInt64) C9 po hpo (by decide) (by decide) hg2 dL_law_1385 ?_
    refine r_iload C9 (i := 6) 0 dL_law_1386 rfl ?_
    refine r_i2l (v := (r2).toInt64) C9 dL_law_1388 rfl ?_
    refine r_lcmp C9 dL_law_1389 rfl ?_
    refine r_if_eqT C9 (y := 0) 1395 dL_law_1390 (by decide) ((lg_cmp_eq _ _).mpr rfl) ?_
    refine r_goto C9 2187 dL_law_1395 (by decide) ?_
    exact r_lv (lv' := (lv0 b hB hM o i)) C9 [2, 3, 4, 5, 6] rfl hgo
  · refine r_if_neT C9 (y := 0) 1395 dL_law_1380 (by decide) ((z_neN (by omega)).mpr hk) ?_
    refine r_goto C9 2187 dL_law_1395 (by decide) ?_
    exact r_lv (lv' := (lv0 b hB hM o i)) C9 [2, 3, 4, 5, 6] rfl hgo
set_option maxRecDepth 100000 in
theorem lc_set {l : Launch} {E : Ev} {b L : Nat} {xs : Nat → Int32} {c0 s0 : Nat} {Ω : Nat → Om} (hL : Lw l E b L xs c0 s0 Ω) {j i : Nat} (hj : j < 512) (hi : i + 5 ≤ L) (hL2 : L ≤ 2560) {hB hM o : Nat} {W : va_W} {v1 : Int32} (hv1 : (xs (i + 1)) = v1) {v2 : Int32} (hv2 : (xs (i + 2)) = v2) {pm po : Nat} {wc1 : va_W} {is1 : List Nat} {post1 : Option Value → va_W → Prop} (hx : CtX l E yL_set method_21_code 5 (some FieldType.int) [(0, 10, 13, 13)] 8 133 [.ref hB, .int v1, .int v2, .ref o] wc1 post1) (hC1 : is1.map (fun i => W[i]?) = wc1.map some) (hn1 : va_nd is1 = true)
    (hf : ∀ (v : Option Value) (w : va_W), post1 v w → ∃ (W1 : va_W) (k : Nat) (wm : va_W) (fs : List Value) (post2 : Option Value → va_W → Prop) (is2 : List Nat), mrg W is1 w = W1 ∧ k < 4 ∧ v = some (.int (nI k)) ∧ Ct l E yX6_set cX6_set 4 (some FieldType.int) 2 46 [.ref hM, .int v1, .int v2] wm post2 ∧ wm[0]? = some (hM, .inr (6, fs)) ∧ is2.map (fun i => W1[i]?) = wm.map some ∧ va_nd is2 = true ∧ ∀ (v2 : Option Value) (w2 : va_W), post2 v2 w2 → ∃ (W2 : va_W) (r2 : Int32), mrg W1 is2 w2 = W2 ∧ v2 = some (.int r2) ∧ Both E hM o k pm po r2 W2 ∧ Ω (j + 1) W2 (lv0 b hB hM o i) [] 2187) : Ω j W (lv0 b hB hM o i) [] 1398 := by
  subst hv1 hv2
  have C := hL.1 j (by omega)
  have C9 := hL.1 (j + 1) (by omega)
  refine r_aload_n C (i := 1) 1 dL_law_1398 rfl rfl ?_
  refine r_aload_n C (i := 0) 0 dL_law_1399 rfl rfl ?_
  refine r_iload C (i := 4) 4 dL_law_1400 rfl ?_
  refine r_iconst C dL_law_1402 ki_1 ?_
  refine r_iadd (v := nI (i + 1)) C dL_law_1403 (nI_add _ _) ?_
  refine hL.2.2.1 _ _ _ _ _ _ (by omega) dL_law_1404 ?_
  refine r_aload_n C (i := 0) 0 dL_law_1405 rfl rfl ?_
  refine r_iload C (i := 4) 4 dL_law_1406 rfl ?_
  refine r_iconst C dL_law_1408 ki_2 ?_
  refine r_iadd (v := nI (i + 2)) C dL_law_1409 (nI_add _ _) ?_
  refine hL.2.2.1 _ _ _ _ _ _ (by omega) dL_law_1410 ?_
  refine r_aload_n C (i := 3) 3 dL_law_1411 rfl rfl ?_
  refine hL.2.2.2.2.1 j _ _ _ [] _ _ _ _ _ _ _ _ _ _ _ _ _ hj hx lk_L_set w_4_147 dL_law_1412 rfl hC1 hn1 ⟨by decide, by decide⟩ (Nat.le_of_ble_eq_true rfl) (fun v w hp => ?_)
  obtain ⟨W1, k, wm, fs, post2, is2, rfl, hk4, rfl, hm, hr, hC2, hn2, hf2⟩ := hf v w hp
  show Ω (j + 1) _ [(0, .ref b), (1, .ref hB), (2, .ref hM), (3, .ref o), (4, .int (nI i))] [.int (nI k)] 1415
  refine r_istore C9 (lv' := [(5, .int (nI k)), (0, .ref b), (1, .ref hB), (2, .ref hM), (3, .ref o), (4, .int (nI i))]) dL_law_1415 (by decide) rfl ?_
  refine r_aload_n C9 (i := 2) 3 dL_law_1417 rfl rfl ?_
  refine r_aload_n C9 (i := 0) 1 dL_law_1418 rfl rfl ?_
  refine r_iload C9 (i := 4) 5 dL_law_1419 rfl ?_
  refine r_iconst C9 dL_law_1421 ki_1 ?_
  refine r_iadd (v := nI (i + 1)) C9 dL_law_1422 (nI_add _ _) ?_
  refine hL.2.2.1 _ _ _ _ _ _ (by omega) dL_law_1423 ?_
  refine r_aload_n C9 (i := 0) 1 dL_law_1424 rfl rfl ?_
  refine r_iload C9 (i := 4) 5 dL_law_1425 rfl ?_
  refine r_iconst C9 dL_law_1427 ki_2 ?_
  refine r_iadd (v := nI (i + 2)) C9 dL_law_1428 (nI_add _ _) ?_
  refine hL.2.2.1 _ _ _ _ _ _ (by omega) dL_law_1429 ?_
  refine r_callV (rest := []) C9 hm lk_X6_set w_6_93 is2 (ci := 6) rfl dL_law_1430 rfl hC2 hn2 hr ⟨by decide, by decide⟩ (Nat.le_of_ble_eq_true rfl) (fun v2 w2 hp2 => ?_)
  obtain ⟨W2, r2, rfl, rfl, ⟨⟨qm, hpm, hqm⟩, hout⟩, hgo⟩ := hf2 v2 w2 hp2
  obtain ⟨x1, sz, x3, x4, x5, ac, x7, x8, x9, x10, x11, sp, ou, rfl⟩ := hqm
  show Ω (j + 1) _ [(5, .int (nI k)), (0, .ref b), (1, .ref hB), (2, .ref hM), (3, .ref o), (4, .int (nI i))] [.int r2] 1433
  refine r_istore C9 (lv' := [(6, .int r2), (5, .int (nI k)), (0, .ref b), (1, .ref hB), (2, .ref hM), (3, .ref o), (4, .int (nI i))]) dL_law_1433 (by decide) rfl ?_
  refine r_aload_n C9 (i := 2) 4 dL_law_1435 rfl rfl ?_
  refine r_readV (rest := []) C9 (c_X6_thrown (hM := hM) (rf := k) (x1 := x1) (sz := sz) (x3 := x3) (x4 := x4) (x5 := x5) (ac := ac) (x7 := x7) (x8 := x8) (x9 := x9) (x10 := x10) (x11 := x11) (sp := sp) (ou := ou)) lk_X6_thrown w_5_104 [pm] (ci := 6) rfl dL_law_1436 rfl (by rw [List.map_cons, hpm]; rfl) rfl rfl ⟨by decide, by decide⟩ (Nat.le_of_ble_eq_true rfl) (st' := [.int (nI k)]) rfl ?_
  refine r_iload C9 (i := 5) 1 dL_law_1439 rfl ?_
  refine r_icmp_eqT C9 1446 dL_law_1441 (by decide) rfl ?_
  refine r_iload C9 (i := 5) 1 dL_law_1446 rfl ?_
  by_cases hk : k = 0
  · subst hk
    obtain ⟨g2, hpo, hg2⟩ := hout rfl
    refine r_if_neF C9 (y := 0) (tgt := 1463) dL_law_1448 (by decide) (fun z => z rfl) ?_
    refine r_aload_n C9 (i := 3) 5 dL_law_1451 rfl rfl ?_
    refine r_iconst C9 dL_law_1452 ki_0 ?_
    refine r_lald (v := r2.toInt64) C9 po hpo (by decide) (by decide) hg2 dL_law_1453 ?_
    refine r_iload C9 (i := 6) 0 dL_law_1454 rfl ?_
    refine r_i2l (v := (r2).toInt64) C9 dL_law_1456 rfl ?_
    refine r_lcmp C9 dL_law_1457 rfl ?_
    refine r_if_eqT C9 (y := 0) 1463 dL_law_1458 (by decide) ((lg_cmp_eq _ _).mpr rfl) ?_
    refine r_goto C9 2187 dL_law_1463 (by decide) ?_
    exact r_lv (lv' := (lv0 b hB hM o i)) C9 [2, 3, 4, 5, 6] rfl hgo
  · refine r_if_neT C9 (y := 0) 1463 dL_law_1448 (by decide) ((z_neN (by omega)).mpr hk) ?_
    refine r_goto C9 2187 dL_law_1463 (by decide) ?_
    exact r_lv (lv' := (lv0 b hB hM o i)) C9 [2, 3, 4, 5, 6] rfl hgo
set_option maxRecDepth 100000 in
theorem lc_undo {l : Launch} {E : Ev} {b L : Nat} {xs : Nat → Int32} {c0 s0 : Nat} {Ω : Nat → Om} (hL : Lw l E b L xs c0 s0 Ω) {j i : Nat} (hj : j < 512) (hi : i + 5 ≤ L) (hL2 : L ≤ 2560) {hB hM o : Nat} {W : va_W} {pm po : Nat} {wc1 : va_W} {is1 : List Nat} {post1 : Option Value → va_W → Prop} (hx : CtX l E yL_undo method_22_code 3 (some FieldType.int) [(0, 8, 11, 15)] 7 110 [.ref hB, .ref o] wc1 post1) (hC1 : is1.map (fun i => W[i]?) = wc1.map some) (hn1 : va_nd is1 = true)
    (hf : ∀ (v : Option Value) (w : va_W), post1 v w → ∃ (W1 : va_W) (k : Nat) (wm : va_W) (fs : List Value) (post2 : Option Value → va_W → Prop) (is2 : List Nat), mrg W is1 w = W1 ∧ k < 4 ∧ v = some (.int (nI k)) ∧ Ct l E yX6_undo cX6_undo 1 (some FieldType.int) 1 24 [.ref hM] wm post2 ∧ wm[0]? = some (hM, .inr (6, fs)) ∧ is2.map (fun i => W1[i]?) = wm.map some ∧ va_nd is2 = true ∧ ∀ (v2 : Option Value) (w2 : va_W), post2 v2 w2 → ∃ (W2 : va_W) (r2 : Int32), mrg W1 is2 w2 = W2 ∧ v2 = some (.int r2) ∧ Both E hM o k pm po r2 W2 ∧ Ω (j + 1) W2 (lv0 b hB hM o i) [] 2187) : Ω j W (lv0 b hB hM o i) [] 1466 := by
  have C := hL.1 j (by omega)
  have C9 := hL.1 (j + 1) (by omega)
  refine r_aload_n C (i := 1) 1 dL_law_1466 rfl rfl ?_
  refine r_aload_n C (i := 3) 3 dL_law_1467 rfl rfl ?_
  refine hL.2.2.2.2.1 j _ _ _ [] _ _ _ _ _ _ _ _ _ _ _ _ _ hj hx lk_L_undo w_4_159 dL_law_1468 rfl hC1 hn1 ⟨by decide, by decide⟩ (Nat.le_of_ble_eq_true rfl) (fun v w hp => ?_)
  obtain ⟨W1, k, wm, fs, post2, is2, rfl, hk4, rfl, hm, hr, hC2, hn2, hf2⟩ := hf v w hp
  show Ω (j + 1) _ [(0, .ref b), (1, .ref hB), (2, .ref hM), (3, .ref o), (4, .int (nI i))] [.int (nI k)] 1471
  refine r_istore C9 (lv' := [(5, .int (nI k)), (0, .ref b), (1, .ref hB), (2, .ref hM), (3, .ref o), (4, .int (nI i))]) dL_law_1471 (by decide) rfl ?_
  refine r_aload_n C9 (i := 2) 3 dL_law_1473 rfl rfl ?_
  refine r_callV (rest := []) C9 hm lk_X6_undo w_6_101 is2 (ci := 6) rfl dL_law_1474 rfl hC2 hn2 hr ⟨by decide, by decide⟩ (Nat.le_of_ble_eq_true rfl) (fun v2 w2 hp2 => ?_)
  obtain ⟨W2, r2, rfl, rfl, ⟨⟨qm, hpm, hqm⟩, hout⟩, hgo⟩ := hf2 v2 w2 hp2
  obtain ⟨x1, sz, x3, x4, x5, ac, x7, x8, x9, x10, x11, sp, ou, rfl⟩ := hqm
  show Ω (j + 1) _ [(5, .int (nI k)), (0, .ref b), (1, .ref hB), (2, .ref hM), (3, .ref o), (4, .int (nI i))] [.int r2] 1477
  refine r_istore C9 (lv' := [(6, .int r2), (5, .int (nI k)), (0, .ref b), (1, .ref hB), (2, .ref hM), (3, .ref o), (4, .int (nI i))]) dL_law_1477 (by decide) rfl ?_
  refine r_aload_n C9 (i := 2) 4 dL_law_1479 rfl rfl ?_
  refine r_readV (rest := []) C9 (c_X6_thrown (hM := hM) (rf := k) (x1 := x1) (sz := sz) (x3 := x3) (x4 := x4) (x5 := x5) (ac := ac) (x7 := x7) (x8 := x8) (x9 := x9) (x10 := x10) (x11 := x11) (sp := sp) (ou := ou)) lk_X6_thrown w_5_104 [pm] (ci := 6) rfl dL_law_1480 rfl (by rw [List.map_cons, hpm]; rfl) rfl rfl ⟨by decide, by decide⟩ (Nat.le_of_ble_eq_true rfl) (st' := [.int (nI k)]) rfl ?_
  refine r_iload C9 (i := 5) 1 dL_law_1483 rfl ?_
  refine r_icmp_eqT C9 1490 dL_law_1485 (by decide) rfl ?_
  refine r_iload C9 (i := 5) 1 dL_law_1490 rfl ?_
  by_cases hk : k = 0
  · subst hk
    obtain ⟨g2, hpo, hg2⟩ := hout rfl
    refine r_if_neF C9 (y := 0) (tgt := 1507) dL_law_1492 (by decide) (fun z => z rfl) ?_
    refine r_aload_n C9 (i := 3) 5 dL_law_1495 rfl rfl ?_
    refine r_iconst C9 dL_law_1496 ki_0 ?_
    refine r_lald (v := r2.toInt64) C9 po hpo (by decide) (by decide) hg2 dL_law_1497 ?_
    refine r_iload C9 (i := 6) 0 dL_law_1498 rfl ?_
    refine r_i2l (v := (r2).toInt64) C9 dL_law_1500 rfl ?_
    refine r_lcmp C9 dL_law_1501 rfl ?_
    refine r_if_eqT C9 (y := 0) 1507 dL_law_1502 (by decide) ((lg_cmp_eq _ _).mpr rfl) ?_
    refine r_goto C9 2187 dL_law_1507 (by decide) ?_
    exact r_lv (lv' := (lv0 b hB hM o i)) C9 [2, 3, 4, 5, 6] rfl hgo
  · refine r_if_neT C9 (y := 0) 1507 dL_law_1492 (by decide) ((z_neN (by omega)).mpr hk) ?_
    refine r_goto C9 2187 dL_law_1507 (by decide) ?_
    exact r_lv (lv' := (lv0 b hB hM o i)) C9 [2, 3, 4, 5, 6] rfl hgo
set_option maxRecDepth 100000 in
theorem lc_find {l : Launch} {E : Ev} {b L : Nat} {xs : Nat → Int32} {c0 s0 : Nat} {Ω : Nat → Om} (hL : Lw l E b L xs c0 s0 Ω) {j i : Nat} (hj : j < 512) (hi : i + 5 ≤ L) (hL2 : L ≤ 2560) {hB hM o : Nat} {W : va_W} {v1 : Int32} (hv1 : (xs (i + 1)) = v1) {v2 : Int32} (hv2 : (xs (i + 2)) = v2) {v3 : Int32} (hv3 : (xs (i + 3)) = v3) {pm po : Nat} {wc1 : va_W} {is1 : List Nat} {post1 : Option Value → va_W → Prop} (hx : CtX l E yL_find method_23_code 6 (some FieldType.int) [(0, 12, 15, 28), (0, 12, 19, 13)] 8 145 [.ref hB, .int v1, .int v2, .int v3, .ref o] wc1 post1) (hC1 : is1.map (fun i => W[i]?) = wc1.map some) (hn1 : va_nd is1 = true)
    (hf : ∀ (v : Option Value) (w : va_W), post1 v w → ∃ (W1 : va_W) (k : Nat) (wm : va_W) (fs : List Value) (post2 : Option Value → va_W → Prop) (is2 : List Nat), mrg W is1 w = W1 ∧ k < 4 ∧ v = some (.int (nI k)) ∧ Ct l E yX6_find cX6_find 6 (some FieldType.int) 5 122 [.ref hM, .int v1, .int v2, .int v3] wm post2 ∧ wm[0]? = some (hM, .inr (6, fs)) ∧ is2.map (fun i => W1[i]?) = wm.map some ∧ va_nd is2 = true ∧ ∀ (v2 : Option Value) (w2 : va_W), post2 v2 w2 → ∃ (W2 : va_W) (r2 : Int32), mrg W1 is2 w2 = W2 ∧ v2 = some (.int r2) ∧ Both E hM o k pm po r2 W2 ∧ Ω (j + 1) W2 (lv0 b hB hM o i) [] 2187) : Ω j W (lv0 b hB hM o i) [] 1510 := by
  subst hv1 hv2 hv3
  have C := hL.1 j (by omega)
  have C9 := hL.1 (j + 1) (by omega)
  refine r_aload_n C (i := 1) 1 dL_law_1510 rfl rfl ?_
  refine r_aload_n C (i := 0) 0 dL_law_1511 rfl rfl ?_
  refine r_iload C (i := 4) 4 dL_law_1512 rfl ?_
  refine r_iconst C dL_law_1514 ki_1 ?_
  refine r_iadd (v := nI (i + 1)) C dL_law_1515 (nI_add _ _) ?_
  refine hL.2.2.1 _ _ _ _ _ _ (by omega) dL_law_1516 ?_
  refine r_aload_n C (i := 0) 0 dL_law_1517 rfl rfl ?_
  refine r_iload C (i := 4) 4 dL_law_1518 rfl ?_
  refine r_iconst C dL_law_1520 ki_2 ?_
  refine r_iadd (v := nI (i + 2)) C dL_law_1521 (nI_add _ _) ?_
  refine hL.2.2.1 _ _ _ _ _ _ (by omega) dL_law_1522 ?_
  refine r_aload_n C (i := 0) 0 dL_law_1523 rfl rfl ?_
  refine r_iload C (i := 4) 4 dL_law_1524 rfl ?_
  refine r_iconst C dL_law_1526 ki_3 ?_
  refine r_iadd (v := nI (i + 3)) C dL_law_1527 (nI_add _ _) ?_
  refine hL.2.2.1 _ _ _ _ _ _ (by omega) dL_law_1528 ?_
  refine r_aload_n C (i := 3) 3 dL_law_1529 rfl rfl ?_
  refine hL.2.2.2.2.1 j _ _ _ [] _ _ _ _ _ _ _ _ _ _ _ _ _ hj hx lk_L_find w_4_179 dL_law_1530 rfl hC1 hn1 ⟨by decide, by decide⟩ (Nat.le_of_ble_eq_true rfl) (fun v w hp => ?_)
  obtain ⟨W1, k, wm, fs, post2, is2, rfl, hk4, rfl, hm, hr, hC2, hn2, hf2⟩ := hf v w hp
  show Ω (j + 1) _ [(0, .ref b), (1, .ref hB), (2, .ref hM), (3, .ref o), (4, .int (nI i))] [.int (nI k)] 1533
  refine r_istore C9 (lv' := [(5, .int (nI k)), (0, .ref b), (1, .ref hB), (2, .ref hM), (3, .ref o), (4, .int (nI i))]) dL_law_1533 (by decide) rfl ?_
  refine r_aload_n C9 (i := 2) 3 dL_law_1535 rfl rfl ?_
  refine r_aload_n C9 (i := 0) 1 dL_law_1536 rfl rfl ?_
  refine r_iload C9 (i := 4) 5 dL_law_1537 rfl ?_
  refine r_iconst C9 dL_law_1539 ki_1 ?_
  refine r_iadd (v := nI (i + 1)) C9 dL_law_1540 (nI_add _ _) ?_
  refine hL.2.2.1 _ _ _ _ _ _ (by omega) dL_law_1541 ?_
  refine r_aload_n C9 (i := 0) 1 dL_law_1542 rfl rfl ?_
  refine r_iload C9 (i := 4) 5 dL_law_1543 rfl ?_
  refine r_iconst C9 dL_law_1545 ki_2 ?_
  refine r_iadd (v := nI (i + 2)) C9 dL_law_1546 (nI_add _ _) ?_
  refine hL.2.2.1 _ _ _ _ _ _ (by omega) dL_law_1547 ?_
  refine r_aload_n C9 (i := 0) 1 dL_law_1548 rfl rfl ?_
  refine r_iload C9 (i := 4) 5 dL_law_1549 rfl ?_
  refine r_iconst C9 dL_law_1551 ki_3 ?_
  refine r_iadd (v := nI (i + 3)) C9 dL_law_1552 (nI_add _ _) ?_
  refine hL.2.2.1 _ _ _ _ _ _ (by omega) dL_law_1553 ?_
  refine r_callV (rest := []) C9 hm lk_X6_find w_6_105 is2 (ci := 6) rfl dL_law_1554 rfl hC2 hn2 hr ⟨by decide, by decide⟩ (Nat.le_of_ble_eq_true rfl) (fun v2 w2 hp2 => ?_)
  obtain ⟨W2, r2, rfl, rfl, ⟨⟨qm, hpm, hqm⟩, hout⟩, hgo⟩ := hf2 v2 w2 hp2
  obtain ⟨x1, sz, x3, x4, x5, ac, x7, x8, x9, x10, x11, sp, ou, rfl⟩ := hqm
  show Ω (j + 1) _ [(5, .int (nI k)), (0, .ref b), (1, .ref hB), (2, .ref hM), (3, .ref o), (4, .int (nI i))] [.int r2] 1557
  refine r_istore C9 (lv' := [(6, .int r2), (5, .int (nI k)), (0, .ref b), (1, .ref hB), (2, .ref hM), (3, .ref o), (4, .int (nI i))]) dL_law_1557 (by decide) rfl ?_
  refine r_aload_n C9 (i := 2) 4 dL_law_1559 rfl rfl ?_
  refine r_readV (rest := []) C9 (c_X6_thrown (hM := hM) (rf := k) (x1 := x1) (sz := sz) (x3 := x3) (x4 := x4) (x5 := x5) (ac := ac) (x7 := x7) (x8 := x8) (x9 := x9) (x10 := x10) (x11 := x11) (sp := sp) (ou := ou)) lk_X6_thrown w_5_104 [pm] (ci := 6) rfl dL_law_1560 rfl (by rw [List.map_cons, hpm]; rfl) rfl rfl ⟨by decide, by decide⟩ (Nat.le_of_ble_eq_true rfl) (st' := [.int (nI k)]) rfl ?_
  refine r_iload C9 (i := 5) 1 dL_law_1563 rfl ?_
  refine r_icmp_eqT C9 1570 dL_law_1565 (by decide) rfl ?_
  refine r_iload C9 (i := 5) 1 dL_law_1570 rfl ?_
  by_cases hk : k = 0
  · subst hk
    obtain ⟨g2, hpo, hg2⟩ := hout rfl
    refine r_if_neF C9 (y := 0) (tgt := 1587) dL_law_1572 (by decide) (fun z => z rfl) ?_
    refine r_aload_n C9 (i := 3) 5 dL_law_1575 rfl rfl ?_
    refine r_iconst C9 dL_law_1576 ki_0 ?_
    refine r_lald (v := r2.toInt64) C9 po hpo (by decide) (by decide) hg2 dL_law_1577 ?_
    refine r_iload C9 (i := 6) 0 dL_law_1578 rfl ?_
    refine r_i2l (v := (r2).toInt64) C9 dL_law_1580 rfl ?_
    refine r_lcmp C9 dL_law_1581 rfl ?_
    refine r_if_eqT C9 (y := 0) 1587 dL_law_1582 (by decide) ((lg_cmp_eq _ _).mpr rfl) ?_
    refine r_goto C9 2187 dL_law_1587 (by decide) ?_
    exact r_lv (lv' := (lv0 b hB hM o i)) C9 [2, 3, 4, 5, 6] rfl hgo
  · refine r_if_neT C9 (y := 0) 1587 dL_law_1572 (by decide) ((z_neN (by omega)).mpr hk) ?_
    refine r_goto C9 2187 dL_law_1587 (by decide) ?_
    exact r_lv (lv' := (lv0 b hB hM o i)) C9 [2, 3, 4, 5, 6] rfl hgo
set_option maxRecDepth 100000 in
theorem lc_together {l : Launch} {E : Ev} {b L : Nat} {xs : Nat → Int32} {c0 s0 : Nat} {Ω : Nat → Om} (hL : Lw l E b L xs c0 s0 Ω) {j i : Nat} (hj : j < 512) (hi : i + 5 ≤ L) (hL2 : L ≤ 2560) {hB hM o : Nat} {W : va_W} {v1 : Int32} (hv1 : (xs (i + 1)) = v1) {v2 : Int32} (hv2 : (xs (i + 2)) = v2) {pm po : Nat} {wc1 : va_W} {is1 : List Nat} {post1 : Option Value → va_W → Prop} (hx : CtX l E yL_together method_24_code 5 (some FieldType.int) [(0, 10, 13, 28)] 8 140 [.ref hB, .int v1, .int v2, .ref o] wc1 post1) (hC1 : is1.map (fun i => W[i]?) = wc1.map some) (hn1 : va_nd is1 = true)
    (hf : ∀ (v : Option Value) (w : va_W), post1 v w → ∃ (W1 : va_W) (k : Nat) (wm : va_W) (fs : List Value) (post2 : Option Value → va_W → Prop) (is2 : List Nat), mrg W is1 w = W1 ∧ k < 4 ∧ v = some (.int (nI k)) ∧ Ct l E yX6_together cX6_together 5 (some FieldType.int) 5 123 [.ref hM, .int v1, .int v2] wm post2 ∧ wm[0]? = some (hM, .inr (6, fs)) ∧ is2.map (fun i => W1[i]?) = wm.map some ∧ va_nd is2 = true ∧ ∀ (v2 : Option Value) (w2 : va_W), post2 v2 w2 → ∃ (W2 : va_W) (r2 : Int32), mrg W1 is2 w2 = W2 ∧ v2 = some (.int r2) ∧ Both E hM o k pm po r2 W2 ∧ Ω (j + 1) W2 (lv0 b hB hM o i) [] 2187) : Ω j W (lv0 b hB hM o i) [] 1590 := by
  subst hv1 hv2
  have C := hL.1 j (by omega)
  have C9 := hL.1 (j + 1) (by omega)
  refine r_aload_n C (i := 1) 1 dL_law_1590 rfl rfl ?_
  refine r_aload_n C (i := 0) 0 dL_law_1591 rfl rfl ?_
  refine r_iload C (i := 4) 4 dL_law_1592 rfl ?_
  refine r_iconst C dL_law_1594 ki_1 ?_
  refine r_iadd (v := nI (i + 1)) C dL_law_1595 (nI_add _ _) ?_
  refine hL.2.2.1 _ _ _ _ _ _ (by omega) dL_law_1596 ?_
  refine r_aload_n C (i := 0) 0 dL_law_1597 rfl rfl ?_
  refine r_iload C (i := 4) 4 dL_law_1598 rfl ?_
  refine r_iconst C dL_law_1600 ki_2 ?_
  refine r_iadd (v := nI (i + 2)) C dL_law_1601 (nI_add _ _) ?_
  refine hL.2.2.1 _ _ _ _ _ _ (by omega) dL_law_1602 ?_
  refine r_aload_n C (i := 3) 3 dL_law_1603 rfl rfl ?_
  refine hL.2.2.2.2.1 j _ _ _ [] _ _ _ _ _ _ _ _ _ _ _ _ _ hj hx lk_L_together w_4_191 dL_law_1604 rfl hC1 hn1 ⟨by decide, by decide⟩ (Nat.le_of_ble_eq_true rfl) (fun v w hp => ?_)
  obtain ⟨W1, k, wm, fs, post2, is2, rfl, hk4, rfl, hm, hr, hC2, hn2, hf2⟩ := hf v w hp
  show Ω (j + 1) _ [(0, .ref b), (1, .ref hB), (2, .ref hM), (3, .ref o), (4, .int (nI i))] [.int (nI k)] 1607
  refine r_istore C9 (lv' := [(5, .int (nI k)), (0, .ref b), (1, .ref hB), (2, .ref hM), (3, .ref o), (4, .int (nI i))]) dL_law_1607 (by decide) rfl ?_
  refine r_aload_n C9 (i := 2) 3 dL_law_1609 rfl rfl ?_
  refine r_aload_n C9 (i := 0) 1 dL_law_1610 rfl rfl ?_
  refine r_iload C9 (i := 4) 5 dL_law_1611 rfl ?_
  refine r_iconst C9 dL_law_1613 ki_1 ?_
  refine r_iadd (v := nI (i + 1)) C9 dL_law_1614 (nI_add _ _) ?_
  refine hL.2.2.1 _ _ _ _ _ _ (by omega) dL_law_1615 ?_
  refine r_aload_n C9 (i := 0) 1 dL_law_1616 rfl rfl ?_
  refine r_iload C9 (i := 4) 5 dL_law_1617 rfl ?_
  refine r_iconst C9 dL_law_1619 ki_2 ?_
  refine r_iadd (v := nI (i + 2)) C9 dL_law_1620 (nI_add _ _) ?_
  refine hL.2.2.1 _ _ _ _ _ _ (by omega) dL_law_1621 ?_
  refine r_callV (rest := []) C9 hm lk_X6_together w_6_113 is2 (ci := 6) rfl dL_law_1622 rfl hC2 hn2 hr ⟨by decide, by decide⟩ (Nat.le_of_ble_eq_true rfl) (fun v2 w2 hp2 => ?_)
  obtain ⟨W2, r2, rfl, rfl, ⟨⟨qm, hpm, hqm⟩, hout⟩, hgo⟩ := hf2 v2 w2 hp2
  obtain ⟨x1, sz, x3, x4, x5, ac, x7, x8, x9, x10, x11, sp, ou, rfl⟩ := hqm
  show Ω (j + 1) _ [(5, .int (nI k)), (0, .ref b), (1, .ref hB), (2, .ref hM), (3, .ref o), (4, .int (nI i))] [.int r2] 1625
  refine r_istore C9 (lv' := [(6, .int r2), (5, .int (nI k)), (0, .ref b), (1, .ref hB), (2, .ref hM), (3, .ref o), (4, .int (nI i))]) dL_law_1625 (by decide) rfl ?_
  refine r_aload_n C9 (i := 2) 4 dL_law_1627 rfl rfl ?_
  refine r_readV (rest := []) C9 (c_X6_thrown (hM := hM) (rf := k) (x1 := x1) (sz := sz) (x3 := x3) (x4 := x4) (x5 := x5) (ac := ac) (x7 := x7) (x8 := x8) (x9 := x9) (x10 := x10) (x11 := x11) (sp := sp) (ou := ou)) lk_X6_thrown w_5_104 [pm] (ci := 6) rfl dL_law_1628 rfl (by rw [List.map_cons, hpm]; rfl) rfl rfl ⟨by decide, by decide⟩ (Nat.le_of_ble_eq_true rfl) (st' := [.int (nI k)]) rfl ?_
  refine r_iload C9 (i := 5) 1 dL_law_1631 rfl ?_
  refine r_icmp_eqT C9 1638 dL_law_1633 (by decide) rfl ?_
  refine r_iload C9 (i := 5) 1 dL_law_1638 rfl ?_
  by_cases hk : k = 0
  · subst hk
    obtain ⟨g2, hpo, hg2⟩ := hout rfl
    refine r_if_neF C9 (y := 0) (tgt := 1655) dL_law_1640 (by decide) (fun z => z rfl) ?_
    refine r_aload_n C9 (i := 3) 5 dL_law_1643 rfl rfl ?_
    refine r_iconst C9 dL_law_1644 ki_0 ?_
    refine r_lald (v := r2.toInt64) C9 po hpo (by decide) (by decide) hg2 dL_law_1645 ?_
    refine r_iload C9 (i := 6) 0 dL_law_1646 rfl ?_
    refine r_i2l (v := (r2).toInt64) C9 dL_law_1648 rfl ?_
    refine r_lcmp C9 dL_law_1649 rfl ?_
    refine r_if_eqT C9 (y := 0) 1655 dL_law_1650 (by decide) ((lg_cmp_eq _ _).mpr rfl) ?_
    refine r_goto C9 2187 dL_law_1655 (by decide) ?_
    exact r_lv (lv' := (lv0 b hB hM o i)) C9 [2, 3, 4, 5, 6] rfl hgo
  · refine r_if_neT C9 (y := 0) 1655 dL_law_1640 (by decide) ((z_neN (by omega)).mpr hk) ?_
    refine r_goto C9 2187 dL_law_1655 (by decide) ?_
    exact r_lv (lv' := (lv0 b hB hM o i)) C9 [2, 3, 4, 5, 6] rfl hgo
set_option maxRecDepth 100000 in
theorem lc_longest {l : Launch} {E : Ev} {b L : Nat} {xs : Nat → Int32} {c0 s0 : Nat} {Ω : Nat → Om} (hL : Lw l E b L xs c0 s0 Ω) {j i : Nat} (hj : j < 512) (hi : i + 5 ≤ L) (hL2 : L ≤ 2560) {hB hM o : Nat} {W : va_W} {v1 : Int32} (hv1 : (xs (i + 1)) = v1) {v2 : Int32} (hv2 : (xs (i + 2)) = v2) {pm po : Nat} {wc1 : va_W} {is1 : List Nat} {post1 : Option Value → va_W → Prop} (hx : CtX l E yL_longest method_25_code 5 (some FieldType.int) [(0, 10, 13, 28)] 8 145 [.ref hB, .int v1, .int v2, .ref o] wc1 post1) (hC1 : is1.map (fun i => W[i]?) = wc1.map some) (hn1 : va_nd is1 = true)
    (hf : ∀ (v : Option Value) (w : va_W), post1 v w → ∃ (W1 : va_W) (k : Nat) (wm : va_W) (fs : List Value) (post2 : Option Value → va_W → Prop) (is2 : List Nat), mrg W is1 w = W1 ∧ k < 4 ∧ v = some (.int (nI k)) ∧ Ct l E yX6_longest cX6_longest 6 (some FieldType.int) 5 122 [.ref hM, .int v1, .int v2] wm post2 ∧ wm[0]? = some (hM, .inr (6, fs)) ∧ is2.map (fun i => W1[i]?) = wm.map some ∧ va_nd is2 = true ∧ ∀ (v2 : Option Value) (w2 : va_W), post2 v2 w2 → ∃ (W2 : va_W) (r2 : Int32), mrg W1 is2 w2 = W2 ∧ v2 = some (.int r2) ∧ Both E hM o k pm po r2 W2 ∧ Ω (j + 1) W2 (lv0 b hB hM o i) [] 2187) : Ω j W (lv0 b hB hM o i) [] 1658 := by
  subst hv1 hv2
  have C := hL.1 j (by omega)
  have C9 := hL.1 (j + 1) (by omega)
  refine r_aload_n C (i := 1) 1 dL_law_1658 rfl rfl ?_
  refine r_aload_n C (i := 0) 0 dL_law_1659 rfl rfl ?_
  refine r_iload C (i := 4) 4 dL_law_1660 rfl ?_
  refine r_iconst C dL_law_1662 ki_1 ?_
  refine r_iadd (v := nI (i + 1)) C dL_law_1663 (nI_add _ _) ?_
  refine hL.2.2.1 _ _ _ _ _ _ (by omega) dL_law_1664 ?_
  refine r_aload_n C (i := 0) 0 dL_law_1665 rfl rfl ?_
  refine r_iload C (i := 4) 4 dL_law_1666 rfl ?_
  refine r_iconst C dL_law_1668 ki_2 ?_
  refine r_iadd (v := nI (i + 2)) C dL_law_1669 (nI_add _ _) ?_
  refine hL.2.2.1 _ _ _ _ _ _ (by omega) dL_law_1670 ?_
  refine r_aload_n C (i := 3) 3 dL_law_1671 rfl rfl ?_
  refine hL.2.2.2.2.1 j _ _ _ [] _ _ _ _ _ _ _ _ _ _ _ _ _ hj hx lk_L_longest w_4_198 dL_law_1672 rfl hC1 hn1 ⟨by decide, by decide⟩ (Nat.le_of_ble_eq_true rfl) (fun v w hp => ?_)
  obtain ⟨W1, k, wm, fs, post2, is2, rfl, hk4, rfl, hm, hr, hC2, hn2, hf2⟩ := hf v w hp
  show Ω (j + 1) _ [(0, .ref b), (1, .ref hB), (2, .ref hM), (3, .ref o), (4, .int (nI i))] [.int (nI k)] 1675
  refine r_istore C9 (lv' := [(5, .int (nI k)), (0, .ref b), (1, .ref hB), (2, .ref hM), (3, .ref o), (4, .int (nI i))]) dL_law_1675 (by decide) rfl ?_
  refine r_aload_n C9 (i := 2) 3 dL_law_1677 rfl rfl ?_
  refine r_aload_n C9 (i := 0) 1 dL_law_1678 rfl rfl ?_
  refine r_iload C9 (i := 4) 5 dL_law_1679 rfl ?_
  refine r_iconst C9 dL_law_1681 ki_1 ?_
  refine r_iadd (v := nI (i + 1)) C9 dL_law_1682 (nI_add _ _) ?_
  refine hL.2.2.1 _ _ _ _ _ _ (by omega) dL_law_1683 ?_
  refine r_aload_n C9 (i := 0) 1 dL_law_1684 rfl rfl ?_
  refine r_iload C9 (i := 4) 5 dL_law_1685 rfl ?_
  refine r_iconst C9 dL_law_1687 ki_2 ?_
  refine r_iadd (v := nI (i + 2)) C9 dL_law_1688 (nI_add _ _) ?_
  refine hL.2.2.1 _ _ _ _ _ _ (by omega) dL_law_1689 ?_
  refine r_callV (rest := []) C9 hm lk_X6_longest w_6_117 is2 (ci := 6) rfl dL_law_1690 rfl hC2 hn2 hr ⟨by decide, by decide⟩ (Nat.le_of_ble_eq_true rfl) (fun v2 w2 hp2 => ?_)
  obtain ⟨W2, r2, rfl, rfl, ⟨⟨qm, hpm, hqm⟩, hout⟩, hgo⟩ := hf2 v2 w2 hp2
  obtain ⟨x1, sz, x3, x4, x5, ac, x7, x8, x9, x10, x11, sp, ou, rfl⟩ := hqm
  show Ω (j + 1) _ [(5, .int (nI k)), (0, .ref b), (1, .ref hB), (2, .ref hM), (3, .ref o), (4, .int (nI i))] [.int r2] 1693
  refine r_istore C9 (lv' := [(6, .int r2), (5, .int (nI k)), (0, .ref b), (1, .ref hB), (2, .ref hM), (3, .ref o), (4, .int (nI i))]) dL_law_1693 (by decide) rfl ?_
  refine r_aload_n C9 (i := 2) 4 dL_law_1695 rfl rfl ?_
  refine r_readV (rest := []) C9 (c_X6_thrown (hM := hM) (rf := k) (x1 := x1) (sz := sz) (x3 := x3) (x4 := x4) (x5 := x5) (ac := ac) (x7 := x7) (x8 := x8) (x9 := x9) (x10 := x10) (x11 := x11) (sp := sp) (ou := ou)) lk_X6_thrown w_5_104 [pm] (ci := 6) rfl dL_law_1696 rfl (by rw [List.map_cons, hpm]; rfl) rfl rfl ⟨by decide, by decide⟩ (Nat.le_of_ble_eq_true rfl) (st' := [.int (nI k)]) rfl ?_
  refine r_iload C9 (i := 5) 1 dL_law_1699 rfl ?_
  refine r_icmp_eqT C9 1706 dL_law_1701 (by decide) rfl ?_
  refine r_iload C9 (i := 5) 1 dL_law_1706 rfl ?_
  by_cases hk : k = 0
  · subst hk
    obtain ⟨g2, hpo, hg2⟩ := hout rfl
    refine r_if_neF C9 (y := 0) (tgt := 1723) dL_law_1708 (by decide) (fun z => z rfl) ?_
    refine r_aload_n C9 (i := 3) 5 dL_law_1711 rfl rfl ?_
    refine r_iconst C9 dL_law_1712 ki_0 ?_
    refine r_lald (v := r2.toInt64) C9 po hpo (by decide) (by decide) hg2 dL_law_1713 ?_
    refine r_iload C9 (i := 6) 0 dL_law_1714 rfl ?_
    refine r_i2l (v := (r2).toInt64) C9 dL_law_1716 rfl ?_
    refine r_lcmp C9 dL_law_1717 rfl ?_
    refine r_if_eqT C9 (y := 0) 1723 dL_law_1718 (by decide) ((lg_cmp_eq _ _).mpr rfl) ?_
    refine r_goto C9 2187 dL_law_1723 (by decide) ?_
    exact r_lv (lv' := (lv0 b hB hM o i)) C9 [2, 3, 4, 5, 6] rfl hgo
  · refine r_if_neT C9 (y := 0) 1723 dL_law_1708 (by decide) ((z_neN (by omega)).mpr hk) ?_
    refine r_goto C9 2187 dL_law_1723 (by decide) ?_
    exact r_lv (lv' := (lv0 b hB hM o i)) C9 [2, 3, 4, 5, 6] rfl hgo
set_option maxRecDepth 100000 in
theorem lc_ifIll {l : Launch} {E : Ev} {b L : Nat} {xs : Nat → Int32} {c0 s0 : Nat} {Ω : Nat → Om} (hL : Lw l E b L xs c0 s0 Ω) {j i : Nat} (hj : j < 512) (hi : i + 5 ≤ L) (hL2 : L ≤ 2560) {hB hM o : Nat} {W : va_W} {v1 : Int32} (hv1 : (xs (i + 1)) = v1) {v2 : Int32} (hv2 : (xs (i + 2)) = v2) {v3 : Int32} (hv3 : (xs (i + 3)) = v3) {pm po : Nat} {wc1 : va_W} {is1 : List Nat} {post1 : Option Value → va_W → Prop} (hx : CtX l E yL_ifIll method_26_code 6 (some FieldType.int) [(0, 12, 15, 28), (0, 12, 19, 13)] 8 134 [.ref hB, .int v1, .int v2, .int v3, .ref o] wc1 post1) (hC1 : is1.map (fun i => W[i]?) = wc1.map some) (hn1 : va_nd is1 = true)
    (hf : ∀ (v : Option Value) (w : va_W), post1 v w → ∃ (W1 : va_W) (k : Nat) (wm : va_W) (fs : List Value) (post2 : Option Value → va_W → Prop) (is2 : List Nat), mrg W is1 w = W1 ∧ k < 4 ∧ v = some (.int (nI k)) ∧ Ct l E yX6_ifIll cX6_ifIll 10 (some FieldType.int) 5 123 [.ref hM, .int v1, .int v2, .int v3] wm post2 ∧ wm[0]? = some (hM, .inr (6, fs)) ∧ is2.map (fun i => W1[i]?) = wm.map some ∧ va_nd is2 = true ∧ ∀ (v2 : Option Value) (w2 : va_W), post2 v2 w2 → ∃ (W2 : va_W) (r2 : Int32), mrg W1 is2 w2 = W2 ∧ v2 = some (.int r2) ∧ Both E hM o k pm po r2 W2 ∧ Ω (j + 1) W2 (lv0 b hB hM o i) [] 2187) : Ω j W (lv0 b hB hM o i) [] 1726 := by
  subst hv1 hv2 hv3
  have C := hL.1 j (by omega)
  have C9 := hL.1 (j + 1) (by omega)
  refine r_aload_n C (i := 1) 1 dL_law_1726 rfl rfl ?_
  refine r_aload_n C (i := 0) 0 dL_law_1727 rfl rfl ?_
  refine r_iload C (i := 4) 4 dL_law_1728 rfl ?_
  refine r_iconst C dL_law_1730 ki_1 ?_
  refine r_iadd (v := nI (i + 1)) C dL_law_1731 (nI_add _ _) ?_
  refine hL.2.2.1 _ _ _ _ _ _ (by omega) dL_law_1732 ?_
  refine r_aload_n C (i := 0) 0 dL_law_1733 rfl rfl ?_
  refine r_iload C (i := 4) 4 dL_law_1734 rfl ?_
  refine r_iconst C dL_law_1736 ki_2 ?_
  refine r_iadd (v := nI (i + 2)) C dL_law_1737 (nI_add _ _) ?_
  refine hL.2.2.1 _ _ _ _ _ _ (by omega) dL_law_1738 ?_
  refine r_aload_n C (i := 0) 0 dL_law_1739 rfl rfl ?_
  refine r_iload C (i := 4) 4 dL_law_1740 rfl ?_
  refine r_iconst C dL_law_1742 ki_3 ?_
  refine r_iadd (v := nI (i + 3)) C dL_law_1743 (nI_add _ _) ?_
  refine hL.2.2.1 _ _ _ _ _ _ (by omega) dL_law_1744 ?_
  refine r_aload_n C (i := 3) 3 dL_law_1745 rfl rfl ?_
  refine hL.2.2.2.2.1 j _ _ _ [] _ _ _ _ _ _ _ _ _ _ _ _ _ hj hx lk_L_ifIll w_4_208 dL_law_1746 rfl hC1 hn1 ⟨by decide, by decide⟩ (Nat.le_of_ble_eq_true rfl) (fun v w hp => ?_)
  obtain ⟨W1, k, wm, fs, post2, is2, rfl, hk4, rfl, hm, hr, hC2, hn2, hf2⟩ := hf v w hp
  show Ω (j + 1) _ [(0, .ref b), (1, .ref hB), (2, .ref hM), (3, .ref o), (4, .int (nI i))] [.int (nI k)] 1749
  refine r_istore C9 (lv' := [(5, .int (nI k)), (0, .ref b), (1, .ref hB), (2, .ref hM), (3, .ref o), (4, .int (nI i))]) dL_law_1749 (by decide) rfl ?_
  refine r_aload_n C9 (i := 2) 3 dL_law_1751 rfl rfl ?_
  refine r_aload_n C9 (i := 0) 1 dL_law_1752 rfl rfl ?_
  refine r_iload C9 (i := 4) 5 dL_law_1753 rfl ?_
  refine r_iconst C9 dL_law_1755 ki_1 ?_
  refine r_iadd (v := nI (i + 1)) C9 dL_law_1756 (nI_add _ _) ?_
  refine hL.2.2.1 _ _ _ _ _ _ (by omega) dL_law_1757 ?_
  refine r_aload_n C9 (i := 0) 1 dL_law_1758 rfl rfl ?_
  refine r_iload C9 (i := 4) 5 dL_law_1759 rfl ?_
  refine r_iconst C9 dL_law_1761 ki_2 ?_
  refine r_iadd (v := nI (i + 2)) C9 dL_law_1762 (nI_add _ _) ?_
  refine hL.2.2.1 _ _ _ _ _ _ (by omega) dL_law_1763 ?_
  refine r_aload_n C9 (i := 0) 1 dL_law_1764 rfl rfl ?_
  refine r_iload C9 (i := 4) 5 dL_law_1765 rfl ?_
  refine r_iconst C9 dL_law_1767 ki_3 ?_
  refine r_iadd (v := nI (i + 3)) C9 dL_law_1768 (nI_add _ _) ?_
  refine hL.2.2.1 _ _ _ _ _ _ (by omega) dL_law_1769 ?_
  refine r_callV (rest := []) C9 hm lk_X6_ifIll w_6_121 is2 (ci := 6) rfl dL_law_1770 rfl hC2 hn2 hr ⟨by decide, by decide⟩ (Nat.le_of_ble_eq_true rfl) (fun v2 w2 hp2 => ?_)
  obtain ⟨W2, r2, rfl, rfl, ⟨⟨qm, hpm, hqm⟩, hout⟩, hgo⟩ := hf2 v2 w2 hp2
  obtain ⟨x1, sz, x3, x4, x5, ac, x7, x8, x9, x10, x11, sp, ou, rfl⟩ := hqm
  show Ω (j + 1) _ [(5, .int (nI k)), (0, .ref b), (1, .ref hB), (2, .ref hM), (3, .ref o), (4, .int (nI i))] [.int r2] 1773
  refine r_istore C9 (lv' := [(6, .int r2), (5, .int (nI k)), (0, .ref b), (1, .ref hB), (2, .ref hM), (3, .ref o), (4, .int (nI i))]) dL_law_1773 (by decide) rfl ?_
  refine r_aload_n C9 (i := 2) 4 dL_law_1775 rfl rfl ?_
  refine r_readV (rest := []) C9 (c_X6_thrown (hM := hM) (rf := k) (x1 := x1) (sz := sz) (x3 := x3) (x4 := x4) (x5 := x5) (ac := ac) (x7 := x7) (x8 := x8) (x9 := x9) (x10 := x10) (x11 := x11) (sp := sp) (ou := ou)) lk_X6_thrown w_5_104 [pm] (ci := 6) rfl dL_law_1776 rfl (by rw [List.map_cons, hpm]; rfl) rfl rfl ⟨by decide, by decide⟩ (Nat.le_of_ble_eq_true rfl) (st' := [.int (nI k)]) rfl ?_
  refine r_iload C9 (i := 5) 1 dL_law_1779 rfl ?_
  refine r_icmp_eqT C9 1786 dL_law_1781 (by decide) rfl ?_
  refine r_iload C9 (i := 5) 1 dL_law_1786 rfl ?_
  by_cases hk : k = 0
  · subst hk
    obtain ⟨g2, hpo, hg2⟩ := hout rfl
    refine r_if_neF C9 (y := 0) (tgt := 1803) dL_law_1788 (by decide) (fun z => z rfl) ?_
    refine r_aload_n C9 (i := 3) 5 dL_law_1791 rfl rfl ?_
    refine r_iconst C9 dL_law_1792 ki_0 ?_
    refine r_lald (v := r2.toInt64) C9 po hpo (by decide) (by decide) hg2 dL_law_1793 ?_
    refine r_iload C9 (i := 6) 0 dL_law_1794 rfl ?_
    refine r_i2l (v := (r2).toInt64) C9 dL_law_1796 rfl ?_
    refine r_lcmp C9 dL_law_1797 rfl ?_
    refine r_if_eqT C9 (y := 0) 1803 dL_law_1798 (by decide) ((lg_cmp_eq _ _).mpr rfl) ?_
    refine r_goto C9 2187 dL_law_1803 (by decide) ?_
    exact r_lv (lv' := (lv0 b hB hM o i)) C9 [2, 3, 4, 5, 6] rfl hgo
  · refine r_if_neT C9 (y := 0) 1803 dL_law_1788 (by decide) ((z_neN (by omega)).mpr hk) ?_
    refine r_goto C9 2187 dL_law_1803 (by decide) ?_
    exact r_lv (lv' := (lv0 b hB hM o i)) C9 [2, 3, 4, 5, 6] rfl hgo
set_option maxRecDepth 100000 in
theorem lc_bestUnderstudy {l : Launch} {E : Ev} {b L : Nat} {xs : Nat → Int32} {c0 s0 : Nat} {Ω : Nat → Om} (hL : Lw l E b L xs c0 s0 Ω) {j i : Nat} (hj : j < 512) (hi : i + 5 ≤ L) (hL2 : L ≤ 2560) {hB hM o : Nat} {W : va_W} {v1 : Int32} (hv1 : (xs (i + 1)) = v1) {pm po : Nat} {wc1 : va_W} {is1 : List Nat} {post1 : Option Value → va_W → Prop} (hx : CtX l E yL_bestUnderstudy method_27_code 4 (some FieldType.int) [(0, 9, 12, 28)] 8 142 [.ref hB, .int v1, .ref o] wc1 post1) (hC1 : is1.map (fun i => W[i]?) = wc1.map some) (hn1 : va_nd is1 = true)
    (hf : ∀ (v : Option Value) (w : va_W), post1 v w → ∃ (W1 : va_W) (k : Nat) (wm : va_W) (fs : List Value) (post2 : Option Value → va_W → Prop) (is2 : List Nat), mrg W is1 w = W1 ∧ k < 4 ∧ v = some (.int (nI k)) ∧ Ct l E yX6_bestUnderstudy cX6_bestUnderstudy 9 (some FieldType.int) 6 146 [.ref hM, .int v1] wm post2 ∧ wm[0]? = some (hM, .inr (6, fs)) ∧ is2.map (fun i => W1[i]?) = wm.map some ∧ va_nd is2 = true ∧ ∀ (v2 : Option Value) (w2 : va_W), post2 v2 w2 → ∃ (W2 : va_W) (r2 : Int32), mrg W1 is2 w2 = W2 ∧ v2 = some (.int r2) ∧ Both E hM o k pm po r2 W2 ∧ Ω (j + 1) W2 (lv0 b hB hM o i) [] 2187) : Ω j W (lv0 b hB hM o i) [] 1806 := by
  subst hv1
  have C := hL.1 j (by omega)
  have C9 := hL.1 (j + 1) (by omega)
  refine r_aload_n C (i := 1) 1 dL_law_1806 rfl rfl ?_
  refine r_aload_n C (i := 0) 0 dL_law_1807 rfl rfl ?_
  refine r_iload C (i := 4) 4 dL_law_1808 rfl ?_
  refine r_iconst C dL_law_1810 ki_1 ?_
  refine r_iadd (v := nI (i + 1)) C dL_law_1811 (nI_add _ _) ?_
  refine hL.2.2.1 _ _ _ _ _ _ (by omega) dL_law_1812 ?_
  refine r_aload_n C (i := 3) 3 dL_law_1813 rfl rfl ?_
  refine hL.2.2.2.2.1 j _ _ _ [] _ _ _ _ _ _ _ _ _ _ _ _ _ hj hx lk_L_bestUnderstudy w_4_220 dL_law_1814 rfl hC1 hn1 ⟨by decide, by decide⟩ (Nat.le_of_ble_eq_true rfl) (fun v w hp => ?_)
  obtain ⟨W1, k, wm, fs, post2, is2, rfl, hk4, rfl, hm, hr, hC2, hn2, hf2⟩ := hf v w hp
  show Ω (j + 1) _ [(0, .ref b), (1, .ref hB), (2, .ref hM), (3, .ref o), (4, .int (nI i))] [.int (nI k)] 1817
  refine r_istore C9 (lv' := [(5, .int (nI k)), (0, .ref b), (1, .ref hB), (2, .ref hM), (3, .ref o), (4, .int (nI i))]) dL_law_1817 (by decide) rfl ?_
  refine r_aload_n C9 (i := 2) 3 dL_law_1819 rfl rfl ?_
  refine r_aload_n C9 (i := 0) 1 dL_law_1820 rfl rfl ?_
  refine r_iload C9 (i := 4) 5 dL_law_1821 rfl ?_
  refine r_iconst C9 dL_law_1823 ki_1 ?_
  refine r_iadd (v := nI (i + 1)) C9 dL_law_1824 (nI_add _ _) ?_
  refine hL.2.2.1 _ _ _ _ _ _ (by omega) dL_law_1825 ?_
  refine r_callV (rest := []) C9 hm lk_X6_bestUnderstudy w_6_130 is2 (ci := 6) rfl dL_law_1826 rfl hC2 hn2 hr ⟨by decide, by decide⟩ (Nat.le_of_ble_eq_true rfl) (fun v2 w2 hp2 => ?_)
  obtain ⟨W2, r2, rfl, rfl, ⟨⟨qm, hpm, hqm⟩, hout⟩, hgo⟩ := hf2 v2 w2 hp2
  obtain ⟨x1, sz, x3, x4, x5, ac, x7, x8, x9, x10, x11, sp, ou, rfl⟩ := hqm
  show Ω (j + 1) _ [(5, .int (nI k)), (0, .ref b), (1, .ref hB), (2, .ref hM), (3, .ref o), (4, .int (nI i))] [.int r2] 1829
  refine r_istore C9 (lv' := [(6, .int r2), (5, .int (nI k)), (0, .ref b), (1, .ref hB), (2, .ref hM), (3, .ref o), (4, .int (nI i))]) dL_law_1829 (by decide) rfl ?_
  refine r_aload_n C9 (i := 2) 4 dL_law_1831 rfl rfl ?_
  refine r_readV (rest := []) C9 (c_X6_thrown (hM := hM) (rf := k) (x1 := x1) (sz := sz) (x3 := x3) (x4 := x4) (x5 := x5) (ac := ac) (x7 := x7) (x8 := x8) (x9 := x9) (x10 := x10) (x11 := x11) (sp := sp) (ou := ou)) lk_X6_thrown w_5_104 [pm] (ci := 6) rfl dL_law_1832 rfl (by rw [List.map_cons, hpm]; rfl) rfl rfl ⟨by decide, by decide⟩ (Nat.le_of_ble_eq_true rfl) (st' := [.int (nI k)]) rfl ?_
  refine r_iload C9 (i := 5) 1 dL_law_1835 rfl ?_
  refine r_icmp_eqT C9 1842 dL_law_1837 (by decide) rfl ?_
  refine r_iload C9 (i := 5) 1 dL_law_1842 rfl ?_
  by_cases hk : k = 0
  · subst hk
    obtain ⟨g2, hpo, hg2⟩ := hout rfl
    refine r_if_neF C9 (y := 0) (tgt := 1859) dL_law_1844 (by decide) (fun z => z rfl) ?_
    refine r_aload_n C9 (i := 3) 5 dL_law_1847 rfl rfl ?_
    refine r_iconst C9 dL_law_1848 ki_0 ?_
    refine r_lald (v := r2.toInt64) C9 po hpo (by decide) (by decide) hg2 dL_law_1849 ?_
    refine r_iload C9 (i := 6) 0 dL_law_1850 rfl ?_
    refine r_i2l (v := (r2).toInt64) C9 dL_law_1852 rfl ?_
    refine r_lcmp C9 dL_law_1853 rfl ?_
    refine r_if_eqT C9 (y := 0) 1859 dL_law_1854 (by decide) ((lg_cmp_eq _ _).mpr rfl) ?_
    refine r_goto C9 2187 dL_law_1859 (by decide) ?_
    exact r_lv (lv' := (lv0 b hB hM o i)) C9 [2, 3, 4, 5, 6] rfl hgo
  · refine r_if_neT C9 (y := 0) 1859 dL_law_1844 (by decide) ((z_neN (by omega)).mpr hk) ?_
    refine r_goto C9 2187 dL_law_1859 (by decide) ?_
    exact r_lv (lv' := (lv0 b hB hM o i)) C9 [2, 3, 4, 5, 6] rfl hgo
set_option maxRecDepth 100000 in
theorem lc_needed {l : Launch} {E : Ev} {b L : Nat} {xs : Nat → Int32} {c0 s0 : Nat} {Ω : Nat → Om} (hL : Lw l E b L xs c0 s0 Ω) {j i : Nat} (hj : j < 512) (hi : i + 5 ≤ L) (hL2 : L ≤ 2560) {hB hM o : Nat} {W : va_W} {wc1 : va_W} {is1 : List Nat} {fs5 : List Value} {post1 : Option Value → va_W → Prop} (hx : Ct l E yX5_needed cX5_needed 5 (some FieldType.int) 5 117 [.ref hB] wc1 post1) (hr5 : wc1[0]? = some (hB, .inr (5, fs5))) (hC1 : is1.map (fun i => W[i]?) = wc1.map some) (hn1 : va_nd is1 = true)
    (hf : ∀ (v : Option Value) (w : va_W), post1 v w → ∃ (W1 : va_W) (r : Int32) (wm : va_W) (fs : List Value) (post2 : Option Value → va_W → Prop) (is2 : List Nat), mrg W is1 w = W1 ∧ v = some (.int r) ∧ Ct l E yX6_needed cX6_needed 6 (some FieldType.int) 5 122 [.ref hM] wm post2 ∧ wm[0]? = some (hM, .inr (6, fs)) ∧ is2.map (fun i => W1[i]?) = wm.map some ∧ va_nd is2 = true ∧ ∀ (v2 : Option Value) (w2 : va_W), post2 v2 w2 → ∃ W2 : va_W, mrg W1 is2 w2 = W2 ∧ v2 = some (.int r) ∧ Ω (j + 1) W2 (lv0 b hB hM o i) [] 2187) : Ω j W (lv0 b hB hM o i) [] 1862 := by
  have C := hL.1 j (by omega)
  refine r_aload_n C (i := 1) 1 dL_law_1862 rfl rfl ?_
  refine r_callV (rest := []) C hx lk_X5_needed w_2_21 is1 (ci := 5) rfl dL_law_1863 rfl hC1 hn1 hr5 ⟨by decide, by decide⟩ (Nat.le_of_ble_eq_true rfl) (fun v w hp => ?_)
  obtain ⟨W1, r, wm, fs, post2, is2, rfl, rfl, hm, hr, hC2, hn2, hf2⟩ := hf v w hp
  show Ω j _ [(0, .ref b), (1, .ref hB), (2, .ref hM), (3, .ref o), (4, .int (nI i))] [.int r] 1866
  refine r_aload_n C (i := 2) 2 dL_law_1866 rfl rfl ?_
  refine r_callV (rest := [.int r]) C hm lk_X6_needed w_6_134 is2 (ci := 6) rfl dL_law_1867 rfl hC2 hn2 hr ⟨by decide, by decide⟩ (Nat.le_of_ble_eq_true rfl) (fun v2 w2 hp2 => ?_)
  obtain ⟨W2, rfl, rfl, hgo⟩ := hf2 v2 w2 hp2
  show Ω j _ [(0, .ref b), (1, .ref hB), (2, .ref hM), (3, .ref o), (4, .int (nI i))] [.int r, .int r] 1870
  refine r_icmp_eqT C 2187 dL_law_1870 (by decide) rfl ?_
  exact hL.2.1 _ _ _ _ _ hgo
set_option maxRecDepth 100000 in
theorem lc_runScript {l : Launch} {E : Ev} {b L : Nat} {xs : Nat → Int32} {c0 s0 : Nat} {Ω : Nat → Om} (hL : Lw l E b L xs c0 s0 Ω) {j i : Nat} (hj : j < 512) (hi : i + 5 ≤ L) (hL2 : L ≤ 2560) {hB hM o : Nat} {W : va_W} {v1 : Int32} (hv1 : (xs (i + 1)) = v1) {v2 : Int64} (hv2 : (((((xs (i + 2))).toInt64) <<< ((nI 32).toInt64 &&& 63)) ||| ((((xs (i + 3))).toInt64) &&& (lN 4294967295))) = v2) {pm po : Nat} {wc1 : va_W} {is1 : List Nat} {post1 : Option Value → va_W → Prop} (hx : CtX l E yL_runScript method_28_code 6 (some FieldType.int) [(0, 11, 14, 13)] 7 168 [.ref hB, .int v1, .long v2, .ref o] wc1 post1) (hC1 : is1.map (fun i => W[i]?) = wc1.map some) (hn1 : va_nd is1 = true)
    (hf : ∀ (v : Option Value) (w : va_W), post1 v w → ∃ (W1 : va_W) (k : Nat) (wm : va_W) (fs : List Value) (post2 : Option Value → va_W → Prop) (is2 : List Nat), mrg W is1 w = W1 ∧ k < 4 ∧ v = some (.int (nI k)) ∧ Ct l E yX6_runScript cX6_runScript 8 (some FieldType.int) 6 151 [.ref hM, .int v1, .long v2] wm post2 ∧ wm[0]? = some (hM, .inr (6, fs)) ∧ is2.map (fun i => W1[i]?) = wm.map some ∧ va_nd is2 = true ∧ ∀ (v2 : Option Value) (w2 : va_W), post2 v2 w2 → ∃ (W2 : va_W) (r2 : Int32), mrg W1 is2 w2 = W2 ∧ v2 = some (.int r2) ∧ Both E hM o k pm po r2 W2 ∧ Ω (j + 1) W2 (lv0 b hB hM o i) [] 2187) : Ω j W (lv0 b hB hM o i) [] 1875 := by
  subst hv1 hv2
  have C := hL.1 j (by omega)
  have C9 := hL.1 (j + 1) (by omega)
  refine r_aload_n C (i := 1) 1 dL_law_1875 rfl rfl ?_
  refine r_aload_n C (i := 0) 0 dL_law_1876 rfl rfl ?_
  refine r_iload C (i := 4) 4 dL_law_1877 rfl ?_
  refine r_iconst C dL_law_1879 ki_1 ?_
  refine r_iadd (v := nI (i + 1)) C dL_law_1880 (nI_add _ _) ?_
  refine hL.2.2.1 _ _ _ _ _ _ (by omega) dL_law_1881 ?_
  refine r_aload_n C (i := 0) 0 dL_law_1882 rfl rfl ?_
  refine r_iload C (i := 4) 4 dL_law_1883 rfl ?_
  refine r_iconst C dL_law_1885 ki_2 ?_
  refine r_iadd (v := nI (i + 2)) C dL_law_1886 (nI_add _ _) ?_
  refine hL.2.2.1 _ _ _ _ _ _ (by omega) dL_law_1887 ?_
  refine r_i2l (v := ((xs (i + 2))).toInt64) C dL_law_1888 rfl ?_
  refine r_bipush C dL_law_1889 kb_32 ?_
  refine r_lshl (v := ((((xs (i + 2))).toInt64) <<< ((nI 32).toInt64 &&& 63))) C dL_law_1891 rfl ?_
  refine r_aload_n C (i := 0) 0 dL_law_1892 rfl rfl ?_
  refine r_iload C (i := 4) 4 dL_law_1893 rfl ?_
  refine r_iconst C dL_law_1895 ki_3 ?_
  refine r_iadd (v := nI (i + 3)) C dL_law_1896 (nI_add _ _) ?_
  refine hL.2.2.1 _ _ _ _ _ _ (by omega) dL_law_1897 ?_
  refine r_i2l (v := ((xs (i + 3))).toInt64) C dL_law_1898 rfl ?_
  refine r_ldc2 (v := lN 4294967295) C dL_law_1899 w_6_167 ?_
  refine r_land (v := ((((xs (i + 3))).toInt64) &&& (lN 4294967295))) C dL_law_1902 rfl ?_
  refine r_lor (v := (((((xs (i + 2))).toInt64) <<< ((nI 32).toInt64 &&& 63)) ||| ((((xs (i + 3))).toInt64) &&& (lN 4294967295)))) C dL_law_1903 rfl ?_
  refine r_aload_n C (i := 3) 3 dL_law_1904 rfl rfl ?_
  refine hL.2.2.2.2.1 j _ _ _ [] _ _ _ _ _ _ _ _ _ _ _ _ _ hj hx lk_L_runScript w_4_231 dL_law_1905 rfl hC1 hn1 ⟨by decide, by decide⟩ (Nat.le_of_ble_eq_true rfl) (fun v w hp => ?_)
  obtain ⟨W1, k, wm, fs, post2, is2, rfl, hk4, rfl, hm, hr, hC2, hn2, hf2⟩ := hf v w hp
  show Ω (j + 1) _ [(0, .ref b), (1, .ref hB), (2, .ref hM), (3, .ref o), (4, .int (nI i))] [.int (nI k)] 1908
  refine r_istore C9 (lv' := [(5, .int (nI k)), (0, .ref b), (1, .ref hB), (2, .ref hM), (3, .ref o), (4, .int (nI i))]) dL_law_1908 (by decide) rfl ?_
  refine r_aload_n C9 (i := 2) 3 dL_law_1910 rfl rfl ?_
  refine r_aload_n C9 (i := 0) 1 dL_law_1911 rfl rfl ?_
  refine r_iload C9 (i := 4) 5 dL_law_1912 rfl ?_
  refine r_iconst C9 dL_law_1914 ki_1 ?_
  refine r_iadd (v := nI (i + 1)) C9 dL_law_1915 (nI_add _ _) ?_
  refine hL.2.2.1 _ _ _ _ _ _ (by omega) dL_law_1916 ?_
  refine r_aload_n C9 (i := 0) 1 dL_law_1917 rfl rfl ?_
  refine r_iload C9 (i := 4) 5 dL_law_1918 rfl ?_
  refine r_iconst C9 dL_law_1920 ki_2 ?_
  refine r_iadd (v := nI (i + 2)) C9 dL_law_1921 (nI_add _ _) ?_
  refine hL.2.2.1 _ _ _ _ _ _ (by omega) dL_law_1922 ?_
  refine r_i2l (v := ((xs (i + 2))).toInt64) C9 dL_law_1923 rfl ?_
  refine r_bipush C9 dL_law_1924 kb_32 ?_
  refine r_lshl (v := ((((xs (i + 2))).toInt64) <<< ((nI 32).toInt64 &&& 63))) C9 dL_law_1926 rfl ?_
  refine r_aload_n C9 (i := 0) 1 dL_law_1927 rfl rfl ?_
  refine r_iload C9 (i := 4) 5 dL_law_1928 rfl ?_
  refine r_iconst C9 dL_law_1930 ki_3 ?_
  refine r_iadd (v := nI (i + 3)) C9 dL_law_1931 (nI_add _ _) ?_
  refine hL.2.2.1 _ _ _ _ _ _ (by omega) dL_law_1932 ?_
  refine r_i2l (v := ((xs (i + 3))).toInt64) C9 dL_law_1933 rfl ?_
  refine r_ldc2 (v := lN 4294967295) C9 dL_law_1934 w_6_167 ?_
  refine r_land (v := ((((xs (i + 3))).toInt64) &&& (lN 4294967295))) C9 dL_law_1937 rfl ?_
  refine r_lor (v := (((((xs (i + 2))).toInt64) <<< ((nI 32).toInt64 &&& 63)) ||| ((((xs (i + 3))).toInt64) &&& (lN 4294967295)))) C9 dL_law_1938 rfl ?_
  refine r_callV (rest := []) C9 hm lk_X6_runScript w_6_139 is2 (ci := 6) rfl dL_law_1939 rfl hC2 hn2 hr ⟨by decide, by decide⟩ (Nat.le_of_ble_eq_true rfl) (fun v2 w2 hp2 => ?_)
  obtain ⟨W2, r2, rfl, rfl, ⟨⟨qm, hpm, hqm⟩, hout⟩, hgo⟩ := hf2 v2 w2 hp2
  obtain ⟨x1, sz, x3, x4, x5, ac, x7, x8, x9, x10, x11, sp, ou, rfl⟩ := hqm
  show Ω (j + 1) _ [(5, .int (nI k)), (0, .ref b), (1, .ref hB), (2, .ref hM), (3, .ref o), (4, .int (nI i))] [.int r2] 1942
  refine r_istore C9 (lv' := [(6, .int r2), (5, .int (nI k)), (0, .ref b), (1, .ref hB), (2, .ref hM), (3, .ref o), (4, .int (nI i))]) dL_law_1942 (by decide) rfl ?_
  refine r_aload_n C9 (i := 2) 4 dL_law_1944 rfl rfl ?_
  refine r_readV (rest := []) C9 (c_X6_thrown (hM := hM) (rf := k) (x1 := x1) (sz := sz) (x3 := x3) (x4 := x4) (x5 := x5) (ac := ac) (x7 := x7) (x8 := x8) (x9 := x9) (x10 := x10) (x11 := x11) (sp := sp) (ou := ou)) lk_X6_thrown w_5_104 [pm] (ci := 6) rfl dL_law_1945 rfl (by rw [List.map_cons, hpm]; rfl) rfl rfl ⟨by decide, by decide⟩ (Nat.le_of_ble_eq_true rfl) (st' := [.int (nI k)]) rfl ?_
  refine r_iload C9 (i := 5) 1 dL_law_1948 rfl ?_
  refine r_icmp_eqT C9 1955 dL_law_1950 (by decide) rfl ?_
  refine r_iload C9 (i := 5) 1 dL_law_1955 rfl ?_
  by_cases hk : k = 0
  · subst hk
    obtain ⟨g2, hpo, hg2⟩ := hout rfl
    refine r_if_neF C9 (y := 0) (tgt := 1972) dL_law_1957 (by decide) (fun z => z rfl) ?_
    refine r_aload_n C9 (i := 3) 5 dL_law_1960 rfl rfl ?_
    refine r_iconst C9 dL_law_1961 ki_0 ?_
    refine r_lald (v := r2.toInt64) C9 po hpo (by decide) (by decide) hg2 dL_law_1962 ?_
    refine r_iload C9 (i := 6) 0 dL_law_1963 rfl ?_
    refine r_i2l (v := (r2).toInt64) C9 dL_law_1965 rfl ?_
    refine r_lcmp C9 dL_law_1966 rfl ?_
    refine r_if_eqT C9 (y := 0) 1972 dL_law_1967 (by decide) ((lg_cmp_eq _ _).mpr rfl) ?_
    refine r_goto C9 2187 dL_law_1972 (by decide) ?_
    exact r_lv (lv' := (lv0 b hB hM o i)) C9 [2, 3, 4, 5, 6] rfl hgo
  · refine r_if_neT C9 (y := 0) 1972 dL_law_1957 (by decide) ((z_neN (by omega)).mpr hk) ?_
    refine r_goto C9 2187 dL_law_1972 (by decide) ?_
    exact r_lv (lv' := (lv0 b hB hM o i)) C9 [2, 3, 4, 5, 6] rfl hgo
set_option maxRecDepth 100000 in
theorem lc_simulate {l : Launch} {E : Ev} {b L : Nat} {xs : Nat → Int32} {c0 s0 : Nat} {Ω : Nat → Om} (hL : Lw l E b L xs c0 s0 Ω) {j i : Nat} (hj : j < 512) (hi : i + 5 ≤ L) (hL2 : L ≤ 2560) {hB hM o : Nat} {W : va_W} {v1 : Int64} (hv1 : (((((xs (i + 1))).toInt64) <<< ((nI 32).toInt64 &&& 63)) ||| ((((xs (i + 2))).toInt64) &&& (lN 4294967295))) = v1) {v2 : Int32} (hv2 : (xs (i + 3)) = v2) {pm po : Nat} {wc1 : va_W} {is1 : List Nat} {post1 : Option Value → va_W → Prop} (hx : CtX l E yL_simulate method_29_code 6 (some FieldType.int) [(0, 11, 14, 13)] 7 143 [.ref hB, .long v1, .int v2, .ref o] wc1 post1) (hC1 : is1.map (fun i => W[i]?) = wc1.map some) (hn1 : va_nd is1 = true)
    (hf : ∀ (v : Option Value) (w : va_W), post1 v w → ∃ (W1 : va_W) (k : Nat) (wm : va_W) (fs : List Value) (post2 : Option Value → va_W → Prop) (is2 : List Nat), mrg W is1 w = W1 ∧ k < 4 ∧ v = some (.int (nI k)) ∧ Ct l E yX6_simulate cX6_simulate 7 (some FieldType.int) 6 146 [.ref hM, .long v1, .int v2] wm post2 ∧ wm[0]? = some (hM, .inr (6, fs)) ∧ is2.map (fun i => W1[i]?) = wm.map some ∧ va_nd is2 = true ∧ ∀ (v2 : Option Value) (w2 : va_W), post2 v2 w2 → ∃ (W2 : va_W) (r2 : Int32), mrg W1 is2 w2 = W2 ∧ v2 = some (.int r2) ∧ Both E hM o k pm po r2 W2 ∧ Ω (j + 1) W2 (lv0 b hB hM o i) [] 2187) : Ω j W (lv0 b hB hM o i) [] 1975 := by
  subst hv1 hv2
  have C := hL.1 j (by omega)
  have C9 := hL.1 (j + 1) (by omega)
  refine r_aload_n C (i := 1) 1 dL_law_1975 rfl rfl ?_
  refine r_aload_n C (i := 0) 0 dL_law_1976 rfl rfl ?_
  refine r_iload C (i := 4) 4 dL_law_1977 rfl ?_
  refine r_iconst C dL_law_1979 ki_1 ?_
  refine r_iadd (v := nI (i + 1)) C dL_law_1980 (nI_add _ _) ?_
  refine hL.2.2.1 _ _ _ _ _ _ (by omega) dL_law_1981 ?_
  refine r_i2l (v := ((xs (i + 1))).toInt64) C dL_law_1982 rfl ?_
  refine r_bipush C dL_law_1983 kb_32 ?_
  refine r_lshl (v := ((((xs (i + 1))).toInt64) <<< ((nI 32).toInt64 &&& 63))) C dL_law_1985 rfl ?_
  refine r_aload_n C (i := 0) 0 dL_law_1986 rfl rfl ?_
  refine r_iload C (i := 4) 4 dL_law_1987 rfl ?_
  refine r_iconst C dL_law_1989 ki_2 ?_
  refine r_iadd (v := nI (i + 2)) C dL_law_1990 (nI_add _ _) ?_
  refine hL.2.2.1 _ _ _ _ _ _ (by omega) dL_law_1991 ?_
  refine r_i2l (v := ((xs (i + 2))).toInt64) C dL_law_1992 rfl ?_
  refine r_ldc2 (v := lN 4294967295) C dL_law_1993 w_6_167 ?_
  refine r_land (v := ((((xs (i + 2))).toInt64) &&& (lN 4294967295))) C dL_law_1996 rfl ?_
  refine r_lor (v := (((((xs (i + 1))).toInt64) <<< ((nI 32).toInt64 &&& 63)) ||| ((((xs (i + 2))).toInt64) &&& (lN 4294967295)))) C dL_law_1997 rfl ?_
  refine r_aload_n C (i := 0) 0 dL_law_1998 rfl rfl ?_
  refine r_iload C (i := 4) 4 dL_law_1999 rfl ?_
  refine r_iconst C dL_law_2001 ki_3 ?_
  refine r_iadd (v := nI (i + 3)) C dL_law_2002 (nI_add _ _) ?_
  refine hL.2.2.1 _ _ _ _ _ _ (by omega) dL_law_2003 ?_
  refine r_aload_n C (i := 3) 3 dL_law_2004 rfl rfl ?_
  refine hL.2.2.2.2.1 j _ _ _ [] _ _ _ _ _ _ _ _ _ _ _ _ _ hj hx lk_L_simulate w_5_16 dL_law_2005 rfl hC1 hn1 ⟨by decide, by decide⟩ (Nat.le_of_ble_eq_true rfl) (fun v w hp => ?_)
  obtain ⟨W1, k, wm, fs, post2, is2, rfl, hk4, rfl, hm, hr, hC2, hn2, hf2⟩ := hf v w hp
  show Ω (j + 1) _ [(0, .ref b), (1, .ref hB), (2, .ref hM), (3, .ref o), (4, .int (nI i))] [.int (nI k)] 2008
  refine r_istore C9 (lv' := [(5, .int (nI k)), (0, .ref b), (1, .ref hB), (2, .ref hM), (3, .ref o), (4, .int (nI i))]) dL_law_2008 (by decide) rfl ?_
  refine r_aload_n C9 (i := 2) 3 dL_law_2010 rfl rfl ?_
  refine r_aload_n C9 (i := 0) 1 dL_law_2011 rfl rfl ?_
  refine r_iload C9 (i := 4) 5 dL_law_2012 rfl ?_
  refine r_iconst C9 dL_law_2014 ki_1 ?_
  refine r_iadd (v := nI (i + 1)) C9 dL_law_2015 (nI_add _ _) ?_
  refine hL.2.2.1 _ _ _ _ _ _ (by omega) dL_law_2016 ?_
  refine r_i2l (v := ((xs (i + 1))).toInt64) C9 dL_law_2017 rfl ?_
  refine r_bipush C9 dL_law_2018 kb_32 ?_
  refine r_lshl (v := ((((xs (i + 1))).toInt64) <<< ((nI 32).toInt64 &&& 63))) C9 dL_law_2020 rfl ?_
  refine r_aload_n C9 (i := 0) 1 dL_law_2021 rfl rfl ?_
  refine r_iload C9 (i := 4) 5 dL_law_2022 rfl ?_
  refine r_iconst C9 dL_law_2024 ki_2 ?_
  refine r_iadd (v := nI (i + 2)) C9 dL_law_2025 (nI_add _ _) ?_
  refine hL.2.2.1 _ _ _ _ _ _ (by omega) dL_law_2026 ?_
  refine r_i2l (v := ((xs (i + 2))).toInt64) C9 dL_law_2027 rfl ?_
  refine r_ldc2 (v := lN 4294967295) C9 dL_law_2028 w_6_167 ?_
  refine r_land (v := ((((xs (i + 2))).toInt64) &&& (lN 4294967295))) C9 dL_law_2031 rfl ?_
  refine r_lor (v := (((((xs (i + 1))).toInt64) <<< ((nI 32).toInt64 &&& 63)) ||| ((((xs (i + 2))).toInt64) &&& (lN 4294967295)))) C9 dL_law_2032 rfl ?_
  refine r_aload_n C9 (i := 0) 1 dL_law_2033 rfl rfl ?_
  refine r_iload C9 (i := 4) 5 dL_law_2034 rfl ?_
  refine r_iconst C9 dL_law_2036 ki_3 ?_
  refine r_iadd (v := nI (i + 3)) C9 dL_law_2037 (nI_add _ _) ?_
  refine hL.2.2.1 _ _ _ _ _ _ (by omega) dL_law_2038 ?_
  refine r_callV (rest := []) C9 hm lk_X6_simulate w_6_148 is2 (ci := 6) rfl dL_law_2039 rfl hC2 hn2 hr ⟨by decide, by decide⟩ (Nat.le_of_ble_eq_true rfl) (fun v2 w2 hp2 => ?_)
  obtain ⟨W2, r2, rfl, rfl, ⟨⟨qm, hpm, hqm⟩, hout⟩, hgo⟩ := hf2 v2 w2 hp2
  obtain ⟨x1, sz, x3, x4, x5, ac, x7, x8, x9, x10, x11, sp, ou, rfl⟩ := hqm
  show Ω (j + 1) _ [(5, .int (nI k)), (0, .ref b), (1, .ref hB), (2, .ref hM), (3, .ref o), (4, .int (nI i))] [.int r2] 2042
  refine r_istore C9 (lv' := [(6, .int r2), (5, .int (nI k)), (0, .ref b), (1, .ref hB), (2, .ref hM), (3, .ref o), (4, .int (nI i))]) dL_law_2042 (by decide) rfl ?_
  refine r_aload_n C9 (i := 2) 4 dL_law_2044 rfl rfl ?_
  refine r_readV (rest := []) C9 (c_X6_thrown (hM := hM) (rf := k) (x1 := x1) (sz := sz) (x3 := x3) (x4 := x4) (x5 := x5) (ac := ac) (x7 := x7) (x8 := x8) (x9 := x9) (x10 := x10) (x11 := x11) (sp := sp) (ou := ou)) lk_X6_thrown w_5_104 [pm] (ci := 6) rfl dL_law_2045 rfl (by rw [List.map_cons, hpm]; rfl) rfl rfl ⟨by decide, by decide⟩ (Nat.le_of_ble_eq_true rfl) (st' := [.int (nI k)]) rfl ?_
  refine r_iload C9 (i := 5) 1 dL_law_2048 rfl ?_
  refine r_icmp_eqT C9 2055 dL_law_2050 (by decide) rfl ?_
  refine r_iload C9 (i := 5) 1 dL_law_2055 rfl ?_
  by_cases hk : k = 0
  · subst hk
    obtain ⟨g2, hpo, hg2⟩ := hout rfl
    refine r_if_neF C9 (y := 0) (tgt := 2072) dL_law_2057 (by decide) (fun z => z rfl) ?_
    refine r_aload_n C9 (i := 3) 5 dL_law_2060 rfl rfl ?_
    refine r_iconst C9 dL_law_2061 ki_0 ?_
    refine r_lald (v := r2.toInt64) C9 po hpo (by decide) (by decide) hg2 dL_law_2062 ?_
    refine r_iload C9 (i := 6) 0 dL_law_2063 rfl ?_
    refine r_i2l (v := (r2).toInt64) C9 dL_law_2065 rfl ?_
    refine r_lcmp C9 dL_law_2066 rfl ?_
    refine r_if_eqT C9 (y := 0) 2072 dL_law_2067 (by decide) ((lg_cmp_eq _ _).mpr rfl) ?_
    refine r_goto C9 2187 dL_law_2072 (by decide) ?_
    exact r_lv (lv' := (lv0 b hB hM o i)) C9 [2, 3, 4, 5, 6] rfl hgo
  · refine r_if_neT C9 (y := 0) 2072 dL_law_2057 (by decide) ((z_neN (by omega)).mpr hk) ?_
    refine r_goto C9 2187 dL_law_2072 (by decide) ?_
    exact r_lv (lv' := (lv0 b hB hM o i)) C9 [2, 3, 4, 5, 6] rfl hgo
set_option maxRecDepth 100000 in
theorem lc_save {l : Launch} {E : Ev} {b L : Nat} {xs : Nat → Int32} {c0 s0 : Nat} {Ω : Nat → Om} (hL : Lw l E b L xs c0 s0 Ω) {j i : Nat} (hj : j < 512) (hi : i + 5 ≤ L) (hL2 : L ≤ 2560) {hB hM o : Nat} {W : va_W} {v1 : Int32} (hv1 : (xs (i + 1)) = v1) {pm po : Nat} {wc1 : va_W} {is1 : List Nat} {post1 : Option Value → va_W → Prop} (hx : CtX l E yL_save method_30_code 4 (some FieldType.int) [(0, 9, 12, 28)] 8 131 [.ref hB, .int v1, .ref o] wc1 post1) (hC1 : is1.map (fun i => W[i]?) = wc1.map some) (hn1 : va_nd is1 = true)
    (hf : ∀ (v : Option Value) (w : va_W), post1 v w → ∃ (W1 : va_W) (k : Nat) (wm : va_W) (fs : List Value) (post2 : Option Value → va_W → Prop) (is2 : List Nat), mrg W is1 w = W1 ∧ k < 4 ∧ v = some (.int (nI k)) ∧ Ct l E yX6_save cX6_save 2 (some FieldType.int) 1 25 [.ref hM, .int v1] wm post2 ∧ wm[0]? = some (hM, .inr (6, fs)) ∧ is2.map (fun i => W1[i]?) = wm.map some ∧ va_nd is2 = true ∧ ∀ (v2 : Option Value) (w2 : va_W), post2 v2 w2 → ∃ (W2 : va_W) (r2 : Int32), mrg W1 is2 w2 = W2 ∧ v2 = some (.int r2) ∧ Both E hM o k pm po r2 W2 ∧ Ω (j + 1) W2 (lv0 b hB hM o i) [] 2187) : Ω j W (lv0 b hB hM o i) [] 2075 := by
  subst hv1
  have C := hL.1 j (by omega)
  have C9 := hL.1 (j + 1) (by omega)
  refine r_aload_n C (i := 1) 1 dL_law_2075 rfl rfl ?_
  refine r_aload_n C (i := 0) 0 dL_law_2076 rfl rfl ?_
  refine r_iload C (i := 4) 4 dL_law_2077 rfl ?_
  refine r_iconst C dL_law_2079 ki_1 ?_
  refine r_iadd (v := nI (i + 1)) C dL_law_2080 (nI_add _ _) ?_
  refine hL.2.2.1 _ _ _ _ _ _ (by omega) dL_law_2081 ?_
  refine r_aload_n C (i := 3) 3 dL_law_2082 rfl rfl ?_
  refine hL.2.2.2.2.1 j _ _ _ [] _ _ _ _ _ _ _ _ _ _ _ _ _ hj hx lk_L_save w_5_31 dL_law_2083 rfl hC1 hn1 ⟨by decide, by decide⟩ (Nat.le_of_ble_eq_true rfl) (fun v w hp => ?_)
  obtain ⟨W1, k, wm, fs, post2, is2, rfl, hk4, rfl, hm, hr, hC2, hn2, hf2⟩ := hf v w hp
  show Ω (j + 1) _ [(0, .ref b), (1, .ref hB), (2, .ref hM), (3, .ref o), (4, .int (nI i))] [.int (nI k)] 2086
  refine r_istore C9 (lv' := [(5, .int (nI k)), (0, .ref b), (1, .ref hB), (2, .ref hM), (3, .ref o), (4, .int (nI i))]) dL_law_2086 (by decide) rfl ?_
  refine r_aload_n C9 (i := 2) 3 dL_law_2088 rfl rfl ?_
  refine r_aload_n C9 (i := 0) 1 dL_law_2089 rfl rfl ?_
  refine r_iload C9 (i := 4) 5 dL_law_2090 rfl ?_
  refine r_iconst C9 dL_law_2092 ki_1 ?_
  refine r_iadd (v := nI (i + 1)) C9 dL_law_2093 (nI_add _ _) ?_
  refine hL.2.2.1 _ _ _ _ _ _ (by omega) dL_law_2094 ?_
  refine r_callV (rest := []) C9 hm lk_X6_save w_6_159 is2 (ci := 6) rfl dL_law_2095 rfl hC2 hn2 hr ⟨by decide, by decide⟩ (Nat.le_of_ble_eq_true rfl) (fun v2 w2 hp2 => ?_)
  obtain ⟨W2, r2, rfl, rfl, ⟨⟨qm, hpm, hqm⟩, hout⟩, hgo⟩ := hf2 v2 w2 hp2
  obtain ⟨x1, sz, x3, x4, x5, ac, x7, x8, x9, x10, x11, sp, ou, rfl⟩ := hqm
  show Ω (j + 1) _ [(5, .int (nI k)), (0, .ref b), (1, .ref hB), (2, .ref hM), (3, .ref o), (4, .int (nI i))] [.int r2] 2098
  refine r_istore C9 (lv' := [(6, .int r2), (5, .int (nI k)), (0, .ref b), (1, .ref hB), (2, .ref hM), (3, .ref o), (4, .int (nI i))]) dL_law_2098 (by decide) rfl ?_
  refine r_aload_n C9 (i := 2) 4 dL_law_2100 rfl rfl ?_
  refine r_readV (rest := []) C9 (c_X6_thrown (hM := hM) (rf := k) (x1 := x1) (sz := sz) (x3 := x3) (x4 := x4) (x5 := x5) (ac := ac) (x7 := x7) (x8 := x8) (x9 := x9) (x10 := x10) (x11 := x11) (sp := sp) (ou := ou)) lk_X6_thrown w_5_104 [pm] (ci := 6) rfl dL_law_2101 rfl (by rw [List.map_cons, hpm]; rfl) rfl rfl ⟨by decide, by decide⟩ (Nat.le_of_ble_eq_true rfl) (st' := [.int (nI k)]) rfl ?_
  refine r_iload C9 (i := 5) 1 dL_law_2104 rfl ?_
  refine r_icmp_eqT C9 2111 dL_law_2106 (by decide) rfl ?_
  refine r_iload C9 (i := 5) 1 dL_law_2111 rfl ?_
  by_cases hk : k = 0
  · subst hk
    obtain ⟨g2, hpo, hg2⟩ := hout rfl
    refine r_if_neF C9 (y := 0) (tgt := 2128) dL_law_2113 (by decide) (fun z => z rfl) ?_
    refine r_aload_n C9 (i := 3) 5 dL_law_2116 rfl rfl ?_
    refine r_iconst C9 dL_law_2117 ki_0 ?_
    refine r_lald (v := r2.toInt64) C9 po hpo (by decide) (by decide) hg2 dL_law_2118 ?_
    refine r_iload C9 (i := 6) 0 dL_law_2119 rfl ?_
    refine r_i2l (v := (r2).toInt64) C9 dL_law_2121 rfl ?_
    refine r_lcmp C9 dL_law_2122 rfl ?_
    refine r_if_eqT C9 (y := 0) 2128 dL_law_2123 (by decide) ((lg_cmp_eq _ _).mpr rfl) ?_
    refine r_goto C9 2187 dL_law_2128 (by decide) ?_
    exact r_lv (lv' := (lv0 b hB hM o i)) C9 [2, 3, 4, 5, 6] rfl hgo
  · refine r_if_neT C9 (y := 0) 2128 dL_law_2113 (by decide) ((z_neN (by omega)).mpr hk) ?_
    refine r_goto C9 2187 dL_law_2128 (by decide) ?_
    exact r_lv (lv' := (lv0 b hB hM o i)) C9 [2, 3, 4, 5, 6] rfl hgo
set_option maxRecDepth 100000 in
theorem lc_restore {l : Launch} {E : Ev} {b L : Nat} {xs : Nat → Int32} {c0 s0 : Nat} {Ω : Nat → Om} (hL : Lw l E b L xs c0 s0 Ω) {j i : Nat} (hj : j < 512) (hi : i + 5 ≤ L) (hL2 : L ≤ 2560) {hB hM o : Nat} {W : va_W} {v1 : Int32} (hv1 : (xs (i + 1)) = v1) {pm po : Nat} {wc1 : va_W} {is1 : List Nat} {post1 : Option Value → va_W → Prop} (hx : CtX l E yL_restore method_31_code 4 (some FieldType.int) [(0, 9, 12, 28), (0, 9, 15, 15)] 8 131 [.ref hB, .int v1, .ref o] wc1 post1) (hC1 : is1.map (fun i => W[i]?) = wc1.map some) (hn1 : va_nd is1 = true)
    (hf : ∀ (v : Option Value) (w : va_W), post1 v w → ∃ (W1 : va_W) (k : Nat) (wm : va_W) (fs : List Value) (post2 : Option Value → va_W → Prop) (is2 : List Nat), mrg W is1 w = W1 ∧ k < 4 ∧ v = some (.int (nI k)) ∧ Ct l E yX6_restore cX6_restore 2 (some FieldType.int) 1 25 [.ref hM, .int v1] wm post2 ∧ wm[0]? = some (hM, .inr (6, fs)) ∧ is2.map (fun i => W1[i]?) = wm.map some ∧ va_nd is2 = true ∧ ∀ (v2 : Option Value) (w2 : va_W), post2 v2 w2 → ∃ (W2 : va_W) (r2 : Int32), mrg W1 is2 w2 = W2 ∧ v2 = some (.int r2) ∧ Both E hM o k pm po r2 W2 ∧ Ω (j + 1) W2 (lv0 b hB hM o i) [] 2187) : Ω j W (lv0 b hB hM o i) [] 2131 := by
  subst hv1
  have C := hL.1 j (by omega)
  have C9 := hL.1 (j + 1) (by omega)
  refine r_aload_n C (i := 1) 1 dL_law_2131 rfl rfl ?_
  refine r_aload_n C (i := 0) 0 dL_law_2132 rfl rfl ?_
  refine r_iload C (i := 4) 4 dL_law_2133 rfl ?_
  refine r_iconst C dL_law_2135 ki_1 ?_
  refine r_iadd (v := nI (i + 1)) C dL_law_2136 (nI_add _ _) ?_
  refine hL.2.2.1 _ _ _ _ _ _ (by omega) dL_law_2137 ?_
  refine r_aload_n C (i := 3) 3 dL_law_2138 rfl rfl ?_
  refine hL.2.2.2.2.1 j _ _ _ [] _ _ _ _ _ _ _ _ _ _ _ _ _ hj hx lk_L_restore w_5_43 dL_law_2139 rfl hC1 hn1 ⟨by decide, by decide⟩ (Nat.le_of_ble_eq_true rfl) (fun v w hp => ?_)
  obtain ⟨W1, k, wm, fs, post2, is2, rfl, hk4, rfl, hm, hr, hC2, hn2, hf2⟩ := hf v w hp
  show Ω (j + 1) _ [(0, .ref b), (1, .ref hB), (2, .ref hM), (3, .ref o), (4, .int (nI i))] [.int (nI k)] 2142
  refine r_istore C9 (lv' := [(5, .int (nI k)), (0, .ref b), (1, .ref hB), (2, .ref hM), (3, .ref o), (4, .int (nI i))]) dL_law_2142 (by decide) rfl ?_
  refine r_aload_n C9 (i := 2) 3 dL_law_2144 rfl rfl ?_
  refine r_aload_n C9 (i := 0) 1 dL_law_2145 rfl rfl ?_
  refine r_iload C9 (i := 4) 5 dL_law_2146 rfl ?_
  refine r_iconst C9 dL_law_2148 ki_1 ?_
  refine r_iadd (v := nI (i + 1)) C9 dL_law_2149 (nI_add _ _) ?_
  refine hL.2.2.1 _ _ _ _ _ _ (by omega) dL_law_2150 ?_
  refine r_callV (rest := []) C9 hm lk_X6_restore w_6_163 is2 (ci := 6) rfl dL_law_2151 rfl hC2 hn2 hr ⟨by decide, by decide⟩ (Nat.le_of_ble_eq_true rfl) (fun v2 w2 hp2 => ?_)
  obtain ⟨W2, r2, rfl, rfl, ⟨⟨qm, hpm, hqm⟩, hout⟩, hgo⟩ := hf2 v2 w2 hp2
  obtain ⟨x1, sz, x3, x4, x5, ac, x7, x8, x9, x10, x11, sp, ou, rfl⟩ := hqm
  show Ω (j + 1) _ [(5, .int (nI k)), (0, .ref b), (1, .ref hB), (2, .ref hM), (3, .ref o), (4, .int (nI i))] [.int r2] 2154
  refine r_istore C9 (lv' := [(6, .int r2), (5, .int (nI k)), (0, .ref b), (1, .ref hB), (2, .ref hM), (3, .ref o), (4, .int (nI i))]) dL_law_2154 (by decide) rfl ?_
  refine r_aload_n C9 (i := 2) 4 dL_law_2156 rfl rfl ?_
  refine r_readV (rest := []) C9 (c_X6_thrown (hM := hM) (rf := k) (x1 := x1) (sz := sz) (x3 := x3) (x4 := x4) (x5 := x5) (ac := ac) (x7 := x7) (x8 := x8) (x9 := x9) (x10 := x10) (x11 := x11) (sp := sp) (ou := ou)) lk_X6_thrown w_5_104 [pm] (ci := 6) rfl dL_law_2157 rfl (by rw [List.map_cons, hpm]; rfl) rfl rfl ⟨by decide, by decide⟩ (Nat.le_of_ble_eq_true rfl) (st' := [.int (nI k)]) rfl ?_
  refine r_iload C9 (i := 5) 1 dL_law_2160 rfl ?_
  refine r_icmp_eqT C9 2167 dL_law_2162 (by decide) rfl ?_
  refine r_iload C9 (i := 5) 1 dL_law_2167 rfl ?_
  by_cases hk : k = 0
  · subst hk
    obtain ⟨g2, hpo, hg2⟩ := hout rfl
    refine r_if_neF C9 (y := 0) (tgt := 2184) dL_law_2169 (by decide) (fun z => z rfl) ?_
    refine r_aload_n C9 (i := 3) 5 dL_law_2172 rfl rfl ?_
    refine r_iconst C9 dL_law_2173 ki_0 ?_
    refine r_lald (v := r2.toInt64) C9 po hpo (by decide) (by decide) hg2 dL_law_2174 ?_
    refine r_iload C9 (i := 6) 0 dL_law_2175 rfl ?_
    refine r_i2l (v := (r2).toInt64) C9 dL_law_2177 rfl ?_
    refine r_lcmp C9 dL_law_2178 rfl ?_
    refine r_if_eqT C9 (y := 0) 2184 dL_law_2179 (by decide) ((lg_cmp_eq _ _).mpr rfl) ?_
    refine r_goto C9 2187 dL_law_2184 (by decide) ?_
    exact r_lv (lv' := (lv0 b hB hM o i)) C9 [2, 3, 4, 5, 6] rfl hgo
  · refine r_if_neT C9 (y := 0) 2184 dL_law_2169 (by decide) ((z_neN (by omega)).mpr hk) ?_
    refine r_goto C9 2187 dL_law_2184 (by decide) ?_
    exact r_lv (lv' := (lv0 b hB hM o i)) C9 [2, 3, 4, 5, 6] rfl hgo
