theorem bm_tb {b : Nat → Nat} (h : ∀ k, b k ≤ 1) (n k : Nat) : (bm b n).testBit k = decide (k < n ∧ b k = 1) := by
  rw [Nat.testBit_eq_decide_div_mod_eq]
  rcases Nat.lt_or_ge k n with q | q
  · rw [bm_bit h q]; simp [q]
  · rw [bm_hi h q]; simp; omega
theorem bm_set {b : Nat → Nat} (h : ∀ k, b k ≤ 1) {n a : Nat} (ha : a < n) : bm b n ||| 2 ^ a = bm (fun k => if k = a then 1 else b k) n := by
  have h2 : ∀ k, (fun k => if k = a then 1 else b k) k ≤ 1 := fun k => by dsimp only; split; exact Nat.le_refl 1; exact h k
  refine Nat.eq_of_testBit_eq fun k => ?_
  rw [Nat.testBit_or, Nat.testBit_two_pow, bm_tb h, bm_tb h2]
  by_cases e : k = a
  · subst e; simp [ha]
  · simp [e, Ne.symm e]
theorem bm_clr {b : Nat → Nat} (h : ∀ k, b k ≤ 1) {n a : Nat} : bm b n ^^^ (bm b n &&& 2 ^ a) = bm (fun k => if k = a then 0 else b k) n := by
  have h2 : ∀ k, (fun k => if k = a then 0 else b k) k ≤ 1 := fun k => by dsimp only; split; exact Nat.zero_le 1; exact h k
  refine Nat.eq_of_testBit_eq fun k => ?_
  rw [Nat.testBit_xor, Nat.testBit_and, Nat.testBit_two_pow, bm_tb h, bm_tb h2]
  by_cases e : k = a
  · subst e; simp
  · simp [e, Ne.symm e]
theorem illC {σ : Sg} (hW : Wf σ) {a n : Nat} (ha : a < 10) : bm (fun b => sI σ b n) 10 ||| 2 ^ a = bm (fun b => sI (oIll σ a n 1) b n) 10 := by
  rw [bm_set (fun b => hW.I b n) ha]
  exact bm_cong fun b _ => by rw [ill_I]; by_cases e : b = a <;> simp [e]
theorem illC0 {σ : Sg} (hW : Wf σ) {a n : Nat} : bm (fun b => sI σ b n) 10 ^^^ (bm (fun b => sI σ b n) 10 &&& 2 ^ a) = bm (fun b => sI (oIll σ a n 0) b n) 10 := by
  rw [bm_clr (fun b => hW.I b n)]
  exact bm_cong fun b _ => by rw [ill_I]; by_cases e : b = a <;> simp [e]
theorem illM {σ : Sg} (hW : Wf σ) {a n : Nat} (hn : n < 20) : bm (fun m => sI σ a m) 20 ||| 2 ^ n = bm (fun m => sI (oIll σ a n 1) a m) 20 := by
  rw [bm_set (fun b => hW.I a b) hn]
  exact bm_cong fun b _ => by rw [ill_I]; by_cases e : b = n <;> simp [e]
theorem illM0 {σ : Sg} (hW : Wf σ) {a n : Nat} : bm (fun m => sI σ a m) 20 ^^^ (bm (fun m => sI σ a m) 20 &&& 2 ^ n) = bm (fun m => sI (oIll σ a n 0) a m) 20 := by
  rw [bm_clr (fun b => hW.I a b)]
  exact bm_cong fun b _ => by rw [ill_I]; by_cases e : b = n <;> simp [e]
set_option maxRecDepth 100000 in
set_option maxHeartbeats 1000000 in
theorem c_X4_clear {l : Launch} {E : Ev} {h0 q1 : Nat} {f : Nat → Int32} : Ct l E yX4_clear cX4_clear 2 none 0 0 [.ref h0] [(h0, .inr (4, [.ref q1])), (q1, .inl (eI E, 265, .inl f))] (fun v9 w9 => ∃ f2 : Nat → Int32, v9 = none ∧ w9 = [(h0, .inr (4, [.ref q1])), (q1, .inl (eI E, 265, .inl f2))] ∧ RepC o0 f2) := by
  refine ct_of (by decide +kernel) (Nat.le_of_ble_eq_true rfl) (fun ω C RT => ?_)
  show ω [(h0, .inr (4, [.ref q1])), (q1, .inl (eI E, 265, .inl f))] [(0, .ref h0)] [] 0
  refine r_iconst C dX4_clear_0 ki_0 ?_
  refine r_istore_n C (lv' := [(1, .int (nI 0)), (0, .ref h0)]) dX4_clear_1 rfl (by decide) rfl ?_
  have loop2_1 : ∀ (dd9 : Nat) (i : Nat) (f2 : Nat → Int32), 265 - i < dd9 → (i ≤ 265) → (f2 = castF f 0 i (nI 0)) → ω [(h0, .inr (4, [.ref q1])), (q1, .inl (eI E, 265, .inl f2))] [(1, .int (nI i)), (0, .ref h0)] [] 2 := by
    intro dd9
    induction dd9 with
    | zero => intro i f2 hd; exact absurd hd (Nat.not_lt_zero _)
    | succ dd9 ih2 =>
      intro i f2 hd hi hf
      refine r_iload_n C (i := 1) 0 dX4_clear_2 rfl rfl ?_
      refine r_sipush C dX4_clear_3 ks_265 ?_
      refine r_icmp_ge C (c9 := 265 ≤ i) 22 dX4_clear_6 (by decide) (c_leNN (by omega) (by omega)) (fun h6_3 => ?_) (fun h6_3 => ?_)
      · refine r_aload_n C (i := 0) 1 dX4_clear_22 rfl rfl ?_
        refine r_get C 0 0 uX4 rfl rfl (by decide) w_1_38 rfl dX4_clear_23 ?_
        refine r_iconst C dX4_clear_26 ki_3 ?_
        refine r_bipush C dX4_clear_27 kb_20 ?_
        refine r_iast (j := 3) (ws' := [(h0, .inr (4, [.ref q1])), (q1, .inl (eI E, 265, .inl (upd f2 3 (nI 20))))]) C 1 rfl (by omega) (by decide) rfl dX4_clear_29 ?_
        refine r_aload_n C (i := 0) 1 dX4_clear_30 rfl rfl ?_
        refine r_get C 0 0 uX4 rfl rfl (by decide) w_1_38 rfl dX4_clear_31 ?_
        refine r_iconst C dX4_clear_34 ki_4 ?_
        refine r_iconst C dX4_clear_35 ki_3 ?_
        refine r_iast (j := 4) (ws' := [(h0, .inr (4, [.ref q1])), (q1, .inl (eI E, 265, .inl (upd (upd f2 3 (nI 20)) 4 (nI 3))))]) C 1 rfl (by omega) (by decide) rfl dX4_clear_36 ?_
        exact RT.2.2.1 _ _ _ dX4_clear_37 rfl (⟨_, rfl, rfl, by rw [hf, (by omega : i = 265)]; exact RepC_0 f⟩) rfl
      · refine r_aload_n C (i := 0) 1 dX4_clear_9 rfl rfl ?_
        refine r_get C 0 0 uX4 rfl rfl (by decide) w_1_38 rfl dX4_clear_10 ?_
        refine r_iload_n C (i := 1) 0 dX4_clear_13 rfl rfl ?_
        refine r_iconst C dX4_clear_14 ki_0 ?_
        refine r_iast (j := i) (ws' := [(h0, .inr (4, [.ref q1])), (q1, .inl (eI E, 265, .inl (upd f2 i (nI 0))))]) C 1 rfl (by omega) (by decide) rfl dX4_clear_15 ?_
        refine r_iinc C (lv' := [(1, .int (nI (i + 1))), (0, .ref h0)]) (v := nI (i + 1)) 0 dX4_clear_16 rfl (v_inc _) (by decide) rfl ?_
        refine r_goto C 2 dX4_clear_19 (by decide) ?_
        exact ih2 (i + 1) (upd f2 i (nI 0)) (by omega) (by omega) (by rw [hf]; exact castF_s (by omega))
  exact loop2_1 _ 0 f (Nat.lt_succ_self _) (by omega) (castF_0 f 0 (nI 0))
set_option maxRecDepth 100000 in
set_option maxHeartbeats 1000000 in
theorem c_X4_copyOf {l : Launch} {E : Ev} {h0 q1 h2 q3 : Nat} {f g : Nat → Int32} {σ : Sg} (hR : RepC σ g) (hW : Wf σ) : Ct l E yX4_copyOf cX4_copyOf 2 none 1 30 [.ref h0, .ref h2] [(h0, .inr (4, [.ref q1])), (q1, .inl (eI E, 265, .inl f)), (h2, .inr (4, [.ref q3])), (q3, .inl (eI E, 265, .inl g))] (fun v9 w9 => ∃ f2 : Nat → Int32, v9 = none ∧ w9 = [(h0, .inr (4, [.ref q1])), (q1, .inl (eI E, 265, .inl f2)), (h2, .inr (4, [.ref q3])), (q3, .inl (eI E, 265, .inl g))] ∧ RepC σ f2) := by
  refine ct_of (by decide +kernel) (Nat.le_of_ble_eq_true rfl) (fun ω C RT => ?_)
  show ω [(h0, .inr (4, [.ref q1])), (q1, .inl (eI E, 265, .inl f)), (h2, .inr (4, [.ref q3])), (q3, .inl (eI E, 265, .inl g))] [(0, .ref h0), (1, .ref h2)] [] 0
  refine r_aload_n C (i := 1) 1 dX4_copyOf_0 rfl rfl ?_
  refine r_ifnull C dX4_copyOf_1 ?_
  refine r_aload_n C (i := 1) 1 dX4_copyOf_4 rfl rfl ?_
  refine r_get C 2 0 uX4 rfl rfl (by decide) w_1_38 rfl dX4_copyOf_5 ?_
  refine r_iconst C dX4_copyOf_8 ki_0 ?_
  refine r_aload_n C (i := 0) 0 dX4_copyOf_9 rfl rfl ?_
  refine r_get C 0 0 uX4 rfl rfl (by decide) w_1_38 rfl dX4_copyOf_10 ?_
  refine r_iconst C dX4_copyOf_13 ki_0 ?_
  refine r_sipush C dX4_copyOf_14 ks_265 ?_
  refine r_copy (sp := 0) (dp := 0) (n := 265) (ws' := [(h0, .inr (4, [.ref q1])), (q1, .inl (eI E, 265, .inl (va_cpy g f 0 0 265))), (h2, .inr (4, [.ref q3])), (q3, .inl (eI E, 265, .inl g))]) C 3 1 w_2_24 rfl rfl (by omega) (by omega) (by decide) (by decide) (by decide) (by decide +kernel) (Nat.le_of_ble_eq_true rfl) rfl dX4_copyOf_17 ?_
  exact RT.2.2.1 _ _ _ dX4_copyOf_20 rfl (⟨_, rfl, rfl, RepC_eq hW hR (fun j hj => by rw [cpyWhole hj, Nat.zero_add])⟩) rfl
set_option maxRecDepth 100000 in
set_option maxHeartbeats 1000000 in
theorem c_X4_isPlace__h {l : Launch} {E : Ev} {q2 : Nat} {F : Nat → Int32} {k : Nat} (hk : k < 14) : Cr l E yX4_isPlace cX4_isPlace 2 (some FieldType.boolean) 0 0 [.ref q2, .int (nI k)] [(q2, .inl (eI E, 3710, .inl F))] (some (.int (bP (k < 14)))) := by
  refine ct_of (by decide +kernel) (Nat.le_of_ble_eq_true rfl) (fun ω C RT => ?_)
  show ω [(q2, .inl (eI E, 3710, .inl F))] [(0, .ref q2), (1, .int (nI k))] [] 0
  refine r_aload_n C (i := 0) 0 dX4_isPlace_0 rfl rfl ?_
  refine r_ifnull C dX4_isPlace_1 ?_
  refine r_iload_n C (i := 1) 1 dX4_isPlace_4 rfl rfl ?_
  refine r_if_ltF C (y := 0) (tgt := 22) dX4_isPlace_5 (by decide) (fun z => ((by omega) : ¬ (k < 0)) ((z_ltN (by omega)).mp z)) ?_
  refine r_iload_n C (i := 1) 1 dX4_isPlace_8 rfl rfl ?_
  refine r_aload_n C (i := 0) 0 dX4_isPlace_9 rfl rfl ?_
  refine r_alen C 0 rfl dX4_isPlace_10 ?_
  refine r_sipush C dX4_isPlace_11 ks_265 ?_
  refine r_idiv (v := nI (3710 / 265)) C dX4_isPlace_14 (v_nz (by omega) (by omega)) (v_div (by omega) (by omega) (by omega)) ?_
  refine r_icmp_geF C (tgt := 22) dX4_isPlace_15 (by decide) (fun z => ((by omega) : ¬ (3710 / 265 ≤ k)) ((c_leNN (by omega) (by omega)).mp z)) ?_
  refine r_iconst C dX4_isPlace_18 ki_1 ?_
  refine r_goto C 23 dX4_isPlace_19 (by decide) ?_
  exact RT.1 _ _ _ _ _ dX4_isPlace_23 rfl nar_1 (rd_i (bP_t (by omega))) rfl
set_option maxRecDepth 100000 in
set_option maxHeartbeats 1000000 in
theorem c_X4_storeIn__h {l : Launch} {E : Ev} {h0 q1 q2 : Nat} {f F : Nat → Int32} {k : Nat} (hk : k < 14) : Ct l E yX4_storeIn cX4_storeIn 3 none 1 30 [.ref h0, .ref q2, .int (nI k)] [(h0, .inr (4, [.ref q1])), (q1, .inl (eI E, 265, .inl f)), (q2, .inl (eI E, 3710, .inl F))] (fun v9 w9 => v9 = none ∧ w9 = [(h0, .inr (4, [.ref q1])), (q1, .inl (eI E, 265, .inl f)), (q2, .inl (eI E, 3710, .inl (va_cpy f F 0 (k * 265) 265)))]) := by
  refine ct_of (by decide +kernel) (Nat.le_of_ble_eq_true rfl) (fun ω C RT => ?_)
  show ω [(h0, .inr (4, [.ref q1])), (q1, .inl (eI E, 265, .inl f)), (q2, .inl (eI E, 3710, .inl F))] [(0, .ref h0), (1, .ref q2), (2, .int (nI k))] [] 0
  refine r_aload_n C (i := 1) 1 dX4_storeIn_0 rfl rfl ?_
  refine r_iload_n C (i := 2) 2 dX4_storeIn_1 rfl rfl ?_
  refine r_readS (rest := []) C (c_X4_isPlace__h (q2 := q2) (F := F) (k := k) (hk := (by omega))) lk_X4_isPlace w_2_21 [2] dX4_storeIn_2 rfl rfl rfl ⟨by decide, by decide⟩ (Nat.le_of_ble_eq_true rfl) (st' := [.int (bP (k < 14))]) rfl ?_
  refine r_if_eqF C (y := 0) (tgt := 25) dX4_storeIn_5 (by decide) (fun z => ((by omega) : ¬ (¬ (k < 14))) (z_eqB.mp z)) ?_
  refine r_aload_n C (i := 0) 0 dX4_storeIn_8 rfl rfl ?_
  refine r_get C 0 0 uX4 rfl rfl (by decide) w_1_38 rfl dX4_storeIn_9 ?_
  refine r_iconst C dX4_storeIn_12 ki_0 ?_
  refine r_aload_n C (i := 1) 1 dX4_storeIn_13 rfl rfl ?_
  refine r_iload_n C (i := 2) 2 dX4_storeIn_14 rfl rfl ?_
  refine r_sipush C dX4_storeIn_15 ks_265 ?_
  refine r_imul (v := nI (k * 265)) C dX4_storeIn_18 (pk_mul _ _) ?_
  refine r_sipush C dX4_storeIn_19 ks_265 ?_
  refine r_copy (sp := 0) (dp := k * 265) (n := 265) (ws' := [(h0, .inr (4, [.ref q1])), (q1, .inl (eI E, 265, .inl f)), (q2, .inl (eI E, 3710, .inl (va_cpy f F 0 (k * 265) 265)))]) C 1 2 w_2_24 rfl rfl (by omega) (by omega) (by decide) (by decide) (by decide) (by decide +kernel) (Nat.le_of_ble_eq_true rfl) rfl dX4_storeIn_22 ?_
  exact RT.2.2.1 _ _ _ dX4_storeIn_25 rfl (⟨rfl, rfl⟩) rfl
set_option maxRecDepth 100000 in
set_option maxHeartbeats 1000000 in
theorem c_X4_fetchFrom__h {l : Launch} {E : Ev} {h0 q1 q2 : Nat} {f F : Nat → Int32} {k : Nat} {σ : Sg} (hk : k < 14) (hW : Wf σ) (hF : RepC σ (fun j => F (k * 265 + j))) : Ct l E yX4_fetchFrom cX4_fetchFrom 3 none 1 30 [.ref h0, .ref q2, .int (nI k)] [(h0, .inr (4, [.ref q1])), (q1, .inl (eI E, 265, .inl f)), (q2, .inl (eI E, 3710, .inl F))] (fun v9 w9 => ∃ f2 : Nat → Int32, v9 = none ∧ w9 = [(h0, .inr (4, [.ref q1])), (q1, .inl (eI E, 265, .inl f2)), (q2, .inl (eI E, 3710, .inl F))] ∧ RepC σ f2) := by
  refine ct_of (by decide +kernel) (Nat.le_of_ble_eq_true rfl) (fun ω C RT => ?_)
  show ω [(h0, .inr (4, [.ref q1])), (q1, .inl (eI E, 265, .inl f)), (q2, .inl (eI E, 3710, .inl F))] [(0, .ref h0), (1, .ref q2), (2, .int (nI k))] [] 0
  refine r_aload_n C (i := 1) 1 dX4_fetchFrom_0 rfl rfl ?_
  refine r_iload_n C (i := 2) 2 dX4_fetchFrom_1 rfl rfl ?_
  refine r_readS (rest := []) C (c_X4_isPlace__h (q2 := q2) (F := F) (k := k) (hk := (by omega))) lk_X4_isPlace w_2_21 [2] dX4_fetchFrom_2 rfl rfl rfl ⟨by decide, by decide⟩ (Nat.le_of_ble_eq_true rfl) (st' := [.int (bP (k < 14))]) rfl ?_
  refine r_if_eqF C (y := 0) (tgt := 25) dX4_fetchFrom_5 (by decide) (fun z => ((by omega) : ¬ (¬ (k < 14))) (z_eqB.mp z)) ?_
  refine r_aload_n C (i := 1) 1 dX4_fetchFrom_8 rfl rfl ?_
  refine r_iload_n C (i := 2) 2 dX4_fetchFrom_9 rfl rfl ?_
  refine r_sipush C dX4_fetchFrom_10 ks_265 ?_
  refine r_imul (v := nI (k * 265)) C dX4_fetchFrom_13 (pk_mul _ _) ?_
  refine r_aload_n C (i := 0) 0 dX4_fetchFrom_14 rfl rfl ?_
  refine r_get C 0 0 uX4 rfl rfl (by decide) w_1_38 rfl dX4_fetchFrom_15 ?_
  refine r_iconst C dX4_fetchFrom_18 ki_0 ?_
  refine r_sipush C dX4_fetchFrom_19 ks_265 ?_
  refine r_copy (sp := k * 265) (dp := 0) (n := 265) (ws' := [(h0, .inr (4, [.ref q1])), (q1, .inl (eI E, 265, .inl (va_cpy F f (k * 265) 0 265))), (q2, .inl (eI E, 3710, .inl F))]) C 2 1 w_2_24 rfl rfl (by omega) (by omega) (by decide) (by decide) (by decide) (by decide +kernel) (Nat.le_of_ble_eq_true rfl) rfl dX4_fetchFrom_22 ?_
  exact RT.2.2.1 _ _ _ dX4_fetchFrom_25 rfl (⟨_, rfl, rfl, RepC_eq hW hF (fun j hj => cpyWhole hj)⟩) rfl
set_option maxRecDepth 100000 in
set_option maxHeartbeats 1000000 in
theorem c_X4_isPlace__s {l : Launch} {E : Ev} {q2 : Nat} {F : Nat → Int32} {k : Nat} (hk : k < 2) : Cr l E yX4_isPlace cX4_isPlace 2 (some FieldType.boolean) 0 0 [.ref q2, .int (nI k)] [(q2, .inl (eI E, 530, .inl F))] (some (.int (bP (k < 2)))) := by
  refine ct_of (by decide +kernel) (Nat.le_of_ble_eq_true rfl) (fun ω C RT => ?_)
  show ω [(q2, .inl (eI E, 530, .inl F))] [(0, .ref q2), (1, .int (nI k))] [] 0
  refine r_aload_n C (i := 0) 0 dX4_isPlace_0 rfl rfl ?_
  refine r_ifnull C dX4_isPlace_1 ?_
  refine r_iload_n C (i := 1) 1 dX4_isPlace_4 rfl rfl ?_
  refine r_if_ltF C (y := 0) (tgt := 22) dX4_isPlace_5 (by decide) (fun z => ((by omega) : ¬ (k < 0)) ((z_ltN (by omega)).mp z)) ?_
  refine r_iload_n C (i := 1) 1 dX4_isPlace_8 rfl rfl ?_
  refine r_aload_n C (i := 0) 0 dX4_isPlace_9 rfl rfl ?_
  refine r_alen C 0 rfl dX4_isPlace_10 ?_
  refine r_sipush C dX4_isPlace_11 ks_265 ?_
  refine r_idiv (v := nI (530 / 265)) C dX4_isPlace_14 (v_nz (by omega) (by omega)) (v_div (by omega) (by omega) (by omega)) ?_
  refine r_icmp_geF C (tgt := 22) dX4_isPlace_15 (by decide) (fun z => ((by omega) : ¬ (530 / 265 ≤ k)) ((c_leNN (by omega) (by omega)).mp z)) ?_
  refine r_iconst C dX4_isPlace_18 ki_1 ?_
  refine r_goto C 23 dX4_isPlace_19 (by decide) ?_
  exact RT.1 _ _ _ _ _ dX4_isPlace_23 rfl nar_1 (rd_i (bP_t (by omega))) rfl
set_option maxRecDepth 100000 in
set_option maxHeartbeats 1000000 in
theorem c_X4_storeIn__s {l : Launch} {E : Ev} {h0 q1 q2 : Nat} {f F : Nat → Int32} {k : Nat} (hk : k < 2) : Ct l E yX4_storeIn cX4_storeIn 3 none 1 30 [.ref h0, .ref q2, .int (nI k)] [(h0, .inr (4, [.ref q1])), (q1, .inl (eI E, 265, .inl f)), (q2, .inl (eI E, 530, .inl F))] (fun v9 w9 => v9 = none ∧ w9 = [(h0, .inr (4, [.ref q1])), (q1, .inl (eI E, 265, .inl f)), (q2, .inl (eI E, 530, .inl (va_cpy f F 0 (k * 265) 265)))]) := by
  refine ct_of (by decide +kernel) (Nat.le_of_ble_eq_true rfl) (fun ω C RT => ?_)
  show ω [(h0, .inr (4, [.ref q1])), (q1, .inl (eI E, 265, .inl f)), (q2, .inl (eI E, 530, .inl F))] [(0, .ref h0), (1, .ref q2), (2, .int (nI k))] [] 0
  refine r_aload_n C (i := 1) 1 dX4_storeIn_0 rfl rfl ?_
  refine r_iload_n C (i := 2) 2 dX4_storeIn_1 rfl rfl ?_
  refine r_readS (rest := []) C (c_X4_isPlace__s (q2 := q2) (F := F) (k := k) (hk := (by omega))) lk_X4_isPlace w_2_21 [2] dX4_storeIn_2 rfl rfl rfl ⟨by decide, by decide⟩ (Nat.le_of_ble_eq_true rfl) (st' := [.int (bP (k < 2))]) rfl ?_
  refine r_if_eqF C (y := 0) (tgt := 25) dX4_storeIn_5 (by decide) (fun z => ((by omega) : ¬ (¬ (k < 2))) (z_eqB.mp z)) ?_
  refine r_aload_n C (i := 0) 0 dX4_storeIn_8 rfl rfl ?_
  refine r_get C 0 0 uX4 rfl rfl (by decide) w_1_38 rfl dX4_storeIn_9 ?_
  refine r_iconst C dX4_storeIn_12 ki_0 ?_
  refine r_aload_n C (i := 1) 1 dX4_storeIn_13 rfl rfl ?_
  refine r_iload_n C (i := 2) 2 dX4_storeIn_14 rfl rfl ?_
  refine r_sipush C dX4_storeIn_15 ks_265 ?_
  refine r_imul (v := nI (k * 265)) C dX4_storeIn_18 (pk_mul _ _) ?_
  refine r_sipush C dX4_storeIn_19 ks_265 ?_
  refine r_copy (sp := 0) (dp := k * 265) (n := 265) (ws' := [(h0, .inr (4, [.ref q1])), (q1, .inl (eI E, 265, .inl f)), (q2, .inl (eI E, 530, .inl (va_cpy f F 0 (k * 265) 265)))]) C 1 2 w_2_24 rfl rfl (by omega) (by omega) (by decide) (by decide) (by decide) (by decide +kernel) (Nat.le_of_ble_eq_true rfl) rfl dX4_storeIn_22 ?_
  exact RT.2.2.1 _ _ _ dX4_storeIn_25 rfl (⟨rfl, rfl⟩) rfl
set_option maxRecDepth 100000 in
set_option maxHeartbeats 1000000 in
theorem c_X4_fetchFrom__s {l : Launch} {E : Ev} {h0 q1 q2 : Nat} {f F : Nat → Int32} {k : Nat} {σ : Sg} (hk : k < 2) (hW : Wf σ) (hF : RepC σ (fun j => F (k * 265 + j))) : Ct l E yX4_fetchFrom cX4_fetchFrom 3 none 1 30 [.ref h0, .ref q2, .int (nI k)] [(h0, .inr (4, [.ref q1])), (q1, .inl (eI E, 265, .inl f)), (q2, .inl (eI E, 530, .inl F))] (fun v9 w9 => ∃ f2 : Nat → Int32, v9 = none ∧ w9 = [(h0, .inr (4, [.ref q1])), (q1, .inl (eI E, 265, .inl f2)), (q2, .inl (eI E, 530, .inl F))] ∧ RepC σ f2) := by
  refine ct_of (by decide +kernel) (Nat.le_of_ble_eq_true rfl) (fun ω C RT => ?_)
  show ω [(h0, .inr (4, [.ref q1])), (q1, .inl (eI E, 265, .inl f)), (q2, .inl (eI E, 530, .inl F))] [(0, .ref h0), (1, .ref q2), (2, .int (nI k))] [] 0
  refine r_aload_n C (i := 1) 1 dX4_fetchFrom_0 rfl rfl ?_
  refine r_iload_n C (i := 2) 2 dX4_fetchFrom_1 rfl rfl ?_
  refine r_readS (rest := []) C (c_X4_isPlace__s (q2 := q2) (F := F) (k := k) (hk := (by omega))) lk_X4_isPlace w_2_21 [2] dX4_fetchFrom_2 rfl rfl rfl ⟨by decide, by decide⟩ (Nat.le_of_ble_eq_true rfl) (st' := [.int (bP (k < 2))]) rfl ?_
  refine r_if_eqF C (y := 0) (tgt := 25) dX4_fetchFrom_5 (by decide) (fun z => ((by omega) : ¬ (¬ (k < 2))) (z_eqB.mp z)) ?_
  refine r_aload_n C (i := 1) 1 dX4_fetchFrom_8 rfl rfl ?_
  refine r_iload_n C (i := 2) 2 dX4_fetchFrom_9 rfl rfl ?_
  refine r_sipush C dX4_fetchFrom_10 ks_265 ?_
  refine r_imul (v := nI (k * 265)) C dX4_fetchFrom_13 (pk_mul _ _) ?_
  refine r_aload_n C (i := 0) 0 dX4_fetchFrom_14 rfl rfl ?_
  refine r_get C 0 0 uX4 rfl rfl (by decide) w_1_38 rfl dX4_fetchFrom_15 ?_
  refine r_iconst C dX4_fetchFrom_18 ki_0 ?_
  refine r_sipush C dX4_fetchFrom_19 ks_265 ?_
  refine r_copy (sp := k * 265) (dp := 0) (n := 265) (ws' := [(h0, .inr (4, [.ref q1])), (q1, .inl (eI E, 265, .inl (va_cpy F f (k * 265) 0 265))), (q2, .inl (eI E, 530, .inl F))]) C 2 1 w_2_24 rfl rfl (by omega) (by omega) (by decide) (by decide) (by decide) (by decide +kernel) (Nat.le_of_ble_eq_true rfl) rfl dX4_fetchFrom_22 ?_
  exact RT.2.2.1 _ _ _ dX4_fetchFrom_25 rfl (⟨_, rfl, rfl, RepC_eq hW hF (fun j hj => cpyWhole hj)⟩) rfl
set_option maxRecDepth 100000 in
set_option maxHeartbeats 1000000 in
theorem c_X4_setOption {l : Launch} {E : Ev} {h0 q1 : Nat} {f : Nat → Int32} {σ : Sg} (hR : RepC σ f) (hW : Wf σ) {w v : Nat} (hw : w < 2) (hv : v < 2147483648) : Ct l E yX4_setOption cX4_setOption 3 none 0 0 [.ref h0, .int (nI w), .int (nI v)] [(h0, .inr (4, [.ref q1])), (q1, .inl (eI E, 265, .inl f))] (fun v9 w9 => ∃ f2 : Nat → Int32, v9 = none ∧ w9 = [(h0, .inr (4, [.ref q1])), (q1, .inl (eI E, 265, .inl f2))] ∧ RepC (oSet σ w v) f2) := by
  have hwP := hW.P
  have hwA := hW.A
  have hwS := hW.S
  refine ct_of (by decide +kernel) (Nat.le_of_ble_eq_true rfl) (fun ω C RT => ?_)
  show ω [(h0, .inr (4, [.ref q1])), (q1, .inl (eI E, 265, .inl f))] [(0, .ref h0), (1, .int (nI w)), (2, .int (nI v))] [] 0
  refine r_iload_n C (i := 1) 1 dX4_setOption_0 rfl rfl ?_
  refine r_if_ltF C (y := 0) (tgt := 18) dX4_setOption_1 (by decide) (fun z => ((by omega) : ¬ (w < 0)) ((z_ltN (by omega)).mp z)) ?_
  refine r_iload_n C (i := 1) 1 dX4_setOption_4 rfl rfl ?_
  refine r_iconst C dX4_setOption_5 ki_2 ?_
  refine r_icmp_geF C (tgt := 18) dX4_setOption_6 (by decide) (fun z => ((by omega) : ¬ (2 ≤ w)) ((c_leNN (by omega) (by omega)).mp z)) ?_
  refine r_aload_n C (i := 0) 0 dX4_setOption_9 rfl rfl ?_
  refine r_get C 0 0 uX4 rfl rfl (by decide) w_1_38 rfl dX4_setOption_10 ?_
  refine r_iconst C dX4_setOption_13 ki_3 ?_
  refine r_iload_n C (i := 1) 1 dX4_setOption_14 rfl rfl ?_
  refine r_iadd (v := nI (3 + w)) C dX4_setOption_15 (nI_add _ _) ?_
  refine r_iload_n C (i := 2) 2 dX4_setOption_16 rfl rfl ?_
  refine r_iast (j := 3 + w) (ws' := [(h0, .inr (4, [.ref q1])), (q1, .inl (eI E, 265, .inl (upd f (3 + w) (nI v))))]) C 1 rfl (by omega) (by decide) rfl dX4_setOption_17 ?_
  exact RT.2.2.1 _ _ _ dX4_setOption_18 rfl (⟨_, rfl, rfl, RepC_set hR hW hw⟩) rfl
set_option maxRecDepth 100000 in
set_option maxHeartbeats 1000000 in
theorem c_X4_hire {l : Launch} {E : Ev} {h0 q1 : Nat} {f : Nat → Int32} {σ : Sg} (hR : RepC σ f) (hW : Wf σ) {x : Nat} (hx : x < 2147483648) : Ct l E yX4_hire cX4_hire 3 (some FieldType.boolean) 2 42 [.ref h0, .int (nI x)] [(h0, .inr (4, [.ref q1])), (q1, .inl (eI E, 265, .inl f))] (fun v9 w9 => ∃ f2 : Nat → Int32, v9 = some (.int (bP (x ≤ 9 ∧ sA σ < 10))) ∧ w9 = [(h0, .inr (4, [.ref q1])), (q1, .inl (eI E, 265, .inl f2))] ∧ RepC (tHire σ x) f2) := by
  have hwP := hW.P
  have hwA := hW.A
  have hwS := hW.S
  refine ct_of (by decide +kernel) (Nat.le_of_ble_eq_true rfl) (fun ω C RT => ?_)
  show ω [(h0, .inr (4, [.ref q1])), (q1, .inl (eI E, 265, .inl f))] [(0, .ref h0), (1, .int (nI x))] [] 0
  refine r_aload_n C (i := 0) 0 dX4_hire_0 rfl rfl ?_
  refine r_iload_n C (i := 1) 1 dX4_hire_1 rfl rfl ?_
  refine r_readV (rest := []) C (c_X4_canHire (h0 := h0) (q1 := q1) (f := f) (σ := σ) (x := x) (hR := hR) (hW := hW) (hx := (by omega))) lk_X4_canHire w_2_209 [0, 1] rfl dX4_hire_2 rfl rfl rfl rfl ⟨by decide, by decide⟩ (Nat.le_of_ble_eq_true rfl) (st' := [.int (bP (x ≤ 9 ∧ sA σ < 10))]) rfl ?_
  refine r_if_ne C (y := 0) (c9 := x ≤ 9 ∧ sA σ < 10) 10 dX4_hire_5 (by decide) z_neB (fun h5_1 => ?_) (fun h5_1 => ?_)
  · refine r_aload_n C (i := 0) 0 dX4_hire_10 rfl rfl ?_
    refine r_get C 0 0 uX4 rfl rfl (by decide) w_1_38 rfl dX4_hire_11 ?_
    refine r_iconst C dX4_hire_14 ki_1 ?_
    refine r_iald (j := 1) (v := nI (sA σ)) C 1 rfl (by omega) (by decide) hR.A dX4_hire_15 ?_
    refine r_istore_n C (lv' := [(2, .int (nI (sA σ))), (0, .ref h0), (1, .int (nI x))]) dX4_hire_16 rfl (by decide) rfl ?_
    refine r_aload_n C (i := 0) 1 dX4_hire_17 rfl rfl ?_
    refine r_get C 0 0 uX4 rfl rfl (by decide) w_1_38 rfl dX4_hire_18 ?_
    refine r_iconst C dX4_hire_21 ki_5 ?_
    refine r_iload_n C (i := 2) 0 dX4_hire_22 rfl rfl ?_
    refine r_iadd (v := nI (5 + (sA σ))) C dX4_hire_23 (nI_add _ _) ?_
    refine r_iload_n C (i := 1) 2 dX4_hire_24 rfl rfl ?_
    refine r_iast (j := 5 + (sA σ)) (ws' := [(h0, .inr (4, [.ref q1])), (q1, .inl (eI E, 265, .inl (upd f (5 + (sA σ)) (nI x))))]) C 1 rfl (by omega) (by decide) rfl dX4_hire_25 ?_
    refine r_aload_n C (i := 0) 1 dX4_hire_26 rfl rfl ?_
    refine r_get C 0 0 uX4 rfl rfl (by decide) w_1_38 rfl dX4_hire_27 ?_
    refine r_iconst C dX4_hire_30 ki_1 ?_
    refine r_iload_n C (i := 2) 0 dX4_hire_31 rfl rfl ?_
    refine r_iconst C dX4_hire_32 ki_1 ?_
    refine r_iadd (v := nI ((sA σ) + 1)) C dX4_hire_33 (nI_add _ _) ?_
    refine r_iast (j := 1) (ws' := [(h0, .inr (4, [.ref q1])), (q1, .inl (eI E, 265, .inl (upd (upd f (5 + (sA σ)) (nI x)) 1 (nI ((sA σ) + 1)))))]) C 1 rfl (by omega) (by decide) rfl dX4_hire_34 ?_
    refine r_iconst C dX4_hire_35 ki_1 ?_
    exact RT.1 _ _ _ _ _ dX4_hire_36 rfl nar_1 (⟨_, sv (bP_t (by omega)), rfl, by rw [tHire, if_pos (by omega)]; exact RepC_hire hR hW (by omega)⟩) rfl
  · refine r_iconst C dX4_hire_8 ki_0 ?_
    exact RT.1 _ _ _ _ _ dX4_hire_9 rfl nar_0 (⟨_, sv (bP_f (by omega)), rfl, by rw [tHire, if_neg (by omega)]; exact hR⟩) rfl
set_option maxRecDepth 100000 in
set_option maxHeartbeats 1000000 in
theorem c_X4_changeIllness {l : Launch} {E : Ev} {h0 q1 : Nat} {f : Nat → Int32} {σ : Sg} (hR : RepC σ f) (hW : Wf σ) {a : Nat} (ha : a < 2147483648) {n : Nat} (hn : n < 2147483648) {b : Nat} (hb : b ≤ 1) : Ct l E yX4_changeIllness cX4_changeIllness 4 (some FieldType.boolean) 2 41 [.ref h0, .int (nI a), .int (nI n), .int (nI b)] [(h0, .inr (4, [.ref q1])), (q1, .inl (eI E, 265, .inl f))] (fun v9 w9 => ∃ f2 : Nat → Int32, v9 = some (.int (bP (a < sA σ ∧ n < 20))) ∧ w9 = [(h0, .inr (4, [.ref q1])), (q1, .inl (eI E, 265, .inl f2))] ∧ RepC (tIll σ a n b) f2) := by
  have hwP := hW.P
  have hwA := hW.A
  have hwS := hW.S
  refine ct_of (by decide +kernel) (Nat.le_of_ble_eq_true rfl) (fun ω C RT => ?_)
  show ω [(h0, .inr (4, [.ref q1])), (q1, .inl (eI E, 265, .inl f))] [(0, .ref h0), (1, .int (nI a)), (2, .int (nI n)), (3, .int (nI b))] [] 0
  refine r_aload_n C (i := 0) 0 dX4_changeIllness_0 rfl rfl ?_
  refine r_iload_n C (i := 1) 1 dX4_changeIllness_1 rfl rfl ?_
  refine r_readV (rest := []) C (c_X4_hasActor (h0 := h0) (q1 := q1) (f := f) (σ := σ) (p := a) (hR := hR) (hW := hW) (hp := (by omega))) lk_X4_hasActor w_2_31 [0, 1] rfl dX4_changeIllness_2 rfl rfl rfl rfl ⟨by decide, by decide⟩ (Nat.le_of_ble_eq_true rfl) (st' := [.int (bP (a < sA σ))]) rfl ?_
  refine r_if_eq C (y := 0) (c9 := ¬ (a < sA σ)) 15 dX4_changeIllness_5 (by decide) z_eqB (fun h5_1 => ?_) (fun h5_1 => ?_)
  · refine r_iconst C dX4_changeIllness_15 ki_0 ?_
    exact RT.1 _ _ _ _ _ dX4_changeIllness_16 rfl nar_0 (⟨_, sv (bP_f (by omega)), rfl, by rw [tIll, if_neg (by omega)]; exact hR⟩) rfl
  · replace h5_1 : a < sA σ := Decidable.not_not.mp h5_1
    refine r_iload_n C (i := 2) 2 dX4_changeIllness_8 rfl rfl ?_
    refine r_readSN (rest := []) C (c_X5_hasNight (i := n) (hi := (by omega))) lk_X5_hasNight (List.mem_of_getElem? (i := 5) rfl) [] dX4_changeIllness_9 rfl rfl rfl ⟨by decide, by decide⟩ (Nat.le_of_ble_eq_true rfl) (st' := [.int (bP (n < 20))]) rfl ?_
    refine r_if_ne C (y := 0) (c9 := n < 20) 17 dX4_changeIllness_12 (by decide) z_neB (fun h12_2 => ?_) (fun h12_2 => ?_)
    · refine r_iload_n C (i := 3) 3 dX4_changeIllness_17 rfl rfl ?_
      refine r_if_eq C (y := 0) (c9 := b = 0) 39 dX4_changeIllness_18 (by decide) (z_eqN (by omega)) (fun h18_3 => ?_) (fun h18_3 => ?_)
      · refine r_aload_n C (i := 0) 0 dX4_changeIllness_39 rfl rfl ?_
        refine r_get C 0 0 uX4 rfl rfl (by decide) w_1_38 rfl dX4_changeIllness_40 ?_
        refine r_bipush C dX4_changeIllness_43 kb_15 ?_
        refine r_iload_n C (i := 2) 2 dX4_changeIllness_45 rfl rfl ?_
        refine r_iadd (v := nI (15 + n)) C dX4_changeIllness_46 (nI_add _ _) ?_
        refine r_dup2 C dX4_changeIllness_47 rfl rfl ?_
        refine r_iald (j := 15 + n) (v := nI (bm (fun a => sI σ a n) 10)) C 1 rfl (by omega) (by decide) (hR.I (by omega)) dX4_changeIllness_48 ?_
        refine r_iconst C dX4_changeIllness_49 ki_1 ?_
        refine r_iload_n C (i := 1) 1 dX4_changeIllness_50 rfl rfl ?_
        refine r_ishl (v := nI (2 ^ a)) C dX4_changeIllness_51 (v_shl (by omega)) ?_
        refine r_iconst C dX4_changeIllness_52 ki_m1 ?_
        refine r_ixor (v := (nI (2 ^ a) ^^^ mI 0)) C dX4_changeIllness_53 rfl ?_
        refine r_iand (v := nI ((bm (fun a => sI σ a n) 10) ^^^ ((bm (fun a => sI σ a n) 10) &&& (2 ^ a)))) C dX4_changeIllness_54 (v_andnot _ _) ?_
        refine r_iast (j := 15 + n) (ws' := [(h0, .inr (4, [.ref q1])), (q1, .inl (eI E, 265, .inl (upd f (15 + n) (nI ((bm (fun a => sI σ a n) 10) ^^^ ((bm (fun a => sI σ a n) 10) &&& (2 ^ a)))))))]) C 1 rfl (by omega) (by decide) rfl dX4_changeIllness_55 ?_
        refine r_iconst C dX4_changeIllness_56 ki_1 ?_
        exact RT.1 _ _ _ _ _ dX4_changeIllness_57 rfl nar_1 (⟨_, sv (bP_t (by omega)), rfl, by rw [tIll, if_pos (by omega), (by omega : b = 0), illC0 hW]; exact RepC_ill hR hW (by omega)⟩) rfl
      · refine r_aload_n C (i := 0) 0 dX4_changeIllness_21 rfl rfl ?_
        refine r_get C 0 0 uX4 rfl rfl (by decide) w_1_38 rfl dX4_changeIllness_22 ?_
        refine r_bipush C dX4_changeIllness_25 kb_15 ?_
        refine r_iload_n C (i := 2) 2 dX4_changeIllness_27 rfl rfl ?_
        refine r_iadd (v := nI (15 + n)) C dX4_changeIllness_28 (nI_add _ _) ?_
        refine r_dup2 C dX4_changeIllness_29 rfl rfl ?_
        refine r_iald (j := 15 + n) (v := nI (bm (fun a => sI σ a n) 10)) C 1 rfl (by omega) (by decide) (hR.I (by omega)) dX4_changeIllness_30 ?_
        refine r_iconst C dX4_changeIllness_31 ki_1 ?_
        refine r_iload_n C (i := 1) 1 dX4_changeIllness_32 rfl rfl ?_
        refine r_ishl (v := nI (2 ^ a)) C dX4_changeIllness_33 (v_shl (by omega)) ?_
        refine r_ior (v := nI ((bm (fun a => sI σ a n) 10) ||| (2 ^ a))) C dX4_changeIllness_34 (v_or _ _) ?_
        refine r_iast (j := 15 + n) (ws' := [(h0, .inr (4, [.ref q1])), (q1, .inl (eI E, 265, .inl (upd f (15 + n) (nI ((bm (fun a => sI σ a n) 10) ||| (2 ^ a))))))]) C 1 rfl (by omega) (by decide) rfl dX4_changeIllness_35 ?_
        refine r_goto C 56 dX4_changeIllness_36 (by decide) ?_
        refine r_iconst C dX4_changeIllness_56 ki_1 ?_
        exact RT.1 _ _ _ _ _ dX4_changeIllness_57 rfl nar_1 (⟨_, sv (bP_t (by omega)), rfl, by rw [tIll, if_pos (by omega), (by omega : b = 1), illC hW (by omega)]; exact RepC_ill hR hW (by omega)⟩) rfl
    · refine r_iconst C dX4_changeIllness_15 ki_0 ?_
      exact RT.1 _ _ _ _ _ dX4_changeIllness_16 rfl nar_0 (⟨_, sv (bP_f (by omega)), rfl, by rw [tIll, if_neg (by omega)]; exact hR⟩) rfl
set_option maxRecDepth 100000 in
set_option maxHeartbeats 1000000 in
theorem c_X4_hasPart__l {l : Launch} {E : Ev} {h0 q1 : Nat} {f : Nat → Int32} {P p : Nat} (hf : f 0 = nI P) (hP : P ≤ 6) (hp : p < P) : Cr l E yX4_hasPart cX4_hasPart 2 (some FieldType.boolean) 0 0 [.ref h0, .int (nI p)] [(h0, .inr (4, [.ref q1])), (q1, .inl (eI E, 265, .inl f))] (some (.int (bP (p < P)))) := by
  refine ct_of (by decide +kernel) (Nat.le_of_ble_eq_true rfl) (fun ω C RT => ?_)
  show ω [(h0, .inr (4, [.ref q1])), (q1, .inl (eI E, 265, .inl f))] [(0, .ref h0), (1, .int (nI p))] [] 0
  refine r_iload_n C (i := 1) 1 dX4_hasPart_0 rfl rfl ?_
  refine r_if_ltF C (y := 0) (tgt := 24) dX4_hasPart_1 (by decide) (fun z => ((by omega) : ¬ (p < 0)) ((z_ltN (by omega)).mp z)) ?_
  refine r_iload_n C (i := 1) 1 dX4_hasPart_4 rfl rfl ?_
  refine r_bipush C dX4_hasPart_5 kb_6 ?_
  refine r_icmp_geF C (tgt := 24) dX4_hasPart_7 (by decide) (fun z => ((by omega) : ¬ (6 ≤ p)) ((c_leNN (by omega) (by omega)).mp z)) ?_
  refine r_iload_n C (i := 1) 1 dX4_hasPart_10 rfl rfl ?_
  refine r_aload_n C (i := 0) 0 dX4_hasPart_11 rfl rfl ?_
  refine r_get C 0 0 uX4 rfl rfl (by decide) w_1_38 rfl dX4_hasPart_12 ?_
  refine r_iconst C dX4_hasPart_15 ki_0 ?_
  refine r_iald (j := 0) (v := nI P) C 1 rfl (by omega) (by decide) hf dX4_hasPart_16 ?_
  refine r_icmp_ge C (c9 := P ≤ p) 24 dX4_hasPart_17 (by decide) (c_leNN (by omega) (by omega)) (fun h17_1 => ?_) (fun h17_1 => ?_)
  · refine r_iconst C dX4_hasPart_24 ki_0 ?_
    exact RT.1 _ _ _ _ _ dX4_hasPart_25 rfl nar_0 (rd_i (bP_f (by omega))) rfl
  · refine r_iconst C dX4_hasPart_20 ki_1 ?_
    refine r_goto C 25 dX4_hasPart_21 (by decide) ?_
    exact RT.1 _ _ _ _ _ dX4_hasPart_25 rfl nar_1 (rd_i (bP_t (by omega))) rfl
set_option maxRecDepth 100000 in
set_option maxHeartbeats 1000000 in
theorem c_X4_canRecast__l {l : Launch} {E : Ev} {h0 q1 : Nat} {f : Nat → Int32} {P p : Nat} (hf : f 0 = nI P) (hP : P ≤ 6) (hp : p < P) : Cr l E yX4_canRecast cX4_canRecast 4 (some FieldType.boolean) 2 41 [.ref h0, .int (nI p), .int (mI 0), .int (nI 0)] [(h0, .inr (4, [.ref q1])), (q1, .inl (eI E, 265, .inl f))] (some (.int (bP (p < P)))) := by
  refine ct_of (by decide +kernel) (Nat.le_of_ble_eq_true rfl) (fun ω C RT => ?_)
  show ω [(h0, .inr (4, [.ref q1])), (q1, .inl (eI E, 265, .inl f))] [(0, .ref h0), (1, .int (nI p)), (2, .int (mI 0)), (3, .int (nI 0))] [] 0
  refine r_aload_n C (i := 0) 0 dX4_canRecast_0 rfl rfl ?_
  refine r_iload_n C (i := 1) 1 dX4_canRecast_1 rfl rfl ?_
  refine r_readV (rest := []) C (c_X4_hasPart__l (h0 := h0) (q1 := q1) (f := f) (P := P) (p := p) (hf := hf) (hP := (by omega)) (hp := (by omega))) lk_X4_hasPart w_2_230 [0, 1] rfl dX4_canRecast_2 rfl rfl rfl rfl ⟨by decide, by decide⟩ (Nat.le_of_ble_eq_true rfl) (st' := [.int (bP (p < P))]) rfl ?_
  refine r_if_eqF C (y := 0) (tgt := 32) dX4_canRecast_5 (by decide) (fun z => ((by omega) : ¬ (¬ (p < P))) (z_eqB.mp z)) ?_
  refine r_iload_n C (i := 3) 3 dX4_canRecast_8 rfl rfl ?_
  refine r_readSN (rest := []) C (c_X5_hasNight (i := 0) (hi := (by omega))) lk_X5_hasNight (List.mem_of_getElem? (i := 5) rfl) [] dX4_canRecast_9 rfl rfl rfl ⟨by decide, by decide⟩ (Nat.le_of_ble_eq_true rfl) (st' := [.int (bP (0 < 20))]) rfl ?_
  refine r_if_eqF C (y := 0) (tgt := 32) dX4_canRecast_12 (by decide) (fun z => ((by omega) : ¬ (¬ (0 < 20))) (z_eqB.mp z)) ?_
  refine r_iload_n C (i := 2) 2 dX4_canRecast_15 rfl rfl ?_
  refine r_iconst C dX4_canRecast_16 ki_m1 ?_
  refine r_icmp_eqT C 28 dX4_canRecast_17 (by decide) ((c_eqMM (by omega) (by omega)).mpr (by decide)) ?_
  refine r_iconst C dX4_canRecast_28 ki_1 ?_
  refine r_goto C 33 dX4_canRecast_29 (by decide) ?_
  exact RT.1 _ _ _ _ _ dX4_canRecast_33 rfl nar_1 (rd_i (bP_t (by omega))) rfl
set_option maxRecDepth 100000 in
set_option maxHeartbeats 1000000 in
theorem c_X4_recast__l {l : Launch} {E : Ev} {h0 q1 : Nat} {f : Nat → Int32} {P p : Nat} (hf : f 0 = nI P) (hP : P ≤ 6) (hp : p < P) : Ct l E yX4_recast cX4_recast 5 (some FieldType.boolean) 3 64 [.ref h0, .int (nI p), .int (mI 0), .int (nI 0)] [(h0, .inr (4, [.ref q1])), (q1, .inl (eI E, 265, .inl f))] (fun v9 w9 => v9 = some (.int (nI 1)) ∧ w9 = [(h0, .inr (4, [.ref q1])), (q1, .inl (eI E, 265, .inl (castF f (65 + p * 20 + 0) (65 + p * 20 + 20) (mI 0))))]) := by
  refine ct_of (by decide +kernel) (Nat.le_of_ble_eq_true rfl) (fun ω C RT => ?_)
  show ω [(h0, .inr (4, [.ref q1])), (q1, .inl (eI E, 265, .inl f))] [(0, .ref h0), (1, .int (nI p)), (2, .int (mI 0)), (3, .int (nI 0))] [] 0
  refine r_aload_n C (i := 0) 0 dX4_recast_0 rfl rfl ?_
  refine r_iload_n C (i := 1) 1 dX4_recast_1 rfl rfl ?_
  refine r_iload_n C (i := 2) 2 dX4_recast_2 rfl rfl ?_
  refine r_iload_n C (i := 3) 3 dX4_recast_3 rfl rfl ?_
  refine r_readV (rest := []) C (c_X4_canRecast__l (h0 := h0) (q1 := q1) (f := f) (P := P) (p := p) (hf := hf) (hP := (by omega)) (hp := (by omega))) lk_X4_canRecast w_2_226 [0, 1] rfl dX4_recast_4 rfl rfl rfl rfl ⟨by decide, by decide⟩ (Nat.le_of_ble_eq_true rfl) (st' := [.int (bP (p < P))]) rfl ?_
  refine r_if_neT C (y := 0) 12 dX4_recast_7 (by decide) (z_neB.mpr (by omega)) ?_
  refine r_iload_n C (i := 3) 3 dX4_recast_12 rfl rfl ?_
  refine r_istore C (lv' := [(4, .int (nI 0)), (0, .ref h0), (1, .int (nI p)), (2, .int (mI 0)), (3, .int (nI 0))]) dX4_recast_13 (by decide) rfl ?_
  have loop15_1 : ∀ (dd9 : Nat) (k : Nat) (f2 : Nat → Int32), 20 - k < dd9 → (k ≤ 20) → (f2 = castF f (65 + p * 20 + 0) (65 + p * 20 + k) (mI 0)) → ω [(h0, .inr (4, [.ref q1])), (q1, .inl (eI E, 265, .inl f2))] [(4, .int (nI k)), (0, .ref h0), (1, .int (nI p)), (2, .int (mI 0)), (3, .int (nI 0))] [] 15 := by
    intro dd9
    induction dd9 with
    | zero => intro k f2 hd; exact absurd hd (Nat.not_lt_zero _)
    | succ dd9 ih2 =>
      intro k f2 hd hk hf2
      refine r_iload C (i := 4) 0 dX4_recast_15 rfl ?_
      refine r_bipush C dX4_recast_17 kb_20 ?_
      refine r_icmp_ge C (c9 := 20 ≤ k) 44 dX4_recast_19 (by decide) (c_leNN (by omega) (by omega)) (fun h19_3 => ?_) (fun h19_3 => ?_)
      · refine r_iconst C dX4_recast_44 ki_1 ?_
        exact RT.1 _ _ _ _ _ dX4_recast_45 rfl nar_1 (⟨rfl, by rw [hf2, (by omega : k = 20)]⟩) rfl
      · refine r_aload_n C (i := 0) 1 dX4_recast_22 rfl rfl ?_
        refine r_get C 0 0 uX4 rfl rfl (by decide) w_1_38 rfl dX4_recast_23 ?_
        refine r_bipush C dX4_recast_26 kb_65 ?_
        refine r_iload_n C (i := 1) 2 dX4_recast_28 rfl rfl ?_
        refine r_bipush C dX4_recast_29 kb_20 ?_
        refine r_imul (v := nI (p * 20)) C dX4_recast_31 (pk_mul _ _) ?_
        refine r_iadd (v := nI (65 + (p * 20))) C dX4_recast_32 (nI_add _ _) ?_
        refine r_iload C (i := 4) 0 dX4_recast_33 rfl ?_
        refine r_iadd (v := nI ((65 + (p * 20)) + k)) C dX4_recast_35 (nI_add _ _) ?_
        refine r_iload_n C (i := 2) 3 dX4_recast_36 rfl rfl ?_
        refine r_iast (j := (65 + (p * 20)) + k) (ws' := [(h0, .inr (4, [.ref q1])), (q1, .inl (eI E, 265, .inl (upd f2 ((65 + (p * 20)) + k) (mI 0))))]) C 1 rfl (by omega) (by decide) rfl dX4_recast_37 ?_
        refine r_iinc C (lv' := [(4, .int (nI (k + 1))), (0, .ref h0), (1, .int (nI p)), (2, .int (mI 0)), (3, .int (nI 0))]) (v := nI (k + 1)) 0 dX4_recast_38 rfl (v_inc _) (by decide) rfl ?_
        refine r_goto C 15 dX4_recast_41 (by decide) ?_
        exact ih2 (k + 1) (upd f2 ((65 + (p * 20)) + k) (mI 0)) (by omega) (by omega) (by rw [hf2]; exact castF_s (by omega))
  exact loop15_1 _ 0 f (Nat.lt_succ_self _) (by omega) (castF_0 _ _ _)
set_option maxRecDepth 100000 in
set_option maxHeartbeats 1000000 in
theorem c_X4_openPart {l : Launch} {E : Ev} {h0 q1 : Nat} {f : Nat → Int32} {σ : Sg} (hR : RepC σ f) (hW : Wf σ) : Ct l E yX4_openPart cX4_openPart 2 (some FieldType.boolean) 4 88 [.ref h0] [(h0, .inr (4, [.ref q1])), (q1, .inl (eI E, 265, .inl f))] (fun v9 w9 => ∃ f2 : Nat → Int32, v9 = some (.int (bP (sP σ < 6))) ∧ w9 = [(h0, .inr (4, [.ref q1])), (q1, .inl (eI E, 265, .inl f2))] ∧ RepC (tPart σ) f2) := by
  have hwP := hW.P
  have hwA := hW.A
  have hwS := hW.S
  refine ct_of (by decide +kernel) (Nat.le_of_ble_eq_true rfl) (fun ω C RT => ?_)
  show ω [(h0, .inr (4, [.ref q1])), (q1, .inl (eI E, 265, .inl f))] [(0, .ref h0)] [] 0
  refine r_aload_n C (i := 0) 0 dX4_openPart_0 rfl rfl ?_
  refine r_readV (rest := []) C (c_X4_canOpenPart (h0 := h0) (q1 := q1) (f := f) (σ := σ) (hR := hR) (hW := hW)) lk_X4_canOpenPart w_2_218 [0, 1] rfl dX4_openPart_1 rfl rfl rfl rfl ⟨by decide, by decide⟩ (Nat.le_of_ble_eq_true rfl) (st' := [.int (bP (sP σ < 6))]) rfl ?_
  refine r_if_ne C (y := 0) (c9 := sP σ < 6) 9 dX4_openPart_4 (by decide) z_neB (fun h4_1 => ?_) (fun h4_1 => ?_)
  · refine r_aload_n C (i := 0) 0 dX4_openPart_9 rfl rfl ?_
    refine r_get C 0 0 uX4 rfl rfl (by decide) w_1_38 rfl dX4_openPart_10 ?_
    refine r_iconst C dX4_openPart_13 ki_0 ?_
    refine r_iald (j := 0) (v := nI (sP σ)) C 1 rfl (by omega) (by decide) hR.P dX4_openPart_14 ?_
    refine r_istore_n C (lv' := [(1, .int (nI (sP σ))), (0, .ref h0)]) dX4_openPart_15 rfl (by decide) rfl ?_
    refine r_aload_n C (i := 0) 1 dX4_openPart_16 rfl rfl ?_
    refine r_get C 0 0 uX4 rfl rfl (by decide) w_1_38 rfl dX4_openPart_17 ?_
    refine r_iconst C dX4_openPart_20 ki_0 ?_
    refine r_iload_n C (i := 1) 0 dX4_openPart_21 rfl rfl ?_
    refine r_iconst C dX4_openPart_22 ki_1 ?_
    refine r_iadd (v := nI ((sP σ) + 1)) C dX4_openPart_23 (nI_add _ _) ?_
    refine r_iast (j := 0) (ws' := [(h0, .inr (4, [.ref q1])), (q1, .inl (eI E, 265, .inl (upd f 0 (nI ((sP σ) + 1)))))]) C 1 rfl (by omega) (by decide) rfl dX4_openPart_24 ?_
    refine r_aload_n C (i := 0) 1 dX4_openPart_25 rfl rfl ?_
    refine r_get C 0 0 uX4 rfl rfl (by decide) w_1_38 rfl dX4_openPart_26 ?_
    refine r_bipush C dX4_openPart_29 kb_35 ?_
    refine r_iload_n C (i := 1) 0 dX4_openPart_31 rfl rfl ?_
    refine r_iadd (v := nI (35 + (sP σ))) C dX4_openPart_32 (nI_add _ _) ?_
    refine r_iconst C dX4_openPart_33 ki_0 ?_
    refine r_iast (j := 35 + (sP σ)) (ws' := [(h0, .inr (4, [.ref q1])), (q1, .inl (eI E, 265, .inl (upd (upd f 0 (nI ((sP σ) + 1))) (35 + (sP σ)) (nI 0))))]) C 1 rfl (by omega) (by decide) rfl dX4_openPart_34 ?_
    refine r_aload_n C (i := 0) 1 dX4_openPart_35 rfl rfl ?_
    refine r_iload_n C (i := 1) 0 dX4_openPart_36 rfl rfl ?_
    refine r_iconst C dX4_openPart_37 ki_m1 ?_
    refine r_iconst C dX4_openPart_38 ki_0 ?_
    refine r_callV (rest := []) C (c_X4_recast__l (h0 := h0) (q1 := q1) (f := upd (upd f 0 (nI ((sP σ) + 1))) (35 + (sP σ)) (nI 0)) (P := sP σ + 1) (p := sP σ) (hf := (by rw [pk_un (by omega)]; exact pk_us)) (hP := (by omega)) (hp := (by omega))) lk_X4_recast w_2_222 [0, 1] rfl dX4_openPart_39 rfl rfl rfl rfl ⟨by decide, by decide⟩ (Nat.le_of_ble_eq_true rfl) ?_
    rintro _ _ ⟨rfl, rfl⟩
    show ω [(h0, .inr (4, [.ref q1])), (q1, .inl (eI E, 265, .inl (castF (upd (upd f 0 (nI ((sP σ) + 1))) (35 + (sP σ)) (nI 0)) (65 + (sP σ) * 20 + 0) (65 + (sP σ) * 20 + 20) (mI 0))))] [(1, .int (nI (sP σ))), (0, .ref h0)] [.int (nI 1)] 42
    exact RT.1 _ _ _ _ _ dX4_openPart_42 rfl nar_1 (⟨_, sv (bP_t (by omega)), rfl, by rw [tPart, if_pos (by omega)]; exact RepC_part hR hW (by omega)⟩) rfl
  · refine r_iconst C dX4_openPart_7 ki_0 ?_
    exact RT.1 _ _ _ _ _ dX4_openPart_8 rfl nar_0 (⟨_, sv (bP_f (by omega)), rfl, by rw [tPart, if_neg (by omega)]; exact hR⟩) rfl
set_option maxRecDepth 100000 in
set_option maxHeartbeats 1000000 in
theorem c_X4_recast {l : Launch} {E : Ev} {h0 q1 : Nat} {f : Nat → Int32} {σ : Sg} (hR : RepC σ f) (hW : Wf σ) {p : Nat} (hp : p < 2147483648) {x : Nat} (hx : x < 2147483648) {n : Nat} (hn : n < 2147483648) : Ct l E yX4_recast cX4_recast 5 (some FieldType.boolean) 3 64 [.ref h0, .int (nI p), .int (mI x), .int (nI n)] [(h0, .inr (4, [.ref q1])), (q1, .inl (eI E, 265, .inl f))] (fun v9 w9 => ∃ f2 : Nat → Int32, v9 = some (.int (bP (p < sP σ ∧ n < 20 ∧ x ≤ sA σ))) ∧ w9 = [(h0, .inr (4, [.ref q1])), (q1, .inl (eI E, 265, .inl f2))] ∧ RepC (tCast σ p x n) f2) := by
  have hwP := hW.P
  have hwA := hW.A
  have hwS := hW.S
  refine ct_of (by decide +kernel) (Nat.le_of_ble_eq_true rfl) (fun ω C RT => ?_)
  show ω [(h0, .inr (4, [.ref q1])), (q1, .inl (eI E, 265, .inl f))] [(0, .ref h0), (1, .int (nI p)), (2, .int (mI x)), (3, .int (nI n))] [] 0
  refine r_aload_n C (i := 0) 0 dX4_recast_0 rfl rfl ?_
  refine r_iload_n C (i := 1) 1 dX4_recast_1 rfl rfl ?_
  refine r_iload_n C (i := 2) 2 dX4_recast_2 rfl rfl ?_
  refine r_iload_n C (i := 3) 3 dX4_recast_3 rfl rfl ?_
  refine r_readV (rest := []) C (c_X4_canRecast (h0 := h0) (q1 := q1) (f := f) (σ := σ) (p := p) (x := x) (n := n) (hR := hR) (hW := hW) (hp := (by omega)) (hx := (by omega)) (hn := (by omega))) lk_X4_canRecast w_2_226 [0, 1] rfl dX4_recast_4 rfl rfl rfl rfl ⟨by decide, by decide⟩ (Nat.le_of_ble_eq_true rfl) (st' := [.int (bP (p < sP σ ∧ n < 20 ∧ x ≤ sA σ))]) rfl ?_
  refine r_if_ne C (y := 0) (c9 := p < sP σ ∧ n < 20 ∧ x ≤ sA σ) 12 dX4_recast_7 (by decide) z_neB (fun h7_1 => ?_) (fun h7_1 => ?_)
  · refine r_iload_n C (i := 3) 3 dX4_recast_12 rfl rfl ?_
    refine r_istore C (lv' := [(4, .int (nI n)), (0, .ref h0), (1, .int (nI p)), (2, .int (mI x)), (3, .int (nI n))]) dX4_recast_13 (by decide) rfl ?_
    have loop15_2 : ∀ (dd9 : Nat) (k : Nat) (f2 : Nat → Int32), 20 - k < dd9 → (n ≤ k ∧ k ≤ 20) → (f2 = castF f (65 + p * 20 + n) (65 + p * 20 + k) (mI (x))) → ω [(h0, .inr (4, [.ref q1])), (q1, .inl (eI E, 265, .inl f2))] [(4, .int (nI k)), (0, .ref h0), (1, .int (nI p)), (2, .int (mI x)), (3, .int (nI n))] [] 15 := by
      intro dd9
      induction dd9 with
      | zero => intro k f2 hd; exact absurd hd (Nat.not_lt_zero _)
      | succ dd9 ih3 =>
        intro k f2 hd hk hf2
        refine r_iload C (i := 4) 0 dX4_recast_15 rfl ?_
        refine r_bipush C dX4_recast_17 kb_20 ?_
        refine r_icmp_ge C (c9 := 20 ≤ k) 44 dX4_recast_19 (by decide) (c_leNN (by omega) (by omega)) (fun h19_4 => ?_) (fun h19_4 => ?_)
        · refine r_iconst C dX4_recast_44 ki_1 ?_
          exact RT.1 _ _ _ _ _ dX4_recast_45 rfl nar_1 (⟨_, sv (bP_t (by omega)), rfl, by rw [tCast, if_pos (by omega), hf2, (by omega : k = 20)]; exact RepC_cast hR hW (by omega) (by omega)⟩) rfl
        · refine r_aload_n C (i := 0) 1 dX4_recast_22 rfl rfl ?_
          refine r_get C 0 0 uX4 rfl rfl (by decide) w_1_38 rfl dX4_recast_23 ?_
          refine r_bipush C dX4_recast_26 kb_65 ?_
          refine r_iload_n C (i := 1) 2 dX4_recast_28 rfl rfl ?_
          refine r_bipush C dX4_recast_29 kb_20 ?_
          refine r_imul (v := nI (p * 20)) C dX4_recast_31 (pk_mul _ _) ?_
          refine r_iadd (v := nI (65 + (p * 20))) C dX4_recast_32 (nI_add _ _) ?_
          refine r_iload C (i := 4) 0 dX4_recast_33 rfl ?_
          refine r_iadd (v := nI ((65 + (p * 20)) + k)) C dX4_recast_35 (nI_add _ _) ?_
          refine r_iload_n C (i := 2) 3 dX4_recast_36 rfl rfl ?_
          refine r_iast (j := (65 + (p * 20)) + k) (ws' := [(h0, .inr (4, [.ref q1])), (q1, .inl (eI E, 265, .inl (upd f2 ((65 + (p * 20)) + k) (mI x))))]) C 1 rfl (by omega) (by decide) rfl dX4_recast_37 ?_
          refine r_iinc C (lv' := [(4, .int (nI (k + 1))), (0, .ref h0), (1, .int (nI p)), (2, .int (mI x)), (3, .int (nI n))]) (v := nI (k + 1)) 0 dX4_recast_38 rfl (v_inc _) (by decide) rfl ?_
          refine r_goto C 15 dX4_recast_41 (by decide) ?_
          exact ih3 (k + 1) (upd f2 ((65 + (p * 20)) + k) (mI x)) (by omega) (by omega) (by rw [hf2]; exact castF_s (by omega))
    exact loop15_2 _ n f (Nat.lt_succ_self _) (by omega) (castF_0 _ _ _)
  · refine r_iconst C dX4_recast_10 ki_0 ?_
    exact RT.1 _ _ _ _ _ dX4_recast_11 rfl nar_0 (⟨_, sv (bP_f (by omega)), rfl, by rw [tCast, if_neg (by omega)]; exact hR⟩) rfl
set_option maxRecDepth 100000 in
set_option maxHeartbeats 1000000 in
theorem c_X4_recast__n {l : Launch} {E : Ev} {h0 q1 : Nat} {f : Nat → Int32} {σ : Sg} (hR : RepC σ f) (hW : Wf σ) {p : Nat} (hp : p < 2147483648) {a : Nat} (ha : a < 2147483648) {n : Nat} (hn : n < 2147483648) : Ct l E yX4_recast cX4_recast 5 (some FieldType.boolean) 3 64 [.ref h0, .int (nI p), .int (nI a), .int (nI n)] [(h0, .inr (4, [.ref q1])), (q1, .inl (eI E, 265, .inl f))] (fun v9 w9 => ∃ f2 : Nat → Int32, v9 = some (.int (bP (p < sP σ ∧ n < 20 ∧ a < sA σ))) ∧ w9 = [(h0, .inr (4, [.ref q1])), (q1, .inl (eI E, 265, .inl f2))] ∧ RepC (tCast σ p (a + 1) n) f2) := by
  have hwP := hW.P
  have hwA := hW.A
  have hwS := hW.S
  refine ct_of (by decide +kernel) (Nat.le_of_ble_eq_true rfl) (fun ω C RT => ?_)
  show ω [(h0, .inr (4, [.ref q1])), (q1, .inl (eI E, 265, .inl f))] [(0, .ref h0), (1, .int (nI p)), (2, .int (nI a)), (3, .int (nI n))] [] 0
  refine r_aload_n C (i := 0) 0 dX4_recast_0 rfl rfl ?_
  refine r_iload_n C (i := 1) 1 dX4_recast_1 rfl rfl ?_
  refine r_iload_n C (i := 2) 2 dX4_recast_2 rfl rfl ?_
  refine r_iload_n C (i := 3) 3 dX4_recast_3 rfl rfl ?_
  refine r_readV (rest := []) C (c_X4_canRecast__n (h0 := h0) (q1 := q1) (f := f) (σ := σ) (p := p) (a := a) (n := n) (hR := hR) (hW := hW) (hp := (by omega)) (ha := (by omega)) (hn := (by omega))) lk_X4_canRecast w_2_226 [0, 1] rfl dX4_recast_4 rfl rfl rfl rfl ⟨by decide, by decide⟩ (Nat.le_of_ble_eq_true rfl) (st' := [.int (bP (p < sP σ ∧ n < 20 ∧ a < sA σ))]) rfl ?_
  refine r_if_ne C (y := 0) (c9 := p < sP σ ∧ n < 20 ∧ a < sA σ) 12 dX4_recast_7 (by decide) z_neB (fun h7_1 => ?_) (fun h7_1 => ?_)
  · refine r_iload_n C (i := 3) 3 dX4_recast_12 rfl rfl ?_
    refine r_istore C (lv' := [(4, .int (nI n)), (0, .ref h0), (1, .int (nI p)), (2, .int (nI a)), (3, .int (nI n))]) dX4_recast_13 (by decide) rfl ?_
    have loop15_2 : ∀ (dd9 : Nat) (k : Nat) (f2 : Nat → Int32), 20 - k < dd9 → (n ≤ k ∧ k ≤ 20) → (f2 = castF f (65 + p * 20 + n) (65 + p * 20 + k) (mI (a + 1))) → ω [(h0, .inr (4, [.ref q1])), (q1, .inl (eI E, 265, .inl f2))] [(4, .int (nI k)), (0, .ref h0), (1, .int (nI p)), (2, .int (nI a)), (3, .int (nI n))] [] 15 := by
      intro dd9
      induction dd9 with
      | zero => intro k f2 hd; exact absurd hd (Nat.not_lt_zero _)
      | succ dd9 ih3 =>
        intro k f2 hd hk hf2
        refine r_iload C (i := 4) 0 dX4_recast_15 rfl ?_
        refine r_bipush C dX4_recast_17 kb_20 ?_
        refine r_icmp_ge C (c9 := 20 ≤ k) 44 dX4_recast_19 (by decide) (c_leNN (by omega) (by omega)) (fun h19_4 => ?_) (fun h19_4 => ?_)
        · refine r_iconst C dX4_recast_44 ki_1 ?_
          exact RT.1 _ _ _ _ _ dX4_recast_45 rfl nar_1 (⟨_, sv (bP_t (by omega)), rfl, by rw [tCast, if_pos (by omega), hf2, (by omega : k = 20)]; exact RepC_cast hR hW (by omega) (by omega)⟩) rfl
        · refine r_aload_n C (i := 0) 1 dX4_recast_22 rfl rfl ?_
          refine r_get C 0 0 uX4 rfl rfl (by decide) w_1_38 rfl dX4_recast_23 ?_
          refine r_bipush C dX4_recast_26 kb_65 ?_
          refine r_iload_n C (i := 1) 2 dX4_recast_28 rfl rfl ?_
          refine r_bipush C dX4_recast_29 kb_20 ?_
          refine r_imul (v := nI (p * 20)) C dX4_recast_31 (pk_mul _ _) ?_
          refine r_iadd (v := nI (65 + (p * 20))) C dX4_recast_32 (nI_add _ _) ?_
          refine r_iload C (i := 4) 0 dX4_recast_33 rfl ?_
          refine r_iadd (v := nI ((65 + (p * 20)) + k)) C dX4_recast_35 (nI_add _ _) ?_
          refine r_iload_n C (i := 2) 3 dX4_recast_36 rfl rfl ?_
          refine r_iast (j := (65 + (p * 20)) + k) (ws' := [(h0, .inr (4, [.ref q1])), (q1, .inl (eI E, 265, .inl (upd f2 ((65 + (p * 20)) + k) (nI a))))]) C 1 rfl (by omega) (by decide) rfl dX4_recast_37 ?_
          refine r_iinc C (lv' := [(4, .int (nI (k + 1))), (0, .ref h0), (1, .int (nI p)), (2, .int (nI a)), (3, .int (nI n))]) (v := nI (k + 1)) 0 dX4_recast_38 rfl (v_inc _) (by decide) rfl ?_
          refine r_goto C 15 dX4_recast_41 (by decide) ?_
          exact ih3 (k + 1) (upd f2 ((65 + (p * 20)) + k) (nI a)) (by omega) (by omega) (by rw [hf2, mI_s]; exact castF_s (by omega))
    exact loop15_2 _ n f (Nat.lt_succ_self _) (by omega) (castF_0 _ _ _)
  · refine r_iconst C dX4_recast_10 ki_0 ?_
    exact RT.1 _ _ _ _ _ dX4_recast_11 rfl nar_0 (⟨_, sv (bP_f (by omega)), rfl, by rw [tCast, if_neg (by omega)]; exact hR⟩) rfl
set_option maxRecDepth 100000 in
set_option maxHeartbeats 1000000 in
theorem c_X4_addUnderstudy {l : Launch} {E : Ev} {h0 q1 : Nat} {f : Nat → Int32} {σ : Sg} (hR : RepC σ f) (hW : Wf σ) {p : Nat} (hp : p < 2147483648) {a : Nat} (ha : a < 2147483648) : Ct l E yX4_addUnderstudy cX4_addUnderstudy 4 (some FieldType.boolean) 3 67 [.ref h0, .int (nI p), .int (nI a)] [(h0, .inr (4, [.ref q1])), (q1, .inl (eI E, 265, .inl f))] (fun v9 w9 => ∃ f2 : Nat → Int32, v9 = some (.int (bP (p < sP σ ∧ a < sA σ ∧ sC σ p < 4 ∧ rk σ p a = 0))) ∧ w9 = [(h0, .inr (4, [.ref q1])), (q1, .inl (eI E, 265, .inl f2))] ∧ RepC (tStudy σ p a) f2) := by
  have hwP := hW.P
  have hwA := hW.A
  have hwS := hW.S
  refine ct_of (by decide +kernel) (Nat.le_of_ble_eq_true rfl) (fun ω C RT => ?_)
  show ω [(h0, .inr (4, [.ref q1])), (q1, .inl (eI E, 265, .inl f))] [(0, .ref h0), (1, .int (nI p)), (2, .int (nI a))] [] 0
  refine r_aload_n C (i := 0) 0 dX4_addUnderstudy_0 rfl rfl ?_
  refine r_iload_n C (i := 1) 1 dX4_addUnderstudy_1 rfl rfl ?_
  refine r_iload_n C (i := 2) 2 dX4_addUnderstudy_2 rfl rfl ?_
  refine r_readV (rest := []) C (c_X4_canAddUnderstudy (h0 := h0) (q1 := q1) (f := f) (σ := σ) (p := p) (a := a) (hR := hR) (hW := hW) (hp := (by omega)) (ha := (by omega))) lk_X4_canAddUnderstudy w_3_4 [0, 1] rfl dX4_addUnderstudy_3 rfl rfl rfl rfl ⟨by decide, by decide⟩ (Nat.le_of_ble_eq_true rfl) (st' := [.int (bP (p < sP σ ∧ a < sA σ ∧ sC σ p < 4 ∧ rk σ p a = 0))]) rfl ?_
  refine r_if_ne C (y := 0) (c9 := p < sP σ ∧ a < sA σ ∧ sC σ p < 4 ∧ rk σ p a = 0) 11 dX4_addUnderstudy_6 (by decide) z_neB (fun h6_1 => ?_) (fun h6_1 => ?_)
  · refine r_aload_n C (i := 0) 0 dX4_addUnderstudy_11 rfl rfl ?_
    refine r_get C 0 0 uX4 rfl rfl (by decide) w_1_38 rfl dX4_addUnderstudy_12 ?_
    refine r_bipush C dX4_addUnderstudy_15 kb_35 ?_
    refine r_iload_n C (i := 1) 1 dX4_addUnderstudy_17 rfl rfl ?_
    refine r_iadd (v := nI (35 + p)) C dX4_addUnderstudy_18 (nI_add _ _) ?_
    refine r_iald (j := 35 + p) (v := nI (sC σ p)) C 1 rfl (by omega) (by decide) (hR.C (by omega)) dX4_addUnderstudy_19 ?_
    refine r_istore_n C (lv' := [(3, .int (nI (sC σ p))), (0, .ref h0), (1, .int (nI p)), (2, .int (nI a))]) dX4_addUnderstudy_20 rfl (by decide) rfl ?_
    refine r_aload_n C (i := 0) 1 dX4_addUnderstudy_21 rfl rfl ?_
    refine r_get C 0 0 uX4 rfl rfl (by decide) w_1_38 rfl dX4_addUnderstudy_22 ?_
    refine r_bipush C dX4_addUnderstudy_25 kb_41 ?_
    refine r_iload_n C (i := 1) 2 dX4_addUnderstudy_27 rfl rfl ?_
    refine r_iconst C dX4_addUnderstudy_28 ki_4 ?_
    refine r_imul (v := nI (p * 4)) C dX4_addUnderstudy_29 (pk_mul _ _) ?_
    refine r_iadd (v := nI (41 + (p * 4))) C dX4_addUnderstudy_30 (nI_add _ _) ?_
    refine r_iload_n C (i := 3) 0 dX4_addUnderstudy_31 rfl rfl ?_
    refine r_iadd (v := nI ((41 + (p * 4)) + (sC σ p))) C dX4_addUnderstudy_32 (nI_add _ _) ?_
    refine r_iload_n C (i := 2) 3 dX4_addUnderstudy_33 rfl rfl ?_
    refine r_iast (j := (41 + (p * 4)) + (sC σ p)) (ws' := [(h0, .inr (4, [.ref q1])), (q1, .inl (eI E, 265, .inl (upd f ((41 + (p * 4)) + (sC σ p)) (nI a))))]) C 1 rfl (by omega) (by decide) rfl dX4_addUnderstudy_34 ?_
    refine r_aload_n C (i := 0) 1 dX4_addUnderstudy_35 rfl rfl ?_
    refine r_get C 0 0 uX4 rfl rfl (by decide) w_1_38 rfl dX4_addUnderstudy_36 ?_
    refine r_bipush C dX4_addUnderstudy_39 kb_35 ?_
    refine r_iload_n C (i := 1) 2 dX4_addUnderstudy_41 rfl rfl ?_
    refine r_iadd (v := nI (35 + p)) C dX4_addUnderstudy_42 (nI_add _ _) ?_
    refine r_iload_n C (i := 3) 0 dX4_addUnderstudy_43 rfl rfl ?_
    refine r_iconst C dX4_addUnderstudy_44 ki_1 ?_
    refine r_iadd (v := nI ((sC σ p) + 1)) C dX4_addUnderstudy_45 (nI_add _ _) ?_
    refine r_iast (j := 35 + p) (ws' := [(h0, .inr (4, [.ref q1])), (q1, .inl (eI E, 265, .inl (upd (upd f ((41 + (p * 4)) + (sC σ p)) (nI a)) (35 + p) (nI ((sC σ p) + 1)))))]) C 1 rfl (by omega) (by decide) rfl dX4_addUnderstudy_46 ?_
    refine r_iconst C dX4_addUnderstudy_47 ki_1 ?_
    exact RT.1 _ _ _ _ _ dX4_addUnderstudy_48 rfl nar_1 (⟨_, sv (bP_t (by omega)), rfl, by rw [tStudy, if_pos (by omega)]; exact RepC_study hR hW (by omega) (by omega)⟩) rfl
  · refine r_iconst C dX4_addUnderstudy_9 ki_0 ?_
    exact RT.1 _ _ _ _ _ dX4_addUnderstudy_10 rfl nar_0 (⟨_, sv (bP_f (by omega)), rfl, by rw [tStudy, if_neg (by omega)]; exact hR⟩) rfl
set_option maxRecDepth 100000 in
set_option maxHeartbeats 1000000 in
theorem c_X4_dropUnderstudy {l : Launch} {E : Ev} {h0 q1 : Nat} {f : Nat → Int32} {σ : Sg} (hR : RepC σ f) (hW : Wf σ) {p : Nat} (hp : p < 2147483648) {a : Nat} (ha : a < 2147483648) : Ct l E yX4_dropUnderstudy cX4_dropUnderstudy 6 (some FieldType.boolean) 2 45 [.ref h0, .int (nI p), .int (nI a)] [(h0, .inr (4, [.ref q1])), (q1, .inl (eI E, 265, .inl f))] (fun v9 w9 => ∃ f2 : Nat → Int32, v9 = some (.int (bP (p < sP σ ∧ a < sA σ ∧ rk σ p a ≠ 0))) ∧ w9 = [(h0, .inr (4, [.ref q1])), (q1, .inl (eI E, 265, .inl f2))] ∧ RepC (tRel σ p a) f2) := by
  have hwP := hW.P
  have hwA := hW.A
  have hwS := hW.S
  refine ct_of (by decide +kernel) (Nat.le_of_ble_eq_true rfl) (fun ω C RT => ?_)
  show ω [(h0, .inr (4, [.ref q1])), (q1, .inl (eI E, 265, .inl f))] [(0, .ref h0), (1, .int (nI p)), (2, .int (nI a))] [] 0
  refine r_aload_n C (i := 0) 0 dX4_dropUnderstudy_0 rfl rfl ?_
  refine r_iload_n C (i := 1) 1 dX4_dropUnderstudy_1 rfl rfl ?_
  refine r_readV (rest := []) C (c_X4_hasPart (h0 := h0) (q1 := q1) (f := f) (σ := σ) (p := p) (hR := hR) (hW := hW) (hp := (by omega))) lk_X4_hasPart w_2_230 [0, 1] rfl dX4_dropUnderstudy_2 rfl rfl rfl rfl ⟨by decide, by decide⟩ (Nat.le_of_ble_eq_true rfl) (st' := [.int (bP (p < sP σ))]) rfl ?_
  refine r_if_eq C (y := 0) (c9 := ¬ (p < sP σ)) 16 dX4_dropUnderstudy_5 (by decide) z_eqB (fun h5_1 => ?_) (fun h5_1 => ?_)
  · refine r_iconst C dX4_dropUnderstudy_16 ki_0 ?_
    exact RT.1 _ _ _ _ _ dX4_dropUnderstudy_17 rfl nar_0 (⟨_, sv (bP_f (by omega)), rfl, by rw [tRel, if_neg (by omega)]; exact hR⟩) rfl
  · replace h5_1 : p < sP σ := Decidable.not_not.mp h5_1
    refine r_aload_n C (i := 0) 0 dX4_dropUnderstudy_8 rfl rfl ?_
    refine r_iload_n C (i := 2) 2 dX4_dropUnderstudy_9 rfl rfl ?_
    refine r_readV (rest := []) C (c_X4_hasActor (h0 := h0) (q1 := q1) (f := f) (σ := σ) (p := a) (hR := hR) (hW := hW) (hp := (by omega))) lk_X4_hasActor w_2_31 [0, 1] rfl dX4_dropUnderstudy_10 rfl rfl rfl rfl ⟨by decide, by decide⟩ (Nat.le_of_ble_eq_true rfl) (st' := [.int (bP (a < sA σ))]) rfl ?_
    refine r_if_ne C (y := 0) (c9 := a < sA σ) 18 dX4_dropUnderstudy_13 (by decide) z_neB (fun h13_2 => ?_) (fun h13_2 => ?_)
    · have hrk := rk_le σ p a
      have hwC := hW.C (by omega : p < sP σ)
      refine r_aload_n C (i := 0) 0 dX4_dropUnderstudy_18 rfl rfl ?_
      refine r_iload_n C (i := 1) 1 dX4_dropUnderstudy_19 rfl rfl ?_
      refine r_iload_n C (i := 2) 2 dX4_dropUnderstudy_20 rfl rfl ?_
      refine r_readV (rest := []) C (c_X4_rankOf (h0 := h0) (q1 := q1) (f := f) (σ := σ) (p := p) (a := a) (hR := hR) (hW := hW) (hp := (by omega)) (ha := (by omega))) lk_X4_rankOf w_3_8 [0, 1] rfl dX4_dropUnderstudy_21 rfl rfl rfl rfl ⟨by decide, by decide⟩ (Nat.le_of_ble_eq_true rfl) (st' := [.int (mI (rk σ p a))]) rfl ?_
      refine r_istore_n C (lv' := [(3, .int (mI (rk σ p a))), (0, .ref h0), (1, .int (nI p)), (2, .int (nI a))]) dX4_dropUnderstudy_24 rfl (by decide) rfl ?_
      refine r_iload_n C (i := 3) 0 dX4_dropUnderstudy_25 rfl rfl ?_
      refine r_iconst C dX4_dropUnderstudy_26 ki_m1 ?_
      refine r_icmp_ne C (c9 := rk σ p a ≠ 0) 32 dX4_dropUnderstudy_27 (by decide) (c_neMM (by omega) (by omega)) (fun h27_3 => ?_) (fun h27_3 => ?_)
      · have hra := rk_at (by omega : rk σ p a ≠ 0)
        obtain ⟨r, her⟩ : ∃ r, r = rk σ p a - 1 := ⟨_, rfl⟩
        have her2 : rk σ p a = r + 1 := by omega
        refine r_lo (lv' := [(3, .int (nI r)), (0, .ref h0), (1, .int (nI p)), (2, .int (nI a))]) (by rw [her2, mI_s]) ?_
        rw [← her] at hra
        refine r_bipush C dX4_dropUnderstudy_32 kb_41 ?_
        refine r_iload_n C (i := 1) 2 dX4_dropUnderstudy_34 rfl rfl ?_
        refine r_iconst C dX4_dropUnderstudy_35 ki_4 ?_
        refine r_imul (v := nI (p * 4)) C dX4_dropUnderstudy_36 (pk_mul _ _) ?_
        refine r_iadd (v := nI (41 + (p * 4))) C dX4_dropUnderstudy_37 (nI_add _ _) ?_
        refine r_istore C (lv' := [(4, .int (nI (41 + (p * 4)))), (3, .int (nI r)), (0, .ref h0), (1, .int (nI p)), (2, .int (nI a))]) dX4_dropUnderstudy_38 (by decide) rfl ?_
        refine r_iload_n C (i := 3) 1 dX4_dropUnderstudy_40 rfl rfl ?_
        refine r_istore C (lv' := [(5, .int (nI r)), (4, .int (nI (41 + (p * 4)))), (3, .int (nI r)), (0, .ref h0), (1, .int (nI p)), (2, .int (nI a))]) dX4_dropUnderstudy_41 (by decide) rfl ?_
        have loop43_4 : ∀ (dd9 : Nat) (k : Nat) (f2 : Nat → Int32), 3 - k < dd9 → (r ≤ k ∧ k ≤ 3) → (f2 = shiftF f (41 + p * 4 + r) (41 + p * 4 + k) 1) → ω [(h0, .inr (4, [.ref q1])), (q1, .inl (eI E, 265, .inl f2))] [(5, .int (nI k)), (4, .int (nI (41 + (p * 4)))), (3, .int (nI r)), (0, .ref h0), (1, .int (nI p)), (2, .int (nI a))] [] 43 := by
          intro dd9
          induction dd9 with
          | zero => intro k f2 hd; exact absurd hd (Nat.not_lt_zero _)
          | succ dd9 ih5 =>
            intro k f2 hd hk hf2
            refine r_iload C (i := 5) 0 dX4_dropUnderstudy_43 rfl ?_
            refine r_iconst C dX4_dropUnderstudy_45 ki_1 ?_
            refine r_iadd (v := nI (k + 1)) C dX4_dropUnderstudy_46 (nI_add _ _) ?_
            refine r_iconst C dX4_dropUnderstudy_47 ki_4 ?_
            refine r_icmp_ge C (c9 := 4 ≤ k + 1) 79 dX4_dropUnderstudy_48 (by decide) (c_leNN (by omega) (by omega)) (fun h48_6 => ?_) (fun h48_6 => ?_)
            · refine r_aload_n C (i := 0) 3 dX4_dropUnderstudy_79 rfl rfl ?_
              refine r_get C 0 0 uX4 rfl rfl (by decide) w_1_38 rfl dX4_dropUnderstudy_80 ?_
              refine r_bipush C dX4_dropUnderstudy_83 kb_35 ?_
              refine r_iload_n C (i := 1) 4 dX4_dropUnderstudy_85 rfl rfl ?_
              refine r_iadd (v := nI (35 + p)) C dX4_dropUnderstudy_86 (nI_add _ _) ?_
              refine r_dup2 C dX4_dropUnderstudy_87 rfl rfl ?_
              refine r_iald (j := 35 + p) (v := nI (sC σ p)) C 1 rfl (by omega) (by decide) (by rw [hf2, shiftF, if_neg (by omega)]; exact hR.C (by omega)) dX4_dropUnderstudy_88 ?_
              refine r_iconst C dX4_dropUnderstudy_89 ki_1 ?_
              refine r_isub (v := nI ((sC σ p) - 1)) C dX4_dropUnderstudy_90 (v_sub (by omega)) ?_
              refine r_iast (j := 35 + p) (ws' := [(h0, .inr (4, [.ref q1])), (q1, .inl (eI E, 265, .inl (upd f2 (35 + p) (nI ((sC σ p) - 1)))))]) C 1 rfl (by omega) (by decide) rfl dX4_dropUnderstudy_91 ?_
              refine r_iconst C dX4_dropUnderstudy_92 ki_1 ?_
              exact RT.1 _ _ _ _ _ dX4_dropUnderstudy_93 rfl nar_1 (⟨_, sv (bP_t (by omega)), rfl, by rw [tRel, if_pos (by omega), hf2, (by omega : k = 3), her]; exact RepC_rel hR hW (by omega) (by omega)⟩) rfl
            · refine r_aload_n C (i := 0) 3 dX4_dropUnderstudy_51 rfl rfl ?_
              refine r_get C 0 0 uX4 rfl rfl (by decide) w_1_38 rfl dX4_dropUnderstudy_52 ?_
              refine r_iload C (i := 4) 1 dX4_dropUnderstudy_55 rfl ?_
              refine r_iload C (i := 5) 0 dX4_dropUnderstudy_57 rfl ?_
              refine r_iadd (v := nI ((41 + (p * 4)) + k)) C dX4_dropUnderstudy_59 (nI_add _ _) ?_
              refine r_aload_n C (i := 0) 3 dX4_dropUnderstudy_60 rfl rfl ?_
              refine r_get C 0 0 uX4 rfl rfl (by decide) w_1_38 rfl dX4_dropUnderstudy_61 ?_
              refine r_iload C (i := 4) 1 dX4_dropUnderstudy_64 rfl ?_
              refine r_iload C (i := 5) 0 dX4_dropUnderstudy_66 rfl ?_
              refine r_iadd (v := nI ((41 + (p * 4)) + k)) C dX4_dropUnderstudy_68 (nI_add _ _) ?_
              refine r_iconst C dX4_dropUnderstudy_69 ki_1 ?_
              refine r_iadd (v := nI (((41 + (p * 4)) + k) + 1)) C dX4_dropUnderstudy_70 (nI_add _ _) ?_
              refine r_iald (j := ((41 + (p * 4)) + k) + 1) (v := f (41 + p * 4 + k + 1)) C 1 rfl (by omega) (by decide) (by rw [hf2]; exact shiftF_at (by omega)) dX4_dropUnderstudy_71 ?_
              refine r_iast (j := (41 + (p * 4)) + k) (ws' := [(h0, .inr (4, [.ref q1])), (q1, .inl (eI E, 265, .inl (upd f2 ((41 + (p * 4)) + k) (f (41 + p * 4 + k + 1)))))]) C 1 rfl (by omega) (by decide) rfl dX4_dropUnderstudy_72 ?_
              refine r_iinc C (lv' := [(5, .int (nI (k + 1))), (4, .int (nI (41 + (p * 4)))), (3, .int (nI r)), (0, .ref h0), (1, .int (nI p)), (2, .int (nI a))]) (v := nI (k + 1)) 0 dX4_dropUnderstudy_73 rfl (v_inc _) (by decide) rfl ?_
              refine r_goto C 43 dX4_dropUnderstudy_76 (by decide) ?_
              exact ih5 (k + 1) (upd f2 ((41 + (p * 4)) + k) (f (41 + p * 4 + k + 1))) (by omega) (by omega) (by rw [hf2]; exact shiftF_s (by omega))
        exact loop43_4 _ r f (Nat.lt_succ_self _) (by omega) (shiftF_0 _ _ _)
      · refine r_iconst C dX4_dropUnderstudy_30 ki_0 ?_
        exact RT.1 _ _ _ _ _ dX4_dropUnderstudy_31 rfl nar_0 (⟨_, sv (bP_f (by omega)), rfl, by rw [tRel, if_neg (by omega)]; exact hR⟩) rfl
    · refine r_iconst C dX4_dropUnderstudy_16 ki_0 ?_
      exact RT.1 _ _ _ _ _ dX4_dropUnderstudy_17 rfl nar_0 (⟨_, sv (bP_f (by omega)), rfl, by rw [tRel, if_neg (by omega)]; exact hR⟩) rfl
set_option maxRecDepth 100000 in
set_option maxHeartbeats 1000000 in
theorem c_X4_addSlip {l : Launch} {E : Ev} {h0 q1 : Nat} {f : Nat → Int32} {σ : Sg} (hR : RepC σ f) (hW : Wf σ) {n : Nat} (hn : n < 2147483648) {p : Nat} (hp : p < 2147483648) {a : Nat} (ha : a < 2147483648) {x : Nat} (hx : x < 2147483648) : Ct l E yX4_addSlip cX4_addSlip 7 (some FieldType.boolean) 3 65 [.ref h0, .int (nI n), .int (nI p), .int (nI a), .int (nI x)] [(h0, .inr (4, [.ref q1])), (q1, .inl (eI E, 265, .inl f))] (fun v9 w9 => ∃ f2 : Nat → Int32, v9 = some (.int (bP (n < 20 ∧ p < sP σ ∧ a < sA σ ∧ x < 24 ∧ sS σ < 20))) ∧ w9 = [(h0, .inr (4, [.ref q1])), (q1, .inl (eI E, 265, .inl f2))] ∧ RepC (tSlip σ n p a x) f2) := by
  have hwP := hW.P
  have hwA := hW.A
  have hwS := hW.S
  refine ct_of (by decide +kernel) (Nat.le_of_ble_eq_true rfl) (fun ω C RT => ?_)
  show ω [(h0, .inr (4, [.ref q1])), (q1, .inl (eI E, 265, .inl f))] [(0, .ref h0), (1, .int (nI n)), (2, .int (nI p)), (3, .int (nI a)), (4, .int (nI x))] [] 0
  refine r_aload_n C (i := 0) 0 dX4_addSlip_0 rfl rfl ?_
  refine r_iload_n C (i := 1) 1 dX4_addSlip_1 rfl rfl ?_
  refine r_iload_n C (i := 2) 2 dX4_addSlip_2 rfl rfl ?_
  refine r_iload_n C (i := 3) 3 dX4_addSlip_3 rfl rfl ?_
  refine r_iload C (i := 4) 4 dX4_addSlip_4 rfl ?_
  refine r_readV (rest := []) C (c_X4_canAddSlip (h0 := h0) (q1 := q1) (f := f) (σ := σ) (n := n) (p := p) (a := a) (h := x) (hR := hR) (hW := hW) (hn := (by omega)) (hp := (by omega)) (ha := (by omega)) (hh := (by omega))) lk_X4_canAddSlip w_3_24 [0, 1] rfl dX4_addSlip_6 rfl rfl rfl rfl ⟨by decide, by decide⟩ (Nat.le_of_ble_eq_true rfl) (st' := [.int (bP (n < 20 ∧ p < sP σ ∧ a < sA σ ∧ x < 24 ∧ sS σ < 20))]) rfl ?_
  refine r_if_ne C (y := 0) (c9 := n < 20 ∧ p < sP σ ∧ a < sA σ ∧ x < 24 ∧ sS σ < 20) 14 dX4_addSlip_9 (by decide) z_neB (fun h9_1 => ?_) (fun h9_1 => ?_)
  · refine r_aload_n C (i := 0) 0 dX4_addSlip_14 rfl rfl ?_
    refine r_get C 0 0 uX4 rfl rfl (by decide) w_1_38 rfl dX4_addSlip_15 ?_
    refine r_iconst C dX4_addSlip_18 ki_2 ?_
    refine r_iald (j := 2) (v := nI (sS σ)) C 1 rfl (by omega) (by decide) hR.S dX4_addSlip_19 ?_
    refine r_istore C (lv' := [(5, .int (nI (sS σ))), (0, .ref h0), (1, .int (nI n)), (2, .int (nI p)), (3, .int (nI a)), (4, .int (nI x))]) dX4_addSlip_20 (by decide) rfl ?_
    refine r_sipush C dX4_addSlip_22 ks_185 ?_
    refine r_iload C (i := 5) 0 dX4_addSlip_25 rfl ?_
    refine r_iconst C dX4_addSlip_27 ki_4 ?_
    refine r_imul (v := nI ((sS σ) * 4)) C dX4_addSlip_28 (pk_mul _ _) ?_
    refine r_iadd (v := nI (185 + ((sS σ) * 4))) C dX4_addSlip_29 (nI_add _ _) ?_
    refine r_istore C (lv' := [(6, .int (nI (185 + ((sS σ) * 4)))), (5, .int (nI (sS σ))), (0, .ref h0), (1, .int (nI n)), (2, .int (nI p)), (3, .int (nI a)), (4, .int (nI x))]) dX4_addSlip_30 (by decide) rfl ?_
    refine r_aload_n C (i := 0) 2 dX4_addSlip_32 rfl rfl ?_
    refine r_get C 0 0 uX4 rfl rfl (by decide) w_1_38 rfl dX4_addSlip_33 ?_
    refine r_iload C (i := 6) 0 dX4_addSlip_36 rfl ?_
    refine r_iload_n C (i := 1) 3 dX4_addSlip_38 rfl rfl ?_
    refine r_iast (j := 185 + ((sS σ) * 4)) (ws' := [(h0, .inr (4, [.ref q1])), (q1, .inl (eI E, 265, .inl (upd f (185 + ((sS σ) * 4)) (nI n))))]) C 1 rfl (by omega) (by decide) rfl dX4_addSlip_39 ?_
    refine r_aload_n C (i := 0) 2 dX4_addSlip_40 rfl rfl ?_
    refine r_get C 0 0 uX4 rfl rfl (by decide) w_1_38 rfl dX4_addSlip_41 ?_
    refine r_iload C (i := 6) 0 dX4_addSlip_44 rfl ?_
    refine r_iconst C dX4_addSlip_46 ki_1 ?_
    refine r_iadd (v := nI ((185 + ((sS σ) * 4)) + 1)) C dX4_addSlip_47 (nI_add _ _) ?_
    refine r_iload_n C (i := 2) 4 dX4_addSlip_48 rfl rfl ?_
    refine r_iast (j := (185 + ((sS σ) * 4)) + 1) (ws' := [(h0, .inr (4, [.ref q1])), (q1, .inl (eI E, 265, .inl (upd (upd f (185 + ((sS σ) * 4)) (nI n)) ((185 + ((sS σ) * 4)) + 1) (nI p))))]) C 1 rfl (by omega) (by decide) rfl dX4_addSlip_49 ?_
    refine r_aload_n C (i := 0) 2 dX4_addSlip_50 rfl rfl ?_
    refine r_get C 0 0 uX4 rfl rfl (by decide) w_1_38 rfl dX4_addSlip_51 ?_
    refine r_iload C (i := 6) 0 dX4_addSlip_54 rfl ?_
    refine r_iconst C dX4_addSlip_56 ki_2 ?_
    refine r_iadd (v := nI ((185 + ((sS σ) * 4)) + 2)) C dX4_addSlip_57 (nI_add _ _) ?_
    refine r_iload_n C (i := 3) 5 dX4_addSlip_58 rfl rfl ?_
    refine r_iast (j := (185 + ((sS σ) * 4)) + 2) (ws' := [(h0, .inr (4, [.ref q1])), (q1, .inl (eI E, 265, .inl (upd (upd (upd f (185 + ((sS σ) * 4)) (nI n)) ((185 + ((sS σ) * 4)) + 1) (nI p)) ((185 + ((sS σ) * 4)) + 2) (nI a))))]) C 1 rfl (by omega) (by decide) rfl dX4_addSlip_59 ?_
    refine r_aload_n C (i := 0) 2 dX4_addSlip_60 rfl rfl ?_
    refine r_get C 0 0 uX4 rfl rfl (by decide) w_1_38 rfl dX4_addSlip_61 ?_
    refine r_iload C (i := 6) 0 dX4_addSlip_64 rfl ?_
    refine r_iconst C dX4_addSlip_66 ki_3 ?_
    refine r_iadd (v := nI ((185 + ((sS σ) * 4)) + 3)) C dX4_addSlip_67 (nI_add _ _) ?_
    refine r_iload C (i := 4) 6 dX4_addSlip_68 rfl ?_
    refine r_iast (j := (185 + ((sS σ) * 4)) + 3) (ws' := [(h0, .inr (4, [.ref q1])), (q1, .inl (eI E, 265, .inl (upd (upd (upd (upd f (185 + ((sS σ) * 4)) (nI n)) ((185 + ((sS σ) * 4)) + 1) (nI p)) ((185 + ((sS σ) * 4)) + 2) (nI a)) ((185 + ((sS σ) * 4)) + 3) (nI x))))]) C 1 rfl (by omega) (by decide) rfl dX4_addSlip_70 ?_
    refine r_aload_n C (i := 0) 2 dX4_addSlip_71 rfl rfl ?_
    refine r_get C 0 0 uX4 rfl rfl (by decide) w_1_38 rfl dX4_addSlip_72 ?_
    refine r_iconst C dX4_addSlip_75 ki_2 ?_
    refine r_iload C (i := 5) 1 dX4_addSlip_76 rfl ?_
    refine r_iconst C dX4_addSlip_78 ki_1 ?_
    refine r_iadd (v := nI ((sS σ) + 1)) C dX4_addSlip_79 (nI_add _ _) ?_
    refine r_iast (j := 2) (ws' := [(h0, .inr (4, [.ref q1])), (q1, .inl (eI E, 265, .inl (upd (upd (upd (upd (upd f (185 + ((sS σ) * 4)) (nI n)) ((185 + ((sS σ) * 4)) + 1) (nI p)) ((185 + ((sS σ) * 4)) + 2) (nI a)) ((185 + ((sS σ) * 4)) + 3) (nI x)) 2 (nI ((sS σ) + 1)))))]) C 1 rfl (by omega) (by decide) rfl dX4_addSlip_80 ?_
    refine r_iconst C dX4_addSlip_81 ki_1 ?_
    exact RT.1 _ _ _ _ _ dX4_addSlip_82 rfl nar_1 (⟨_, sv (bP_t (by omega)), rfl, by rw [tSlip, if_pos (by omega)]; exact RepC_slip hR hW (by omega)⟩) rfl
  · refine r_iconst C dX4_addSlip_12 ki_0 ?_
    exact RT.1 _ _ _ _ _ dX4_addSlip_13 rfl nar_0 (⟨_, sv (bP_f (by omega)), rfl, by rw [tSlip, if_neg (by omega)]; exact hR⟩) rfl
set_option maxRecDepth 100000 in
set_option maxHeartbeats 1000000 in
theorem c_X4_dropSlip {l : Launch} {E : Ev} {h0 q1 : Nat} {f : Nat → Int32} {σ : Sg} (hR : RepC σ f) (hW : Wf σ) {k : Nat} (hk : k < 2147483648) : Ct l E yX4_dropSlip cX4_dropSlip 3 (some FieldType.boolean) 1 21 [.ref h0, .int (nI k)] [(h0, .inr (4, [.ref q1])), (q1, .inl (eI E, 265, .inl f))] (fun v9 w9 => ∃ f2 : Nat → Int32, v9 = some (.int (bP (k < sS σ))) ∧ w9 = [(h0, .inr (4, [.ref q1])), (q1, .inl (eI E, 265, .inl f2))] ∧ RepC (tLose σ k) f2) := by
  have hwP := hW.P
  have hwA := hW.A
  have hwS := hW.S
  refine ct_of (by decide +kernel) (Nat.le_of_ble_eq_true rfl) (fun ω C RT => ?_)
  show ω [(h0, .inr (4, [.ref q1])), (q1, .inl (eI E, 265, .inl f))] [(0, .ref h0), (1, .int (nI k))] [] 0
  refine r_aload_n C (i := 0) 0 dX4_dropSlip_0 rfl rfl ?_
  refine r_iload_n C (i := 1) 1 dX4_dropSlip_1 rfl rfl ?_
  refine r_readV (rest := []) C (c_X4_hasSlip (h0 := h0) (q1 := q1) (f := f) (σ := σ) (p := k) (hR := hR) (hW := hW) (hp := (by omega))) lk_X4_hasSlip w_4_121 [0, 1] rfl dX4_dropSlip_2 rfl rfl rfl rfl ⟨by decide, by decide⟩ (Nat.le_of_ble_eq_true rfl) (st' := [.int (bP (k < sS σ))]) rfl ?_
  refine r_if_ne C (y := 0) (c9 := k < sS σ) 10 dX4_dropSlip_5 (by decide) z_neB (fun h5_1 => ?_) (fun h5_1 => ?_)
  · refine r_sipush C dX4_dropSlip_10 ks_185 ?_
    refine r_iload_n C (i := 1) 1 dX4_dropSlip_13 rfl rfl ?_
    refine r_iconst C dX4_dropSlip_14 ki_4 ?_
    refine r_imul (v := nI (k * 4)) C dX4_dropSlip_15 (pk_mul _ _) ?_
    refine r_iadd (v := nI (185 + (k * 4))) C dX4_dropSlip_16 (nI_add _ _) ?_
    refine r_istore_n C (lv' := [(2, .int (nI (185 + (k * 4)))), (0, .ref h0), (1, .int (nI k))]) dX4_dropSlip_17 rfl (by decide) rfl ?_
    have loop18_2 : ∀ (dd9 : Nat) (i : Nat) (f2 : Nat → Int32), 261 - i < dd9 → (185 + k * 4 ≤ i ∧ i ≤ 261) → (f2 = shiftF f (185 + k * 4) i 4) → ω [(h0, .inr (4, [.ref q1])), (q1, .inl (eI E, 265, .inl f2))] [(2, .int (nI i)), (0, .ref h0), (1, .int (nI k))] [] 18 := by
      intro dd9
      induction dd9 with
      | zero => intro i f2 hd; exact absurd hd (Nat.not_lt_zero _)
      | succ dd9 ih3 =>
        intro i f2 hd hi hf2
        refine r_iload_n C (i := 2) 0 dX4_dropSlip_18 rfl rfl ?_
        refine r_iconst C dX4_dropSlip_19 ki_4 ?_
        refine r_iadd (v := nI (i + 4)) C dX4_dropSlip_20 (nI_add _ _) ?_
        refine r_sipush C dX4_dropSlip_21 ks_265 ?_
        refine r_icmp_ge C (c9 := 265 ≤ i + 4) 47 dX4_dropSlip_24 (by decide) (c_leNN (by omega) (by omega)) (fun h24_4 => ?_) (fun h24_4 => ?_)
        · refine r_aload_n C (i := 0) 1 dX4_dropSlip_47 rfl rfl ?_
          refine r_get C 0 0 uX4 rfl rfl (by decide) w_1_38 rfl dX4_dropSlip_48 ?_
          refine r_iconst C dX4_dropSlip_51 ki_2 ?_
          refine r_dup2 C dX4_dropSlip_52 rfl rfl ?_
          refine r_iald (j := 2) (v := nI (sS σ)) C 1 rfl (by omega) (by decide) (by rw [hf2, shiftF, if_neg (by omega)]; exact hR.S) dX4_dropSlip_53 ?_
          refine r_iconst C dX4_dropSlip_54 ki_1 ?_
          refine r_isub (v := nI ((sS σ) - 1)) C dX4_dropSlip_55 (v_sub (by omega)) ?_
          refine r_iast (j := 2) (ws' := [(h0, .inr (4, [.ref q1])), (q1, .inl (eI E, 265, .inl (upd f2 2 (nI ((sS σ) - 1)))))]) C 1 rfl (by omega) (by decide) rfl dX4_dropSlip_56 ?_
          refine r_iconst C dX4_dropSlip_57 ki_1 ?_
          exact RT.1 _ _ _ _ _ dX4_dropSlip_58 rfl nar_1 (⟨_, sv (bP_t (by omega)), rfl, by rw [tLose, if_pos (by omega), hf2, (by omega : i = 261)]; exact RepC_lose hR hW (by omega)⟩) rfl
        · refine r_aload_n C (i := 0) 1 dX4_dropSlip_27 rfl rfl ?_
          refine r_get C 0 0 uX4 rfl rfl (by decide) w_1_38 rfl dX4_dropSlip_28 ?_
          refine r_iload_n C (i := 2) 0 dX4_dropSlip_31 rfl rfl ?_
          refine r_aload_n C (i := 0) 1 dX4_dropSlip_32 rfl rfl ?_
          refine r_get C 0 0 uX4 rfl rfl (by decide) w_1_38 rfl dX4_dropSlip_33 ?_
          refine r_iload_n C (i := 2) 0 dX4_dropSlip_36 rfl rfl ?_
          refine r_iconst C dX4_dropSlip_37 ki_4 ?_
          refine r_iadd (v := nI (i + 4)) C dX4_dropSlip_38 (nI_add _ _) ?_
          refine r_iald (j := i + 4) (v := f (i + 4)) C 1 rfl (by omega) (by decide) (by rw [hf2]; exact shiftF_at (by omega)) dX4_dropSlip_39 ?_
          refine r_iast (j := i) (ws' := [(h0, .inr (4, [.ref q1])), (q1, .inl (eI E, 265, .inl (upd f2 i (f (i + 4)))))]) C 1 rfl (by omega) (by decide) rfl dX4_dropSlip_40 ?_
          refine r_iinc C (lv' := [(2, .int (nI (i + 1))), (0, .ref h0), (1, .int (nI k))]) (v := nI (i + 1)) 0 dX4_dropSlip_41 rfl (v_inc _) (by decide) rfl ?_
          refine r_goto C 18 dX4_dropSlip_44 (by decide) ?_
          exact ih3 (i + 1) (upd f2 i (f (i + 4))) (by omega) (by omega) (by rw [hf2]; exact shiftF_s (by omega))
    exact loop18_2 _ (185 + (k * 4)) f (Nat.lt_succ_self _) (by omega) (shiftF_0 _ _ _)
  · refine r_iconst C dX4_dropSlip_8 ki_0 ?_
    exact RT.1 _ _ _ _ _ dX4_dropSlip_9 rfl nar_0 (⟨_, sv (bP_f (by omega)), rfl, by rw [tLose, if_neg (by omega)]; exact hR⟩) rfl
