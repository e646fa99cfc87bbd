set_option maxRecDepth 100000 in
set_option maxHeartbeats 1000000 in
theorem c_X6_castOn {l : Launch} {E : Ev} {r : Nat} {g : Nat → Int32} {σ : Sg} (hR : RepM σ g) (hW : Wf σ) {p x n : Nat} (hp : p < sP σ) (hn : n < 20) (hx : x ≤ sA σ) : Ct l E yX6_castOn cX6_castOn 6 (some FieldType.int) 1 22 [.ref r, .int (nI p), .int (mI x), .int (nI n)] [(r, .inl (eI E, 255, .inl g))] (fun v9 w9 => ∃ g2 : Nat → Int32, v9 = some (.int (mI (sR σ p n))) ∧ w9 = [(r, .inl (eI E, 255, .inl g2))] ∧ RepM (oCast σ p x n) g2) := by
  have hwP := hW.P
  have hwA := hW.A
  have hwS := hW.S
  refine ct_of (by decide +kernel) (Nat.le_of_ble_eq_true rfl) (fun ω C RT => ?_)
  show ω [(r, .inl (eI E, 255, .inl g))] [(0, .ref r), (1, .int (nI p)), (2, .int (mI x)), (3, .int (nI n))] [] 0
  refine r_aload_n C (i := 0) 0 dX6_castOn_0 rfl rfl ?_
  refine r_iload_n C (i := 3) 3 dX6_castOn_1 rfl rfl ?_
  refine r_iload_n C (i := 1) 1 dX6_castOn_2 rfl rfl ?_
  refine r_readS (rest := []) C (c_X6_principal (r := r) (g := g) (σ := σ) (n := n) (p := p) (hR := hR) (hW := hW) (hn := (by omega)) (hp := (by omega))) lk_X6_principal w_5_160 [0] dX6_castOn_3 rfl rfl rfl ⟨by decide, by decide⟩ (Nat.le_of_ble_eq_true rfl) (st' := [.int (mI (sR σ p n))]) rfl ?_
  refine r_istore C (lv' := [(4, .int (mI (sR σ p n))), (0, .ref r), (1, .int (nI p)), (2, .int (mI x)), (3, .int (nI n))]) dX6_castOn_6 (by decide) rfl ?_
  refine r_iload_n C (i := 3) 4 dX6_castOn_8 rfl rfl ?_
  refine r_istore C (lv' := [(5, .int (nI n)), (4, .int (mI (sR σ p n))), (0, .ref r), (1, .int (nI p)), (2, .int (mI x)), (3, .int (nI n))]) dX6_castOn_9 (by decide) rfl ?_
  have loop11_1 : ∀ (dd9 : Nat) (k : Nat) (g2 : Nat → Int32), 20 - k < dd9 → (n ≤ k ∧ k ≤ 20) → (g2 = castF g (25 + 20 * p + n) (25 + 20 * p + k) (mI (x))) → ω [(r, .inl (eI E, 255, .inl g2))] [(5, .int (nI k)), (4, .int (mI (sR σ p n))), (0, .ref r), (1, .int (nI p)), (2, .int (mI x)), (3, .int (nI n))] [] 11 := by
    intro dd9
    induction dd9 with
    | zero => intro k g2 hd; exact absurd hd (Nat.not_lt_zero _)
    | succ dd9 ih2 =>
      intro k g2 hd hk hg
      refine r_iload C (i := 5) 0 dX6_castOn_11 rfl ?_
      refine r_bipush C dX6_castOn_13 kb_20 ?_
      refine r_icmp_ge C (c9 := 20 ≤ k) 37 dX6_castOn_15 (by decide) (c_leNN (by omega) (by omega)) (fun h15_3 => ?_) (fun h15_3 => ?_)
      · refine r_iload C (i := 4) 1 dX6_castOn_37 rfl ?_
        exact RT.1 _ _ _ _ _ dX6_castOn_39 rfl rfl (⟨_, rfl, rfl, by rw [hg, (by omega : k = 20)]; exact RepM_cast hR hW hp hn⟩) rfl
      · refine r_aload_n C (i := 0) 2 dX6_castOn_18 rfl rfl ?_
        refine r_bipush C dX6_castOn_19 kb_25 ?_
        refine r_bipush C dX6_castOn_21 kb_20 ?_
        refine r_iload_n C (i := 1) 3 dX6_castOn_23 rfl rfl ?_
        refine r_imul (v := nI (20 * p)) C dX6_castOn_24 (pk_mul _ _) ?_
        refine r_iadd (v := nI (25 + (20 * p))) C dX6_castOn_25 (nI_add _ _) ?_
        refine r_iload C (i := 5) 0 dX6_castOn_26 rfl ?_
        refine r_iadd (v := nI ((25 + (20 * p)) + k)) C dX6_castOn_28 (nI_add _ _) ?_
        refine r_iload_n C (i := 2) 4 dX6_castOn_29 rfl rfl ?_
        refine r_iast (j := (25 + (20 * p)) + k) (ws' := [(r, .inl (eI E, 255, .inl (upd g2 ((25 + (20 * p)) + k) (mI x))))]) C 0 rfl (by omega) (by decide) rfl dX6_castOn_30 ?_
        refine r_iinc C (lv' := [(5, .int (nI (k + 1))), (4, .int (mI (sR σ p n))), (0, .ref r), (1, .int (nI p)), (2, .int (mI x)), (3, .int (nI n))]) (v := nI (k + 1)) 0 dX6_castOn_31 rfl (v_inc _) (by decide) rfl ?_
        refine r_goto C 11 dX6_castOn_34 (by decide) ?_
        exact ih2 (k + 1) (upd g2 ((25 + (20 * p)) + k) (mI x)) (by omega) (by omega) (by rw [hg]; exact castF_s (by omega))
  exact loop11_1 _ n g (Nat.lt_succ_self _) (by omega) (castF_0 _ _ _)
set_option maxRecDepth 100000 in
set_option maxHeartbeats 1000000 in
theorem c_X6_castOn__n {l : Launch} {E : Ev} {r : Nat} {g : Nat → Int32} {σ : Sg} (hR : RepM σ g) (hW : Wf σ) {p a n : Nat} (hp : p < sP σ) (hn : n < 20) (hx : a < sA σ) : Ct l E yX6_castOn cX6_castOn 6 (some FieldType.int) 1 22 [.ref r, .int (nI p), .int (nI a), .int (nI n)] [(r, .inl (eI E, 255, .inl g))] (fun v9 w9 => ∃ g2 : Nat → Int32, v9 = some (.int (mI (sR σ p n))) ∧ w9 = [(r, .inl (eI E, 255, .inl g2))] ∧ RepM (oCast σ p (a + 1) n) g2) := by
  have hwP := hW.P
  have hwA := hW.A
  have hwS := hW.S
  refine ct_of (by decide +kernel) (Nat.le_of_ble_eq_true rfl) (fun ω C RT => ?_)
  show ω [(r, .inl (eI E, 255, .inl g))] [(0, .ref r), (1, .int (nI p)), (2, .int (nI a)), (3, .int (nI n))] [] 0
  refine r_aload_n C (i := 0) 0 dX6_castOn_0 rfl rfl ?_
  refine r_iload_n C (i := 3) 3 dX6_castOn_1 rfl rfl ?_
  refine r_iload_n C (i := 1) 1 dX6_castOn_2 rfl rfl ?_
  refine r_readS (rest := []) C (c_X6_principal (r := r) (g := g) (σ := σ) (n := n) (p := p) (hR := hR) (hW := hW) (hn := (by omega)) (hp := (by omega))) lk_X6_principal w_5_160 [0] dX6_castOn_3 rfl rfl rfl ⟨by decide, by decide⟩ (Nat.le_of_ble_eq_true rfl) (st' := [.int (mI (sR σ p n))]) rfl ?_
  refine r_istore C (lv' := [(4, .int (mI (sR σ p n))), (0, .ref r), (1, .int (nI p)), (2, .int (nI a)), (3, .int (nI n))]) dX6_castOn_6 (by decide) rfl ?_
  refine r_iload_n C (i := 3) 4 dX6_castOn_8 rfl rfl ?_
  refine r_istore C (lv' := [(5, .int (nI n)), (4, .int (mI (sR σ p n))), (0, .ref r), (1, .int (nI p)), (2, .int (nI a)), (3, .int (nI n))]) dX6_castOn_9 (by decide) rfl ?_
  have loop11_1 : ∀ (dd9 : Nat) (k : Nat) (g2 : Nat → Int32), 20 - k < dd9 → (n ≤ k ∧ k ≤ 20) → (g2 = castF g (25 + 20 * p + n) (25 + 20 * p + k) (mI (a + 1))) → ω [(r, .inl (eI E, 255, .inl g2))] [(5, .int (nI k)), (4, .int (mI (sR σ p n))), (0, .ref r), (1, .int (nI p)), (2, .int (nI a)), (3, .int (nI n))] [] 11 := by
    intro dd9
    induction dd9 with
    | zero => intro k g2 hd; exact absurd hd (Nat.not_lt_zero _)
    | succ dd9 ih2 =>
      intro k g2 hd hk hg
      refine r_iload C (i := 5) 0 dX6_castOn_11 rfl ?_
      refine r_bipush C dX6_castOn_13 kb_20 ?_
      refine r_icmp_ge C (c9 := 20 ≤ k) 37 dX6_castOn_15 (by decide) (c_leNN (by omega) (by omega)) (fun h15_3 => ?_) (fun h15_3 => ?_)
      · refine r_iload C (i := 4) 1 dX6_castOn_37 rfl ?_
        exact RT.1 _ _ _ _ _ dX6_castOn_39 rfl rfl (⟨_, rfl, rfl, by rw [hg, (by omega : k = 20)]; exact RepM_cast hR hW hp hn⟩) rfl
      · refine r_aload_n C (i := 0) 2 dX6_castOn_18 rfl rfl ?_
        refine r_bipush C dX6_castOn_19 kb_25 ?_
        refine r_bipush C dX6_castOn_21 kb_20 ?_
        refine r_iload_n C (i := 1) 3 dX6_castOn_23 rfl rfl ?_
        refine r_imul (v := nI (20 * p)) C dX6_castOn_24 (pk_mul _ _) ?_
        refine r_iadd (v := nI (25 + (20 * p))) C dX6_castOn_25 (nI_add _ _) ?_
        refine r_iload C (i := 5) 0 dX6_castOn_26 rfl ?_
        refine r_iadd (v := nI ((25 + (20 * p)) + k)) C dX6_castOn_28 (nI_add _ _) ?_
        refine r_iload_n C (i := 2) 4 dX6_castOn_29 rfl rfl ?_
        refine r_iast (j := (25 + (20 * p)) + k) (ws' := [(r, .inl (eI E, 255, .inl (upd g2 ((25 + (20 * p)) + k) (nI a))))]) C 0 rfl (by omega) (by decide) rfl dX6_castOn_30 ?_
        refine r_iinc C (lv' := [(5, .int (nI (k + 1))), (4, .int (mI (sR σ p n))), (0, .ref r), (1, .int (nI p)), (2, .int (nI a)), (3, .int (nI n))]) (v := nI (k + 1)) 0 dX6_castOn_31 rfl (v_inc _) (by decide) rfl ?_
        refine r_goto C 11 dX6_castOn_34 (by decide) ?_
        exact ih2 (k + 1) (upd g2 ((25 + (20 * p)) + k) (nI a)) (by omega) (by omega) (by rw [hg, mI_s]; exact castF_s (by omega))
  exact loop11_1 _ n g (Nat.lt_succ_self _) (by omega) (castF_0 _ _ _)
set_option maxRecDepth 100000 in
set_option maxHeartbeats 1000000 in
theorem c_X6_rankOf {l : Launch} {E : Ev} {r : Nat} {g : Nat → Int32} {σ : Sg} (hR : RepM σ g) (hW : Wf σ) {p a : Nat} (hp : p < sP σ) (ha : a < 2147483648) : Cr l E yX6_rankOf cX6_rankOf 4 (some FieldType.int) 0 0 [.ref r, .int (nI p), .int (nI a)] [(r, .inl (eI E, 255, .inl g))] (some (.int (mI (rk σ p a)))) := by
  have hwP := hW.P
  have hwA := hW.A
  have hwS := hW.S
  have hwC := hW.C hp
  refine ct_of (by decide +kernel) (Nat.le_of_ble_eq_true rfl) (fun ω C RT => ?_)
  show ω [(r, .inl (eI E, 255, .inl g))] [(0, .ref r), (1, .int (nI p)), (2, .int (nI a))] [] 0
  refine r_iconst C dX6_rankOf_0 ki_0 ?_
  refine r_istore_n C (lv' := [(3, .int (nI 0)), (0, .ref r), (1, .int (nI p)), (2, .int (nI a))]) dX6_rankOf_1 rfl (by decide) rfl ?_
  have loop2_1 : ∀ (dd9 : Nat) (k : Nat), sC σ p - k < dd9 → (k ≤ sC σ p) → (∀ j, j < k → sU σ p j ≠ a) → ω [(r, .inl (eI E, 255, .inl g))] [(3, .int (nI k)), (0, .ref r), (1, .int (nI p)), (2, .int (nI a))] [] 2 := by
    intro dd9
    induction dd9 with
    | zero => intro k hd; exact absurd hd (Nat.not_lt_zero _)
    | succ dd9 ih2 =>
      intro k hd hle_k hno
      refine r_iload_n C (i := 3) 0 dX6_rankOf_2 rfl rfl ?_
      refine r_aload_n C (i := 0) 1 dX6_rankOf_3 rfl rfl ?_
      refine r_sipush C dX6_rankOf_4 ks_145 ?_
      refine r_iconst C dX6_rankOf_7 ki_5 ?_
      refine r_iload_n C (i := 1) 2 dX6_rankOf_8 rfl rfl ?_
      refine r_imul (v := nI (5 * p)) C dX6_rankOf_9 (pk_mul _ _) ?_
      refine r_iadd (v := nI (145 + (5 * p))) C dX6_rankOf_10 (nI_add _ _) ?_
      refine r_iald (j := 145 + (5 * p)) (v := nI (sC σ p)) C 0 rfl (by omega) (by decide) (hR.C hp) dX6_rankOf_11 ?_
      refine r_icmp_ge C (c9 := sC σ p ≤ k) 40 dX6_rankOf_12 (by decide) (c_leNN (by omega) (by omega)) (fun h12_3 => ?_) (fun h12_3 => ?_)
      · refine r_iconst C dX6_rankOf_40 ki_m1 ?_
        exact RT.1 _ _ _ _ _ dX6_rankOf_41 rfl rfl (rd_i (congrArg mI (rk_no (fun j hj => hno j (by omega))).symm)) rfl
      · have hu := hW.U hp (by omega : k < sC σ p)
        refine r_aload_n C (i := 0) 1 dX6_rankOf_15 rfl rfl ?_
        refine r_sipush C dX6_rankOf_16 ks_145 ?_
        refine r_iconst C dX6_rankOf_19 ki_5 ?_
        refine r_iload_n C (i := 1) 2 dX6_rankOf_20 rfl rfl ?_
        refine r_imul (v := nI (5 * p)) C dX6_rankOf_21 (pk_mul _ _) ?_
        refine r_iadd (v := nI (145 + (5 * p))) C dX6_rankOf_22 (nI_add _ _) ?_
        refine r_iconst C dX6_rankOf_23 ki_1 ?_
        refine r_iadd (v := nI ((145 + (5 * p)) + 1)) C dX6_rankOf_24 (nI_add _ _) ?_
        refine r_iload_n C (i := 3) 0 dX6_rankOf_25 rfl rfl ?_
        refine r_iadd (v := nI (((145 + (5 * p)) + 1) + k)) C dX6_rankOf_26 (nI_add _ _) ?_
        refine r_iald (j := ((145 + (5 * p)) + 1) + k) (v := nI (sU σ p k)) C 0 rfl (by omega) (by decide) (hR.U hp (by omega)) dX6_rankOf_27 ?_
        refine r_iload_n C (i := 2) 3 dX6_rankOf_28 rfl rfl ?_
        refine r_icmp_ne C (c9 := sU σ p k ≠ a) 34 dX6_rankOf_29 (by decide) (c_neNN (by omega) (by omega)) (fun h29_4 => ?_) (fun h29_4 => ?_)
        · refine r_iinc C (lv' := [(3, .int (nI (k + 1))), (0, .ref r), (1, .int (nI p)), (2, .int (nI a))]) (v := nI (k + 1)) 0 dX6_rankOf_34 rfl (v_inc _) (by decide) rfl ?_
          refine r_goto C 2 dX6_rankOf_37 (by decide) ?_
          exact ih2 (k + 1) (by omega) (by omega) (lt_step hno h29_4)
        · refine r_iload_n C (i := 3) 0 dX6_rankOf_32 rfl rfl ?_
          exact RT.1 _ _ _ _ _ dX6_rankOf_33 rfl rfl (rd_i ((mI_s _).symm.trans (congrArg mI (rk_yes (by omega) (by omega) hno).symm))) rfl
  exact loop2_1 _ 0 (Nat.lt_succ_self _) (by omega) (fun j hj => absurd hj (Nat.not_lt_zero j))
set_option maxRecDepth 100000 in
set_option maxHeartbeats 1000000 in
theorem c_X6_canStudy {l : Launch} {E : Ev} {r : Nat} {g : Nat → Int32} {σ : Sg} (hR : RepM σ g) (hW : Wf σ) {p : Nat} (hp : p < 2147483648) {a : Nat} (ha : a < 2147483648) : Cr l E yX6_canStudy cX6_canStudy 3 (some FieldType.boolean) 2 46 [.ref r, .int (nI p), .int (nI a)] [(r, .inl (eI E, 255, .inl g))] (some (.int (bP (p < sP σ ∧ a < sA σ ∧ sC σ p < 4 ∧ rk σ p a = 0)))) := by
  have hwP := hW.P
  have hwA := hW.A
  have hwS := hW.S
  refine ct_of (by decide +kernel) (Nat.le_of_ble_eq_true rfl) (fun ω C RT => ?_)
  show ω [(r, .inl (eI E, 255, .inl g))] [(0, .ref r), (1, .int (nI p)), (2, .int (nI a))] [] 0
  refine r_aload_n C (i := 0) 0 dX6_canStudy_0 rfl rfl ?_
  refine r_iload_n C (i := 1) 1 dX6_canStudy_1 rfl rfl ?_
  refine r_readS (rest := []) C (c_X6_isPart (r := r) (g := g) (σ := σ) (i := p) (hR := hR) (hW := hW) (hi := (by omega))) lk_X6_isPart w_5_151 [0] dX6_canStudy_2 rfl rfl rfl ⟨by decide, by decide⟩ (Nat.le_of_ble_eq_true rfl) (st' := [.int (bP (p < sP σ))]) rfl ?_
  refine r_if_eq C (y := 0) (c9 := ¬ (p < sP σ)) 43 dX6_canStudy_5 (by decide) z_eqB (fun h5_1 => ?_) (fun h5_1 => ?_)
  · refine r_iconst C dX6_canStudy_43 ki_0 ?_
    exact RT.1 _ _ _ _ _ dX6_canStudy_44 rfl nar_0 (rd_i (bP_f (by omega))) rfl
  · replace h5_1 : p < sP σ := Decidable.not_not.mp h5_1
    refine r_aload_n C (i := 0) 0 dX6_canStudy_8 rfl rfl ?_
    refine r_iload_n C (i := 2) 2 dX6_canStudy_9 rfl rfl ?_
    refine r_readS (rest := []) C (c_X6_isActor (r := r) (g := g) (σ := σ) (i := a) (hR := hR) (hW := hW) (hi := (by omega))) lk_X6_isActor w_5_154 [0] dX6_canStudy_10 rfl rfl rfl ⟨by decide, by decide⟩ (Nat.le_of_ble_eq_true rfl) (st' := [.int (bP (a < sA σ))]) rfl ?_
    refine r_if_eq C (y := 0) (c9 := ¬ (a < sA σ)) 43 dX6_canStudy_13 (by decide) z_eqB (fun h13_2 => ?_) (fun h13_2 => ?_)
    · refine r_iconst C dX6_canStudy_43 ki_0 ?_
      exact RT.1 _ _ _ _ _ dX6_canStudy_44 rfl nar_0 (rd_i (bP_f (by omega))) rfl
    · replace h13_2 : a < sA σ := Decidable.not_not.mp h13_2
      have hwC := hW.C (by omega : p < sP σ)
      have hrk := rk_le σ p a
      refine r_aload_n C (i := 0) 0 dX6_canStudy_16 rfl rfl ?_
      refine r_sipush C dX6_canStudy_17 ks_145 ?_
      refine r_iconst C dX6_canStudy_20 ki_5 ?_
      refine r_iload_n C (i := 1) 1 dX6_canStudy_21 rfl rfl ?_
      refine r_imul (v := nI (5 * p)) C dX6_canStudy_22 (pk_mul _ _) ?_
      refine r_iadd (v := nI (145 + (5 * p))) C dX6_canStudy_23 (nI_add _ _) ?_
      refine r_iald (j := 145 + (5 * p)) (v := nI (sC σ p)) C 0 rfl (by omega) (by decide) (hR.C (by omega)) dX6_canStudy_24 ?_
      refine r_iconst C dX6_canStudy_25 ki_4 ?_
      refine r_icmp_ge C (c9 := 4 ≤ sC σ p) 43 dX6_canStudy_26 (by decide) (c_leNN (by omega) (by omega)) (fun h26_3 => ?_) (fun h26_3 => ?_)
      · refine r_iconst C dX6_canStudy_43 ki_0 ?_
        exact RT.1 _ _ _ _ _ dX6_canStudy_44 rfl nar_0 (rd_i (bP_f (by omega))) rfl
      · refine r_aload_n C (i := 0) 0 dX6_canStudy_29 rfl rfl ?_
        refine r_iload_n C (i := 1) 1 dX6_canStudy_30 rfl rfl ?_
        refine r_iload_n C (i := 2) 2 dX6_canStudy_31 rfl rfl ?_
        refine r_readS (rest := []) C (c_X6_rankOf (r := r) (g := g) (σ := σ) (p := p) (a := a) (hR := hR) (hW := hW) (hp := (by omega)) (ha := (by omega))) lk_X6_rankOf w_5_166 [0] dX6_canStudy_32 rfl rfl rfl ⟨by decide, by decide⟩ (Nat.le_of_ble_eq_true rfl) (st' := [.int (mI (rk σ p a))]) rfl ?_
        refine r_iconst C dX6_canStudy_35 ki_m1 ?_
        refine r_icmp_ne C (c9 := rk σ p a ≠ 0) 43 dX6_canStudy_36 (by decide) (c_neMM (by omega) (by omega)) (fun h36_4 => ?_) (fun h36_4 => ?_)
        · refine r_iconst C dX6_canStudy_43 ki_0 ?_
          exact RT.1 _ _ _ _ _ dX6_canStudy_44 rfl nar_0 (rd_i (bP_f (by omega))) rfl
        · refine r_iconst C dX6_canStudy_39 ki_1 ?_
          refine r_goto C 44 dX6_canStudy_40 (by decide) ?_
          exact RT.1 _ _ _ _ _ dX6_canStudy_44 rfl nar_1 (rd_i (bP_t (by omega))) rfl
set_option maxRecDepth 100000 in
set_option maxHeartbeats 1000000 in
theorem c_X6_studyOn {l : Launch} {E : Ev} {r : Nat} {g : Nat → Int32} {σ : Sg} (hR : RepM σ g) (hW : Wf σ) {p a : Nat} (hp : p < sP σ) (ha : a < sA σ) (hC : sC σ p < 4) : Ct l E yX6_studyOn cX6_studyOn 3 (some FieldType.int) 0 0 [.ref r, .int (nI p), .int (nI a)] [(r, .inl (eI E, 255, .inl g))] (fun v9 w9 => ∃ g2 : Nat → Int32, v9 = some (.int (nI (sC σ p + 1))) ∧ w9 = [(r, .inl (eI E, 255, .inl g2))] ∧ RepM (oStudy σ p a) g2) := by
  have hwP := hW.P
  have hwA := hW.A
  have hwS := hW.S
  refine ct_of (by decide +kernel) (Nat.le_of_ble_eq_true rfl) (fun ω C RT => ?_)
  show ω [(r, .inl (eI E, 255, .inl g))] [(0, .ref r), (1, .int (nI p)), (2, .int (nI a))] [] 0
  refine r_aload_n C (i := 0) 0 dX6_studyOn_0 rfl rfl ?_
  refine r_sipush C dX6_studyOn_1 ks_145 ?_
  refine r_iconst C dX6_studyOn_4 ki_5 ?_
  refine r_iload_n C (i := 1) 1 dX6_studyOn_5 rfl rfl ?_
  refine r_imul (v := nI (5 * p)) C dX6_studyOn_6 (pk_mul _ _) ?_
  refine r_iadd (v := nI (145 + (5 * p))) C dX6_studyOn_7 (nI_add _ _) ?_
  refine r_dup2 C dX6_studyOn_8 rfl rfl ?_
  refine r_iald (j := 145 + (5 * p)) (v := nI (sC σ p)) C 0 rfl (by omega) (by decide) (hR.C hp) dX6_studyOn_9 ?_
  refine r_iconst C dX6_studyOn_10 ki_1 ?_
  refine r_iadd (v := nI ((sC σ p) + 1)) C dX6_studyOn_11 (nI_add _ _) ?_
  refine r_iast (j := 145 + (5 * p)) (ws' := [(r, .inl (eI E, 255, .inl (upd g (145 + (5 * p)) (nI ((sC σ p) + 1)))))]) C 0 rfl (by omega) (by decide) rfl dX6_studyOn_12 ?_
  refine r_aload_n C (i := 0) 0 dX6_studyOn_13 rfl rfl ?_
  refine r_sipush C dX6_studyOn_14 ks_145 ?_
  refine r_iconst C dX6_studyOn_17 ki_5 ?_
  refine r_iload_n C (i := 1) 1 dX6_studyOn_18 rfl rfl ?_
  refine r_imul (v := nI (5 * p)) C dX6_studyOn_19 (pk_mul _ _) ?_
  refine r_iadd (v := nI (145 + (5 * p))) C dX6_studyOn_20 (nI_add _ _) ?_
  refine r_aload_n C (i := 0) 0 dX6_studyOn_21 rfl rfl ?_
  refine r_sipush C dX6_studyOn_22 ks_145 ?_
  refine r_iconst C dX6_studyOn_25 ki_5 ?_
  refine r_iload_n C (i := 1) 1 dX6_studyOn_26 rfl rfl ?_
  refine r_imul (v := nI (5 * p)) C dX6_studyOn_27 (pk_mul _ _) ?_
  refine r_iadd (v := nI (145 + (5 * p))) C dX6_studyOn_28 (nI_add _ _) ?_
  refine r_iald (j := 145 + (5 * p)) (v := nI (sC σ p + 1)) C 0 rfl (by omega) (by decide) pk_us dX6_studyOn_29 ?_
  refine r_iadd (v := nI ((145 + (5 * p)) + (sC σ p + 1))) C dX6_studyOn_30 (nI_add _ _) ?_
  refine r_iload_n C (i := 2) 2 dX6_studyOn_31 rfl rfl ?_
  refine r_iast (j := (145 + (5 * p)) + (sC σ p + 1)) (ws' := [(r, .inl (eI E, 255, .inl (upd (upd g (145 + (5 * p)) (nI ((sC σ p) + 1))) ((145 + (5 * p)) + (sC σ p + 1)) (nI a))))]) C 0 rfl (by omega) (by decide) rfl dX6_studyOn_32 ?_
  refine r_aload_n C (i := 0) 0 dX6_studyOn_33 rfl rfl ?_
  refine r_sipush C dX6_studyOn_34 ks_145 ?_
  refine r_iconst C dX6_studyOn_37 ki_5 ?_
  refine r_iload_n C (i := 1) 1 dX6_studyOn_38 rfl rfl ?_
  refine r_imul (v := nI (5 * p)) C dX6_studyOn_39 (pk_mul _ _) ?_
  refine r_iadd (v := nI (145 + (5 * p))) C dX6_studyOn_40 (nI_add _ _) ?_
  refine r_iald (j := 145 + (5 * p)) (v := nI (sC σ p + 1)) C 0 rfl (by omega) (by decide) ((pk_un (by omega)).trans pk_us) dX6_studyOn_41 ?_
  exact RT.1 _ _ _ _ _ dX6_studyOn_42 rfl rfl (⟨_, rfl, rfl, RepM_study hR hW hp hC⟩) rfl
set_option maxRecDepth 100000 in
set_option maxHeartbeats 1000000 in
theorem c_X6_releaseOn {l : Launch} {E : Ev} {r : Nat} {g : Nat → Int32} {σ : Sg} (hR : RepM σ g) (hW : Wf σ) {p a : Nat} (hp : p < sP σ) (ha : a < 2147483648) (hrk : rk σ p a ≠ 0) : Ct l E yX6_releaseOn cX6_releaseOn 5 (some FieldType.int) 1 23 [.ref r, .int (nI p), .int (nI a)] [(r, .inl (eI E, 255, .inl g))] (fun v9 w9 => ∃ g2 : Nat → Int32, v9 = some (.int (nI (rk σ p a - 1))) ∧ w9 = [(r, .inl (eI E, 255, .inl g2))] ∧ RepM (oRel σ p (rk σ p a - 1)) g2) := by
  have hwP := hW.P
  have hwA := hW.A
  have hwS := hW.S
  have hwC := hW.C hp
  have hra := rk_at hrk
  obtain ⟨q, her⟩ : ∃ q, rk σ p a = q + 1 := ⟨rk σ p a - 1, by omega⟩
  refine ct_of (by decide +kernel) (Nat.le_of_ble_eq_true rfl) (fun ω C RT => ?_)
  show ω [(r, .inl (eI E, 255, .inl g))] [(0, .ref r), (1, .int (nI p)), (2, .int (nI a))] [] 0
  refine r_aload_n C (i := 0) 0 dX6_releaseOn_0 rfl rfl ?_
  refine r_iload_n C (i := 1) 1 dX6_releaseOn_1 rfl rfl ?_
  refine r_iload_n C (i := 2) 2 dX6_releaseOn_2 rfl rfl ?_
  refine r_readS (rest := []) C (c_X6_rankOf (r := r) (g := g) (σ := σ) (p := p) (a := a) (hR := hR) (hW := hW) (hp := (by omega)) (ha := (by omega))) lk_X6_rankOf w_5_166 [0] dX6_releaseOn_3 rfl rfl rfl ⟨by decide, by decide⟩ (Nat.le_of_ble_eq_true rfl) (st' := [.int (mI (rk σ p a))]) rfl ?_
  refine r_istore_n C (lv' := [(3, .int (mI (rk σ p a))), (0, .ref r), (1, .int (nI p)), (2, .int (nI a))]) dX6_releaseOn_6 rfl (by decide) rfl ?_
  refine r_lo (lv' := [(3, .int (nI q)), (0, .ref r), (1, .int (nI p)), (2, .int (nI a))]) (by rw [her, mI_s]) ?_
  refine r_aload_n C (i := 0) 1 dX6_releaseOn_7 rfl rfl ?_
  refine r_sipush C dX6_releaseOn_8 ks_145 ?_
  refine r_iconst C dX6_releaseOn_11 ki_5 ?_
  refine r_iload_n C (i := 1) 2 dX6_releaseOn_12 rfl rfl ?_
  refine r_imul (v := nI (5 * p)) C dX6_releaseOn_13 (pk_mul _ _) ?_
  refine r_iadd (v := nI (145 + (5 * p))) C dX6_releaseOn_14 (nI_add _ _) ?_
  refine r_dup2 C dX6_releaseOn_15 rfl rfl ?_
  refine r_iald (j := 145 + (5 * p)) (v := nI (sC σ p)) C 0 rfl (by omega) (by decide) (hR.C hp) dX6_releaseOn_16 ?_
  refine r_iconst C dX6_releaseOn_17 ki_1 ?_
  refine r_isub (v := nI (sC σ p - 1)) C dX6_releaseOn_18 (v_sub (by omega)) ?_
  refine r_iast (j := 145 + (5 * p)) (ws' := [(r, .inl (eI E, 255, .inl (upd g (145 + (5 * p)) (nI (sC σ p - 1)))))]) C 0 rfl (by omega) (by decide) rfl dX6_releaseOn_19 ?_
  refine r_iload_n C (i := 3) 0 dX6_releaseOn_20 rfl rfl ?_
  refine r_istore C (lv' := [(4, .int (nI q)), (3, .int (nI q)), (0, .ref r), (1, .int (nI p)), (2, .int (nI a))]) dX6_releaseOn_21 (by decide) rfl ?_
  have loop23_1 : ∀ (dd9 : Nat) (k : Nat) (g2 : Nat → Int32), sC σ p - k < dd9 → (q ≤ k ∧ k ≤ sC σ p - 1) → (g2 = shiftF (upd g (145 + 5 * p) (nI (sC σ p - 1))) (145 + 5 * p + 1 + q) (145 + 5 * p + 1 + k) 1) → ω [(r, .inl (eI E, 255, .inl g2))] [(4, .int (nI k)), (3, .int (nI q)), (0, .ref r), (1, .int (nI p)), (2, .int (nI a))] [] 23 := by
    intro dd9
    induction dd9 with
    | zero => intro k g2 hd; exact absurd hd (Nat.not_lt_zero _)
    | succ dd9 ih2 =>
      intro k g2 hd hk hg
      refine r_iload C (i := 4) 0 dX6_releaseOn_23 rfl ?_
      refine r_aload_n C (i := 0) 2 dX6_releaseOn_25 rfl rfl ?_
      refine r_sipush C dX6_releaseOn_26 ks_145 ?_
      refine r_iconst C dX6_releaseOn_29 ki_5 ?_
      refine r_iload_n C (i := 1) 3 dX6_releaseOn_30 rfl rfl ?_
      refine r_imul (v := nI (5 * p)) C dX6_releaseOn_31 (pk_mul _ _) ?_
      refine r_iadd (v := nI (145 + (5 * p))) C dX6_releaseOn_32 (nI_add _ _) ?_
      refine r_iald (j := 145 + (5 * p)) (v := nI (sC σ p - 1)) C 0 rfl (by omega) (by decide) (by rw [hg, shiftF, if_neg (by omega)]; exact pk_us) dX6_releaseOn_33 ?_
      refine r_icmp_ge C (c9 := sC σ p - 1 ≤ k) 71 dX6_releaseOn_34 (by decide) (c_leNN (by omega) (by omega)) (fun h34_3 => ?_) (fun h34_3 => ?_)
      · refine r_iload_n C (i := 3) 1 dX6_releaseOn_71 rfl rfl ?_
        exact RT.1 _ _ _ _ _ dX6_releaseOn_72 rfl rfl (⟨_, sv (congrArg nI (by omega)), rfl, by rw [hg, (by omega : k = sC σ p - 1), (by omega : rk σ p a - 1 = q)]; exact RepM_rel hR hW hp (by omega)⟩) rfl
      · refine r_aload_n C (i := 0) 2 dX6_releaseOn_37 rfl rfl ?_
        refine r_sipush C dX6_releaseOn_38 ks_145 ?_
        refine r_iconst C dX6_releaseOn_41 ki_5 ?_
        refine r_iload_n C (i := 1) 3 dX6_releaseOn_42 rfl rfl ?_
        refine r_imul (v := nI (5 * p)) C dX6_releaseOn_43 (pk_mul _ _) ?_
        refine r_iadd (v := nI (145 + (5 * p))) C dX6_releaseOn_44 (nI_add _ _) ?_
        refine r_iconst C dX6_releaseOn_45 ki_1 ?_
        refine r_iadd (v := nI ((145 + (5 * p)) + 1)) C dX6_releaseOn_46 (nI_add _ _) ?_
        refine r_iload C (i := 4) 0 dX6_releaseOn_47 rfl ?_
        refine r_iadd (v := nI (((145 + (5 * p)) + 1) + k)) C dX6_releaseOn_49 (nI_add _ _) ?_
        refine r_aload_n C (i := 0) 2 dX6_releaseOn_50 rfl rfl ?_
        refine r_sipush C dX6_releaseOn_51 ks_145 ?_
        refine r_iconst C dX6_releaseOn_54 ki_5 ?_
        refine r_iload_n C (i := 1) 3 dX6_releaseOn_55 rfl rfl ?_
        refine r_imul (v := nI (5 * p)) C dX6_releaseOn_56 (pk_mul _ _) ?_
        refine r_iadd (v := nI (145 + (5 * p))) C dX6_releaseOn_57 (nI_add _ _) ?_
        refine r_iconst C dX6_releaseOn_58 ki_2 ?_
        refine r_iadd (v := nI ((145 + (5 * p)) + 2)) C dX6_releaseOn_59 (nI_add _ _) ?_
        refine r_iload C (i := 4) 0 dX6_releaseOn_60 rfl ?_
        refine r_iadd (v := nI (((145 + (5 * p)) + 2) + k)) C dX6_releaseOn_62 (nI_add _ _) ?_
        refine r_iald (j := ((145 + (5 * p)) + 2) + k) (v := upd g (145 + 5 * p) (nI (sC σ p - 1)) (145 + 5 * p + 1 + k + 1)) C 0 rfl (by omega) (by decide) (by rw [hg, show 145 + 5 * p + 2 + k = 145 + 5 * p + 1 + k + 1 from by omega]; exact shiftF_at (by omega)) dX6_releaseOn_63 ?_
        refine r_iast (j := ((145 + (5 * p)) + 1) + k) (ws' := [(r, .inl (eI E, 255, .inl (upd g2 (((145 + (5 * p)) + 1) + k) (upd g (145 + 5 * p) (nI (sC σ p - 1)) (145 + 5 * p + 1 + k + 1)))))]) C 0 rfl (by omega) (by decide) rfl dX6_releaseOn_64 ?_
        refine r_iinc C (lv' := [(4, .int (nI (k + 1))), (3, .int (nI q)), (0, .ref r), (1, .int (nI p)), (2, .int (nI a))]) (v := nI (k + 1)) 0 dX6_releaseOn_65 rfl (v_inc _) (by decide) rfl ?_
        refine r_goto C 23 dX6_releaseOn_68 (by decide) ?_
        exact ih2 (k + 1) (upd g2 (((145 + (5 * p)) + 1) + k) (upd g (145 + 5 * p) (nI (sC σ p - 1)) (145 + 5 * p + 1 + k + 1))) (by omega) (by omega) (by rw [hg]; exact shiftF_s (by omega))
  exact loop23_1 _ q (upd g (145 + (5 * p)) (nI (sC σ p - 1))) (Nat.lt_succ_self _) (by omega) (shiftF_0 _ _ _)
set_option maxRecDepth 100000 in
set_option maxHeartbeats 1000000 in
theorem c_X6_illOn {l : Launch} {E : Ev} {r : Nat} {g : Nat → Int32} {σ : Sg} (hR : RepM σ g) (hW : Wf σ) {a n b : Nat} (ha : a < sA σ) (hn : n < 20) (hb : b ≤ 1) : Ct l E yX6_illOn cX6_illOn 4 (some FieldType.int) 1 22 [.ref r, .int (nI a), .int (nI n), .int (nI b)] [(r, .inl (eI E, 255, .inl g))] (fun v9 w9 => ∃ g2 : Nat → Int32, v9 = some (.int (nI (cntI (oIll σ a n b) a 20))) ∧ w9 = [(r, .inl (eI E, 255, .inl g2))] ∧ RepM (oIll σ a n b) g2) := by
  have hwP := hW.P
  have hwA := hW.A
  have hwS := hW.S
  have hWo := oIll_wf hW hb ha (n := n)
  have hbl := bmM_lt hWo a
  refine ct_of (by decide +kernel) (Nat.le_of_ble_eq_true rfl) (fun ω C RT => ?_)
  show ω [(r, .inl (eI E, 255, .inl g))] [(0, .ref r), (1, .int (nI a)), (2, .int (nI n)), (3, .int (nI b))] [] 0
  refine r_aload_n C (i := 0) 0 dX6_illOn_0 rfl rfl ?_
  refine r_bipush C dX6_illOn_1 kb_15 ?_
  refine r_iload_n C (i := 1) 1 dX6_illOn_3 rfl rfl ?_
  refine r_iadd (v := nI (15 + a)) C dX6_illOn_4 (nI_add _ _) ?_
  refine r_iload_n C (i := 3) 3 dX6_illOn_5 rfl rfl ?_
  refine r_if_eq C (y := 0) (c9 := b = 0) 22 dX6_illOn_6 (by decide) (z_eqN (by omega)) (fun h6_1 => ?_) (fun h6_1 => ?_)
  · refine r_aload_n C (i := 0) 0 dX6_illOn_22 rfl rfl ?_
    refine r_bipush C dX6_illOn_23 kb_15 ?_
    refine r_iload_n C (i := 1) 1 dX6_illOn_25 rfl rfl ?_
    refine r_iadd (v := nI (15 + a)) C dX6_illOn_26 (nI_add _ _) ?_
    refine r_iald (j := 15 + a) (v := nI (bm (fun n => sI σ a n) 20)) C 0 rfl (by omega) (by decide) (hR.I ha) dX6_illOn_27 ?_
    refine r_iconst C dX6_illOn_28 ki_1 ?_
    refine r_iload_n C (i := 2) 2 dX6_illOn_29 rfl rfl ?_
    refine r_ishl (v := nI (2 ^ n)) C dX6_illOn_30 (v_shl (by omega)) ?_
    refine r_iconst C dX6_illOn_31 ki_m1 ?_
    refine r_ixor (v := (nI (2 ^ n) ^^^ mI 0)) C dX6_illOn_32 rfl ?_
    refine r_iand (v := nI ((bm (fun n => sI σ a n) 20) ^^^ ((bm (fun n => sI σ a n) 20) &&& (2 ^ n)))) C dX6_illOn_33 (v_andnot _ _) ?_
    refine r_iast (j := 15 + a) (ws' := [(r, .inl (eI E, 255, .inl (upd g (15 + a) (nI ((bm (fun n => sI σ a n) 20) ^^^ ((bm (fun n => sI σ a n) 20) &&& (2 ^ n)))))))]) C 0 rfl (by omega) (by decide) rfl dX6_illOn_34 ?_
    refine r_aload_n C (i := 0) 0 dX6_illOn_35 rfl rfl ?_
    refine r_bipush C dX6_illOn_36 kb_15 ?_
    refine r_iload_n C (i := 1) 1 dX6_illOn_38 rfl rfl ?_
    refine r_iadd (v := nI (15 + a)) C dX6_illOn_39 (nI_add _ _) ?_
    refine r_iald (j := 15 + a) (v := nI (bm (fun m => sI (oIll σ a n b) a m) 20)) C 0 rfl (by omega) (by decide) (by rw [pk_us, illM0 hW, (by omega : b = 0)]) dX6_illOn_40 ?_
    refine r_readS (rest := []) C (c_X6_count (s := bm (fun m => sI (oIll σ a n b) a m) 20) (hs := (by omega))) lk_X6_count w_5_175 [] dX6_illOn_41 rfl rfl rfl ⟨by decide, by decide⟩ (Nat.le_of_ble_eq_true rfl) (st' := [.int (nI (cb (bm (fun m => sI (oIll σ a n b) a m) 20) 20))]) rfl ?_
    exact RT.1 _ _ _ _ _ dX6_illOn_44 rfl rfl (⟨_, sv (congrArg nI (cb_I hWo a (Nat.le_refl 20))), rfl, by rw [illM0 hW, (by omega : b = 0)]; exact RepM_ill hR hW ha⟩) rfl
  · refine r_aload_n C (i := 0) 0 dX6_illOn_9 rfl rfl ?_
    refine r_bipush C dX6_illOn_10 kb_15 ?_
    refine r_iload_n C (i := 1) 1 dX6_illOn_12 rfl rfl ?_
    refine r_iadd (v := nI (15 + a)) C dX6_illOn_13 (nI_add _ _) ?_
    refine r_iald (j := 15 + a) (v := nI (bm (fun n => sI σ a n) 20)) C 0 rfl (by omega) (by decide) (hR.I ha) dX6_illOn_14 ?_
    refine r_iconst C dX6_illOn_15 ki_1 ?_
    refine r_iload_n C (i := 2) 2 dX6_illOn_16 rfl rfl ?_
    refine r_ishl (v := nI (2 ^ n)) C dX6_illOn_17 (v_shl (by omega)) ?_
    refine r_ior (v := nI ((bm (fun n => sI σ a n) 20) ||| (2 ^ n))) C dX6_illOn_18 (v_or _ _) ?_
    refine r_goto C 34 dX6_illOn_19 (by decide) ?_
    refine r_iast (j := 15 + a) (ws' := [(r, .inl (eI E, 255, .inl (upd g (15 + a) (nI ((bm (fun n => sI σ a n) 20) ||| (2 ^ n))))))]) C 0 rfl (by omega) (by decide) rfl dX6_illOn_34 ?_
    refine r_aload_n C (i := 0) 0 dX6_illOn_35 rfl rfl ?_
    refine r_bipush C dX6_illOn_36 kb_15 ?_
    refine r_iload_n C (i := 1) 1 dX6_illOn_38 rfl rfl ?_
    refine r_iadd (v := nI (15 + a)) C dX6_illOn_39 (nI_add _ _) ?_
    refine r_iald (j := 15 + a) (v := nI (bm (fun m => sI (oIll σ a n b) a m) 20)) C 0 rfl (by omega) (by decide) (by rw [pk_us, illM hW hn, (by omega : b = 1)]) dX6_illOn_40 ?_
    refine r_readS (rest := []) C (c_X6_count (s := bm (fun m => sI (oIll σ a n b) a m) 20) (hs := (by omega))) lk_X6_count w_5_175 [] dX6_illOn_41 rfl rfl rfl ⟨by decide, by decide⟩ (Nat.le_of_ble_eq_true rfl) (st' := [.int (nI (cb (bm (fun m => sI (oIll σ a n b) a m) 20) 20))]) rfl ?_
    exact RT.1 _ _ _ _ _ dX6_illOn_44 rfl rfl (⟨_, sv (congrArg nI (cb_I hWo a (Nat.le_refl 20))), rfl, by rw [illM hW hn, (by omega : b = 1)]; exact RepM_ill hR hW ha⟩) rfl
set_option maxRecDepth 100000 in
set_option maxHeartbeats 1000000 in
theorem c_X6_canSlip {l : Launch} {E : Ev} {r : Nat} {g : Nat → Int32} {σ : Sg} (hR : RepM σ g) (hW : Wf σ) {n : Nat} (hn : n < 2147483648) {p : Nat} (hp : p < 2147483648) {a : Nat} (ha : a < 2147483648) : Cr l E yX6_canSlip cX6_canSlip 4 (some FieldType.boolean) 2 46 [.ref r, .int (nI n), .int (nI p), .int (nI a)] [(r, .inl (eI E, 255, .inl g))] (some (.int (bP (n < 20 ∧ p < sP σ ∧ a < sA σ ∧ sS σ < 20)))) := by
  have hwP := hW.P
  have hwA := hW.A
  have hwS := hW.S
  refine ct_of (by decide +kernel) (Nat.le_of_ble_eq_true rfl) (fun ω C RT => ?_)
  show ω [(r, .inl (eI E, 255, .inl g))] [(0, .ref r), (1, .int (nI n)), (2, .int (nI p)), (3, .int (nI a))] [] 0
  refine r_iload_n C (i := 1) 1 dX6_canSlip_0 rfl rfl ?_
  refine r_readS (rest := []) C (c_X6_isNight (i := n) (hi := (by omega))) lk_X6_isNight w_5_185 [] dX6_canSlip_1 rfl rfl rfl ⟨by decide, by decide⟩ (Nat.le_of_ble_eq_true rfl) (st' := [.int (bP (n ≤ 19))]) rfl ?_
  refine r_if_eq C (y := 0) (c9 := ¬ (n ≤ 19)) 35 dX6_canSlip_4 (by decide) z_eqB (fun h4_1 => ?_) (fun h4_1 => ?_)
  · refine r_iconst C dX6_canSlip_35 ki_0 ?_
    exact RT.1 _ _ _ _ _ dX6_canSlip_36 rfl nar_0 (rd_i (bP_f (by omega))) rfl
  · replace h4_1 : n ≤ 19 := Decidable.not_not.mp h4_1
    refine r_aload_n C (i := 0) 0 dX6_canSlip_7 rfl rfl ?_
    refine r_iload_n C (i := 2) 2 dX6_canSlip_8 rfl rfl ?_
    refine r_readS (rest := []) C (c_X6_isPart (r := r) (g := g) (σ := σ) (i := p) (hR := hR) (hW := hW) (hi := (by omega))) lk_X6_isPart w_5_151 [0] dX6_canSlip_9 rfl rfl rfl ⟨by decide, by decide⟩ (Nat.le_of_ble_eq_true rfl) (st' := [.int (bP (p < sP σ))]) rfl ?_
    refine r_if_eq C (y := 0) (c9 := ¬ (p < sP σ)) 35 dX6_canSlip_12 (by decide) z_eqB (fun h12_2 => ?_) (fun h12_2 => ?_)
    · refine r_iconst C dX6_canSlip_35 ki_0 ?_
      exact RT.1 _ _ _ _ _ dX6_canSlip_36 rfl nar_0 (rd_i (bP_f (by omega))) rfl
    · replace h12_2 : p < sP σ := Decidable.not_not.mp h12_2
      refine r_aload_n C (i := 0) 0 dX6_canSlip_15 rfl rfl ?_
      refine r_iload_n C (i := 3) 3 dX6_canSlip_16 rfl rfl ?_
      refine r_readS (rest := []) C (c_X6_isActor (r := r) (g := g) (σ := σ) (i := a) (hR := hR) (hW := hW) (hi := (by omega))) lk_X6_isActor w_5_154 [0] dX6_canSlip_17 rfl rfl rfl ⟨by decide, by decide⟩ (Nat.le_of_ble_eq_true rfl) (st' := [.int (bP (a < sA σ))]) rfl ?_
      refine r_if_eq C (y := 0) (c9 := ¬ (a < sA σ)) 35 dX6_canSlip_20 (by decide) z_eqB (fun h20_3 => ?_) (fun h20_3 => ?_)
      · refine r_iconst C dX6_canSlip_35 ki_0 ?_
        exact RT.1 _ _ _ _ _ dX6_canSlip_36 rfl nar_0 (rd_i (bP_f (by omega))) rfl
      · replace h20_3 : a < sA σ := Decidable.not_not.mp h20_3
        refine r_aload_n C (i := 0) 0 dX6_canSlip_23 rfl rfl ?_
        refine r_iconst C dX6_canSlip_24 ki_2 ?_
        refine r_iald (j := 2) (v := nI (sS σ)) C 0 rfl (by omega) (by decide) hR.S dX6_canSlip_25 ?_
        refine r_bipush C dX6_canSlip_26 kb_20 ?_
        refine r_icmp_ge C (c9 := 20 ≤ sS σ) 35 dX6_canSlip_28 (by decide) (c_leNN (by omega) (by omega)) (fun h28_4 => ?_) (fun h28_4 => ?_)
        · refine r_iconst C dX6_canSlip_35 ki_0 ?_
          exact RT.1 _ _ _ _ _ dX6_canSlip_36 rfl nar_0 (rd_i (bP_f (by omega))) rfl
        · refine r_iconst C dX6_canSlip_31 ki_1 ?_
          refine r_goto C 36 dX6_canSlip_32 (by decide) ?_
          exact RT.1 _ _ _ _ _ dX6_canSlip_36 rfl nar_1 (rd_i (bP_t (by omega))) rfl
set_option maxRecDepth 100000 in
set_option maxHeartbeats 1000000 in
theorem c_X6_slipOn {l : Launch} {E : Ev} {r : Nat} {g : Nat → Int32} {σ : Sg} (hR : RepM σ g) (hW : Wf σ) {n p a x : Nat} (hn : n < 20) (hp : p < sP σ) (ha : a < sA σ) (hx : x < 24) (hS : sS σ < 20) : Ct l E yX6_slipOn cX6_slipOn 6 (some FieldType.int) 0 0 [.ref r, .int (nI n), .int (nI p), .int (nI a), .int (nI x)] [(r, .inl (eI E, 255, .inl g))] (fun v9 w9 => ∃ g2 : Nat → Int32, v9 = some (.int (nI (sS σ))) ∧ w9 = [(r, .inl (eI E, 255, .inl g2))] ∧ RepM (oSlip σ n p a x) g2) := by
  have hwP := hW.P
  have hwA := hW.A
  have hwS := hW.S
  refine ct_of (by decide +kernel) (Nat.le_of_ble_eq_true rfl) (fun ω C RT => ?_)
  show ω [(r, .inl (eI E, 255, .inl g))] [(0, .ref r), (1, .int (nI n)), (2, .int (nI p)), (3, .int (nI a)), (4, .int (nI x))] [] 0
  refine r_sipush C dX6_slipOn_0 ks_175 ?_
  refine r_iconst C dX6_slipOn_3 ki_4 ?_
  refine r_aload_n C (i := 0) 0 dX6_slipOn_4 rfl rfl ?_
  refine r_iconst C dX6_slipOn_5 ki_2 ?_
  refine r_iald (j := 2) (v := nI (sS σ)) C 0 rfl (by omega) (by decide) hR.S dX6_slipOn_6 ?_
  refine r_imul (v := nI (4 * (sS σ))) C dX6_slipOn_7 (pk_mul _ _) ?_
  refine r_iadd (v := nI (175 + (4 * (sS σ)))) C dX6_slipOn_8 (nI_add _ _) ?_
  refine r_istore C (lv' := [(5, .int (nI (175 + (4 * (sS σ))))), (0, .ref r), (1, .int (nI n)), (2, .int (nI p)), (3, .int (nI a)), (4, .int (nI x))]) dX6_slipOn_9 (by decide) rfl ?_
  refine r_aload_n C (i := 0) 1 dX6_slipOn_11 rfl rfl ?_
  refine r_iload C (i := 5) 0 dX6_slipOn_12 rfl ?_
  refine r_iload_n C (i := 1) 2 dX6_slipOn_14 rfl rfl ?_
  refine r_iast (j := 175 + (4 * (sS σ))) (ws' := [(r, .inl (eI E, 255, .inl (upd g (175 + (4 * (sS σ))) (nI n))))]) C 0 rfl (by omega) (by decide) rfl dX6_slipOn_15 ?_
  refine r_aload_n C (i := 0) 1 dX6_slipOn_16 rfl rfl ?_
  refine r_iload C (i := 5) 0 dX6_slipOn_17 rfl ?_
  refine r_iconst C dX6_slipOn_19 ki_1 ?_
  refine r_iadd (v := nI ((175 + (4 * (sS σ))) + 1)) C dX6_slipOn_20 (nI_add _ _) ?_
  refine r_iload_n C (i := 2) 3 dX6_slipOn_21 rfl rfl ?_
  refine r_iast (j := (175 + (4 * (sS σ))) + 1) (ws' := [(r, .inl (eI E, 255, .inl (upd (upd g (175 + (4 * (sS σ))) (nI n)) ((175 + (4 * (sS σ))) + 1) (nI p))))]) C 0 rfl (by omega) (by decide) rfl dX6_slipOn_22 ?_
  refine r_aload_n C (i := 0) 1 dX6_slipOn_23 rfl rfl ?_
  refine r_iload C (i := 5) 0 dX6_slipOn_24 rfl ?_
  refine r_iconst C dX6_slipOn_26 ki_2 ?_
  refine r_iadd (v := nI ((175 + (4 * (sS σ))) + 2)) C dX6_slipOn_27 (nI_add _ _) ?_
  refine r_iload_n C (i := 3) 4 dX6_slipOn_28 rfl rfl ?_
  refine r_iast (j := (175 + (4 * (sS σ))) + 2) (ws' := [(r, .inl (eI E, 255, .inl (upd (upd (upd g (175 + (4 * (sS σ))) (nI n)) ((175 + (4 * (sS σ))) + 1) (nI p)) ((175 + (4 * (sS σ))) + 2) (nI a))))]) C 0 rfl (by omega) (by decide) rfl dX6_slipOn_29 ?_
  refine r_aload_n C (i := 0) 1 dX6_slipOn_30 rfl rfl ?_
  refine r_iload C (i := 5) 0 dX6_slipOn_31 rfl ?_
  refine r_iconst C dX6_slipOn_33 ki_3 ?_
  refine r_iadd (v := nI ((175 + (4 * (sS σ))) + 3)) C dX6_slipOn_34 (nI_add _ _) ?_
  refine r_iload C (i := 4) 5 dX6_slipOn_35 rfl ?_
  refine r_iast (j := (175 + (4 * (sS σ))) + 3) (ws' := [(r, .inl (eI E, 255, .inl (upd (upd (upd (upd g (175 + (4 * (sS σ))) (nI n)) ((175 + (4 * (sS σ))) + 1) (nI p)) ((175 + (4 * (sS σ))) + 2) (nI a)) ((175 + (4 * (sS σ))) + 3) (nI x))))]) C 0 rfl (by omega) (by decide) rfl dX6_slipOn_37 ?_
  refine r_aload_n C (i := 0) 1 dX6_slipOn_38 rfl rfl ?_
  refine r_iconst C dX6_slipOn_39 ki_2 ?_
  refine r_dup2 C dX6_slipOn_40 rfl rfl ?_
  refine r_iald (j := 2) (v := nI (sS σ)) C 0 rfl (by omega) (by decide) (by rw [pk_un (by omega), pk_un (by omega), pk_un (by omega), pk_un (by omega)]; exact hR.S) dX6_slipOn_41 ?_
  refine r_iconst C dX6_slipOn_42 ki_1 ?_
  refine r_iadd (v := nI ((sS σ) + 1)) C dX6_slipOn_43 (nI_add _ _) ?_
  refine r_iast (j := 2) (ws' := [(r, .inl (eI E, 255, .inl (upd (upd (upd (upd (upd g (175 + (4 * (sS σ))) (nI n)) ((175 + (4 * (sS σ))) + 1) (nI p)) ((175 + (4 * (sS σ))) + 2) (nI a)) ((175 + (4 * (sS σ))) + 3) (nI x)) 2 (nI ((sS σ) + 1)))))]) C 0 rfl (by omega) (by decide) rfl dX6_slipOn_44 ?_
  refine r_aload_n C (i := 0) 1 dX6_slipOn_45 rfl rfl ?_
  refine r_iconst C dX6_slipOn_46 ki_2 ?_
  refine r_iald (j := 2) (v := nI (sS σ + 1)) C 0 rfl (by omega) (by decide) pk_us dX6_slipOn_47 ?_
  refine r_iconst C dX6_slipOn_48 ki_1 ?_
  refine r_isub (v := nI (sS σ)) C dX6_slipOn_49 ((v_sub (by omega)).trans (congrArg nI (by omega))) ?_
  exact RT.1 _ _ _ _ _ dX6_slipOn_50 rfl rfl (⟨_, rfl, rfl, RepM_slip hR hW hS⟩) rfl
set_option maxRecDepth 100000 in
set_option maxHeartbeats 1000000 in
theorem c_X6_loseOn {l : Launch} {E : Ev} {r : Nat} {g : Nat → Int32} {σ : Sg} (hR : RepM σ g) (hW : Wf σ) {k : Nat} (hk : k < sS σ) : Ct l E yX6_loseOn cX6_loseOn 3 (some FieldType.int) 0 0 [.ref r, .int (nI k)] [(r, .inl (eI E, 255, .inl g))] (fun v9 w9 => ∃ g2 : Nat → Int32, v9 = some (.int (nI (sS σ - 1))) ∧ w9 = [(r, .inl (eI E, 255, .inl g2))] ∧ RepM (oLose σ k) g2) := by
  have hwP := hW.P
  have hwA := hW.A
  have hwS := hW.S
  refine ct_of (by decide +kernel) (Nat.le_of_ble_eq_true rfl) (fun ω C RT => ?_)
  show ω [(r, .inl (eI E, 255, .inl g))] [(0, .ref r), (1, .int (nI k))] [] 0
  refine r_aload_n C (i := 0) 0 dX6_loseOn_0 rfl rfl ?_
  refine r_iconst C dX6_loseOn_1 ki_2 ?_
  refine r_dup2 C dX6_loseOn_2 rfl rfl ?_
  refine r_iald (j := 2) (v := nI (sS σ)) C 0 rfl (by omega) (by decide) hR.S dX6_loseOn_3 ?_
  refine r_iconst C dX6_loseOn_4 ki_1 ?_
  refine r_isub (v := nI (sS σ - 1)) C dX6_loseOn_5 (v_sub (by omega)) ?_
  refine r_iast (j := 2) (ws' := [(r, .inl (eI E, 255, .inl (upd g 2 (nI (sS σ - 1)))))]) C 0 rfl (by omega) (by decide) rfl dX6_loseOn_6 ?_
  refine r_iconst C dX6_loseOn_7 ki_4 ?_
  refine r_iload_n C (i := 1) 1 dX6_loseOn_8 rfl rfl ?_
  refine r_imul (v := nI (4 * k)) C dX6_loseOn_9 (pk_mul _ _) ?_
  refine r_istore_n C (lv' := [(2, .int (nI (4 * k))), (0, .ref r), (1, .int (nI k))]) dX6_loseOn_10 rfl (by decide) rfl ?_
  have loop11_1 : ∀ (dd9 : Nat) (i : Nat) (g2 : Nat → Int32), 4 * (sS σ - 1) - i < dd9 → (4 * k ≤ i ∧ i ≤ 4 * (sS σ - 1)) → (g2 = shiftF (upd g 2 (nI (sS σ - 1))) (175 + 4 * k) (175 + i) 4) → ω [(r, .inl (eI E, 255, .inl g2))] [(2, .int (nI i)), (0, .ref r), (1, .int (nI k))] [] 11 := by
    intro dd9
    induction dd9 with
    | zero => intro i g2 hd; exact absurd hd (Nat.not_lt_zero _)
    | succ dd9 ih2 =>
      intro i g2 hd hi hg
      refine r_iload_n C (i := 2) 0 dX6_loseOn_11 rfl rfl ?_
      refine r_iconst C dX6_loseOn_12 ki_4 ?_
      refine r_aload_n C (i := 0) 1 dX6_loseOn_13 rfl rfl ?_
      refine r_iconst C dX6_loseOn_14 ki_2 ?_
      refine r_iald (j := 2) (v := nI (sS σ - 1)) C 0 rfl (by omega) (by decide) (by rw [hg, shiftF, if_neg (by omega)]; exact pk_us) dX6_loseOn_15 ?_
      refine r_imul (v := nI (4 * (sS σ - 1))) C dX6_loseOn_16 (pk_mul _ _) ?_
      refine r_icmp_ge C (c9 := 4 * (sS σ - 1) ≤ i) 42 dX6_loseOn_17 (by decide) (c_leNN (by omega) (by omega)) (fun h17_3 => ?_) (fun h17_3 => ?_)
      · refine r_aload_n C (i := 0) 1 dX6_loseOn_42 rfl rfl ?_
        refine r_iconst C dX6_loseOn_43 ki_2 ?_
        refine r_iald (j := 2) (v := nI (sS σ - 1)) C 0 rfl (by omega) (by decide) (by rw [hg, shiftF, if_neg (by omega)]; exact pk_us) dX6_loseOn_44 ?_
        exact RT.1 _ _ _ _ _ dX6_loseOn_45 rfl rfl (⟨_, rfl, rfl, by rw [hg, (by omega : i = 4 * (sS σ - 1))]; exact RepM_lose hR hW hk⟩) rfl
      · refine r_aload_n C (i := 0) 1 dX6_loseOn_20 rfl rfl ?_
        refine r_sipush C dX6_loseOn_21 ks_175 ?_
        refine r_iload_n C (i := 2) 0 dX6_loseOn_24 rfl rfl ?_
        refine r_iadd (v := nI (175 + i)) C dX6_loseOn_25 (nI_add _ _) ?_
        refine r_aload_n C (i := 0) 1 dX6_loseOn_26 rfl rfl ?_
        refine r_sipush C dX6_loseOn_27 ks_175 ?_
        refine r_iload_n C (i := 2) 0 dX6_loseOn_30 rfl rfl ?_
        refine r_iadd (v := nI (175 + i)) C dX6_loseOn_31 (nI_add _ _) ?_
        refine r_iconst C dX6_loseOn_32 ki_4 ?_
        refine r_iadd (v := nI ((175 + i) + 4)) C dX6_loseOn_33 (nI_add _ _) ?_
        refine r_iald (j := (175 + i) + 4) (v := upd g 2 (nI (sS σ - 1)) (175 + i + 4)) C 0 rfl (by omega) (by decide) (by rw [hg]; exact shiftF_at (by omega)) dX6_loseOn_34 ?_
        refine r_iast (j := 175 + i) (ws' := [(r, .inl (eI E, 255, .inl (upd g2 (175 + i) (upd g 2 (nI (sS σ - 1)) (175 + i + 4)))))]) C 0 rfl (by omega) (by decide) rfl dX6_loseOn_35 ?_
        refine r_iinc C (lv' := [(2, .int (nI (i + 1))), (0, .ref r), (1, .int (nI k))]) (v := nI (i + 1)) 0 dX6_loseOn_36 rfl (v_inc _) (by decide) rfl ?_
        refine r_goto C 11 dX6_loseOn_39 (by decide) ?_
        exact ih2 (i + 1) (upd g2 (175 + i) (upd g 2 (nI (sS σ - 1)) (175 + i + 4))) (by omega) (by omega) (by rw [hg]; exact shiftF_s (by omega))
  exact loop11_1 _ (4 * k) (upd g 2 (nI (sS σ - 1))) (Nat.lt_succ_self _) (by omega) (shiftF_0 _ _ _)
set_option maxRecDepth 100000 in
set_option maxHeartbeats 1000000 in
theorem c_X6_actorOn {l : Launch} {E : Ev} {r : Nat} {g : Nat → Int32} {σ : Sg} (hR : RepM σ g) (hW : Wf σ) {x : Nat} (hx : x ≤ 9) (hA : sA σ < 10) : Ct l E yX6_actorOn cX6_actorOn 3 (some FieldType.int) 0 0 [.ref r, .int (nI x)] [(r, .inl (eI E, 255, .inl g))] (fun v9 w9 => ∃ g2 : Nat → Int32, v9 = some (.int (nI (sA σ))) ∧ w9 = [(r, .inl (eI E, 255, .inl g2))] ∧ RepM (oHire σ x) g2) := by
  have hwP := hW.P
  have hwA := hW.A
  have hwS := hW.S
  refine ct_of (by decide +kernel) (Nat.le_of_ble_eq_true rfl) (fun ω C RT => ?_)
  show ω [(r, .inl (eI E, 255, .inl g))] [(0, .ref r), (1, .int (nI x))] [] 0
  refine r_aload_n C (i := 0) 0 dX6_actorOn_0 rfl rfl ?_
  refine r_iconst C dX6_actorOn_1 ki_1 ?_
  refine r_iald (j := 1) (v := nI (sA σ)) C 0 rfl (by omega) (by decide) hR.A dX6_actorOn_2 ?_
  refine r_istore_n C (lv' := [(2, .int (nI (sA σ))), (0, .ref r), (1, .int (nI x))]) dX6_actorOn_3 rfl (by decide) rfl ?_
  refine r_aload_n C (i := 0) 1 dX6_actorOn_4 rfl rfl ?_
  refine r_iconst C dX6_actorOn_5 ki_5 ?_
  refine r_iload_n C (i := 2) 0 dX6_actorOn_6 rfl rfl ?_
  refine r_iadd (v := nI (5 + (sA σ))) C dX6_actorOn_7 (nI_add _ _) ?_
  refine r_iload_n C (i := 1) 2 dX6_actorOn_8 rfl rfl ?_
  refine r_iast (j := 5 + (sA σ)) (ws' := [(r, .inl (eI E, 255, .inl (upd g (5 + (sA σ)) (nI x))))]) C 0 rfl (by omega) (by decide) rfl dX6_actorOn_9 ?_
  refine r_aload_n C (i := 0) 1 dX6_actorOn_10 rfl rfl ?_
  refine r_bipush C dX6_actorOn_11 kb_15 ?_
  refine r_iload_n C (i := 2) 0 dX6_actorOn_13 rfl rfl ?_
  refine r_iadd (v := nI (15 + (sA σ))) C dX6_actorOn_14 (nI_add _ _) ?_
  refine r_iconst C dX6_actorOn_15 ki_0 ?_
  refine r_iast (j := 15 + (sA σ)) (ws' := [(r, .inl (eI E, 255, .inl (upd (upd g (5 + (sA σ)) (nI x)) (15 + (sA σ)) (nI 0))))]) C 0 rfl (by omega) (by decide) rfl dX6_actorOn_16 ?_
  refine r_aload_n C (i := 0) 1 dX6_actorOn_17 rfl rfl ?_
  refine r_iconst C dX6_actorOn_18 ki_1 ?_
  refine r_dup2 C dX6_actorOn_19 rfl rfl ?_
  refine r_iald (j := 1) (v := nI (sA σ)) C 0 rfl (by omega) (by decide) (by rw [pk_un (by omega), pk_un (by omega)]; exact hR.A) dX6_actorOn_20 ?_
  refine r_iconst C dX6_actorOn_21 ki_1 ?_
  refine r_iadd (v := nI ((sA σ) + 1)) C dX6_actorOn_22 (nI_add _ _) ?_
  refine r_iast (j := 1) (ws' := [(r, .inl (eI E, 255, .inl (upd (upd (upd g (5 + (sA σ)) (nI x)) (15 + (sA σ)) (nI 0)) 1 (nI ((sA σ) + 1)))))]) C 0 rfl (by omega) (by decide) rfl dX6_actorOn_23 ?_
  refine r_iload_n C (i := 2) 0 dX6_actorOn_24 rfl rfl ?_
  exact RT.1 _ _ _ _ _ dX6_actorOn_25 rfl rfl (⟨_, rfl, rfl, RepM_hire hR hW hA⟩) rfl
set_option maxRecDepth 100000 in
set_option maxHeartbeats 1000000 in
theorem c_X6_partOn {l : Launch} {E : Ev} {r : Nat} {g : Nat → Int32} {σ : Sg} (hR : RepM σ g) (hW : Wf σ) (hP : sP σ < 6) : Ct l E yX6_partOn cX6_partOn 3 (some FieldType.int) 0 0 [.ref r] [(r, .inl (eI E, 255, .inl g))] (fun v9 w9 => ∃ g2 : Nat → Int32, v9 = some (.int (nI (sP σ))) ∧ w9 = [(r, .inl (eI E, 255, .inl g2))] ∧ RepM (oPart σ) g2) := by
  have hwP := hW.P
  have hwA := hW.A
  have hwS := hW.S
  refine ct_of (by decide +kernel) (Nat.le_of_ble_eq_true rfl) (fun ω C RT => ?_)
  show ω [(r, .inl (eI E, 255, .inl g))] [(0, .ref r)] [] 0
  refine r_aload_n C (i := 0) 0 dX6_partOn_0 rfl rfl ?_
  refine r_iconst C dX6_partOn_1 ki_0 ?_
  refine r_iald (j := 0) (v := nI (sP σ)) C 0 rfl (by omega) (by decide) hR.P dX6_partOn_2 ?_
  refine r_istore_n C (lv' := [(1, .int (nI (sP σ))), (0, .ref r)]) dX6_partOn_3 rfl (by decide) rfl ?_
  refine r_iconst C dX6_partOn_4 ki_0 ?_
  refine r_istore_n C (lv' := [(2, .int (nI 0)), (1, .int (nI (sP σ))), (0, .ref r)]) dX6_partOn_5 rfl (by decide) rfl ?_
  have loop6_1 : ∀ (dd9 : Nat) (k : Nat) (g2 : Nat → Int32), 20 - k < dd9 → (k ≤ 20) → (g2 = castF g (25 + 20 * sP σ) (25 + 20 * sP σ + k) (mI 0)) → ω [(r, .inl (eI E, 255, .inl g2))] [(2, .int (nI k)), (1, .int (nI (sP σ))), (0, .ref r)] [] 6 := by
    intro dd9
    induction dd9 with
    | zero => intro k g2 hd; exact absurd hd (Nat.not_lt_zero _)
    | succ dd9 ih2 =>
      intro k g2 hd hk hg
      refine r_iload_n C (i := 2) 0 dX6_partOn_6 rfl rfl ?_
      refine r_bipush C dX6_partOn_7 kb_20 ?_
      refine r_icmp_ge C (c9 := 20 ≤ k) 30 dX6_partOn_9 (by decide) (c_leNN (by omega) (by omega)) (fun h9_3 => ?_) (fun h9_3 => ?_)
      · refine r_aload_n C (i := 0) 2 dX6_partOn_30 rfl rfl ?_
        refine r_sipush C dX6_partOn_31 ks_145 ?_
        refine r_iconst C dX6_partOn_34 ki_5 ?_
        refine r_iload_n C (i := 1) 1 dX6_partOn_35 rfl rfl ?_
        refine r_imul (v := nI (5 * (sP σ))) C dX6_partOn_36 (pk_mul _ _) ?_
        refine r_iadd (v := nI (145 + (5 * (sP σ)))) C dX6_partOn_37 (nI_add _ _) ?_
        refine r_iconst C dX6_partOn_38 ki_0 ?_
        refine r_iast (j := 145 + (5 * (sP σ))) (ws' := [(r, .inl (eI E, 255, .inl (upd g2 (145 + (5 * (sP σ))) (nI 0))))]) C 0 rfl (by omega) (by decide) rfl dX6_partOn_39 ?_
        refine r_aload_n C (i := 0) 2 dX6_partOn_40 rfl rfl ?_
        refine r_iconst C dX6_partOn_41 ki_0 ?_
        refine r_dup2 C dX6_partOn_42 rfl rfl ?_
        refine r_iald (j := 0) (v := nI (sP σ)) C 0 rfl (by omega) (by decide) (by rw [pk_un (by omega), hg, castF, if_neg (by omega)]; exact hR.P) dX6_partOn_43 ?_
        refine r_iconst C dX6_partOn_44 ki_1 ?_
        refine r_iadd (v := nI ((sP σ) + 1)) C dX6_partOn_45 (nI_add _ _) ?_
        refine r_iast (j := 0) (ws' := [(r, .inl (eI E, 255, .inl (upd (upd g2 (145 + (5 * (sP σ))) (nI 0)) 0 (nI ((sP σ) + 1)))))]) C 0 rfl (by omega) (by decide) rfl dX6_partOn_46 ?_
        refine r_iload_n C (i := 1) 1 dX6_partOn_47 rfl rfl ?_
        exact RT.1 _ _ _ _ _ dX6_partOn_48 rfl rfl (⟨_, rfl, rfl, by rw [hg, (by omega : k = 20)]; exact RepM_part hR hW hP⟩) rfl
      · refine r_aload_n C (i := 0) 2 dX6_partOn_12 rfl rfl ?_
        refine r_bipush C dX6_partOn_13 kb_25 ?_
        refine r_bipush C dX6_partOn_15 kb_20 ?_
        refine r_iload_n C (i := 1) 1 dX6_partOn_17 rfl rfl ?_
        refine r_imul (v := nI (20 * (sP σ))) C dX6_partOn_18 (pk_mul _ _) ?_
        refine r_iadd (v := nI (25 + (20 * (sP σ)))) C dX6_partOn_19 (nI_add _ _) ?_
        refine r_iload_n C (i := 2) 0 dX6_partOn_20 rfl rfl ?_
        refine r_iadd (v := nI ((25 + (20 * (sP σ))) + k)) C dX6_partOn_21 (nI_add _ _) ?_
        refine r_iconst C dX6_partOn_22 ki_m1 ?_
        refine r_iast (j := (25 + (20 * (sP σ))) + k) (ws' := [(r, .inl (eI E, 255, .inl (upd g2 ((25 + (20 * (sP σ))) + k) (mI 0))))]) C 0 rfl (by omega) (by decide) rfl dX6_partOn_23 ?_
        refine r_iinc C (lv' := [(2, .int (nI (k + 1))), (1, .int (nI (sP σ))), (0, .ref r)]) (v := nI (k + 1)) 0 dX6_partOn_24 rfl (v_inc _) (by decide) rfl ?_
        refine r_goto C 6 dX6_partOn_27 (by decide) ?_
        exact ih2 (k + 1) (upd g2 ((25 + (20 * (sP σ))) + k) (mI 0)) (by omega) (by omega) (by rw [hg]; exact castF_s (by omega))
  exact loop6_1 _ 0 g (Nat.lt_succ_self _) (by omega) (castF_0 _ _ _)
set_option maxRecDepth 100000 in
set_option maxHeartbeats 1000000 in
theorem c_X6_isSetting {l : Launch} {E : Ev} {w : Nat} (hw : w < 2147483648) {v : Nat} (hv : v < 2147483648) : Cr l E yX6_isSetting cX6_isSetting 2 (some FieldType.boolean) 1 25 [.int (nI w), .int (nI v)] [] (some (.int (bP (w ≤ 1 ∧ v ≤ (if w = 0 then 99 else 9))))) := by
  refine ct_of (by decide +kernel) (Nat.le_of_ble_eq_true rfl) (fun ω C RT => ?_)
  show ω [] [(0, .int (nI w)), (1, .int (nI v))] [] 0
  refine r_iload_n C (i := 0) 0 dX6_isSetting_0 rfl rfl ?_
  refine r_i2l (v := lN w) C dX6_isSetting_1 (v_i2l (by omega)) ?_
  refine r_lconst (v := lN 0) C dX6_isSetting_2 (by decide +kernel) ?_
  refine r_lconst (v := lN 1) C dX6_isSetting_3 (by decide +kernel) ?_
  refine r_readS (rest := []) C (c_X6_in (v := lN w) (lw := lN 0) (hg := lN 1)) lk_X6_in w_5_113 [] dX6_isSetting_4 rfl rfl rfl ⟨by decide, by decide⟩ (Nat.le_of_ble_eq_true rfl) (st' := [.int (bP (lN 0 ≤ lN w ∧ lN w ≤ lN 1))]) rfl ?_
  refine r_st (st' := [.int (bP (w ≤ 1))]) (by rw [bP_c (in_N (by omega) (by omega))]) ?_
  refine r_if_eq C (y := 0) (c9 := ¬ (w ≤ 1)) 36 dX6_isSetting_7 (by decide) z_eqB (fun h7_1 => ?_) (fun h7_1 => ?_)
  · refine r_iconst C dX6_isSetting_36 ki_0 ?_
    exact RT.1 _ _ _ _ _ dX6_isSetting_37 rfl nar_0 (rd_i (bP_f (fun z => by have z2 := z.2; split at z2 <;> omega))) rfl
  · replace h7_1 : w ≤ 1 := Decidable.not_not.mp h7_1
    refine r_iload_n C (i := 1) 1 dX6_isSetting_10 rfl rfl ?_
    refine r_i2l (v := lN v) C dX6_isSetting_11 (v_i2l (by omega)) ?_
    refine r_lconst (v := lN 0) C dX6_isSetting_12 (by decide +kernel) ?_
    refine r_iload_n C (i := 0) 0 dX6_isSetting_13 rfl rfl ?_
    refine r_if_ne C (y := 0) (c9 := w ≠ 0) 23 dX6_isSetting_14 (by decide) (z_neN (by omega)) (fun h14_2 => ?_) (fun h14_2 => ?_)
    · refine r_ldc2 (v := lN 9) C dX6_isSetting_23 w_5_140 ?_
      refine r_readS (rest := []) C (c_X6_in (v := lN v) (lw := lN 0) (hg := lN 9)) lk_X6_in w_5_113 [] dX6_isSetting_26 rfl rfl rfl ⟨by decide, by decide⟩ (Nat.le_of_ble_eq_true rfl) (st' := [.int (bP (lN 0 ≤ lN v ∧ lN v ≤ lN 9))]) rfl ?_
      refine r_st (st' := [.int (bP (v ≤ 9))]) (by rw [bP_c (in_N (by omega) (by omega))]) ?_
      refine r_if_eq C (y := 0) (c9 := ¬ (v ≤ 9)) 36 dX6_isSetting_29 (by decide) z_eqB (fun h29_3 => ?_) (fun h29_3 => ?_)
      · refine r_iconst C dX6_isSetting_36 ki_0 ?_
        exact RT.1 _ _ _ _ _ dX6_isSetting_37 rfl nar_0 (rd_i (bP_f (fun z => by have z2 := z.2; split at z2 <;> omega))) rfl
      · replace h29_3 : v ≤ 9 := Decidable.not_not.mp h29_3
        refine r_iconst C dX6_isSetting_32 ki_1 ?_
        refine r_goto C 37 dX6_isSetting_33 (by decide) ?_
        exact RT.1 _ _ _ _ _ dX6_isSetting_37 rfl nar_1 (rd_i (bP_t ⟨by omega, by split <;> omega⟩)) rfl
    · refine r_ldc2 (v := lN 99) C dX6_isSetting_17 w_6_100 ?_
      refine r_goto C 26 dX6_isSetting_20 (by decide) ?_
      refine r_readS (rest := []) C (c_X6_in (v := lN v) (lw := lN 0) (hg := lN 99)) lk_X6_in w_5_113 [] dX6_isSetting_26 rfl rfl rfl ⟨by decide, by decide⟩ (Nat.le_of_ble_eq_true rfl) (st' := [.int (bP (lN 0 ≤ lN v ∧ lN v ≤ lN 99))]) rfl ?_
      refine r_st (st' := [.int (bP (v ≤ 99))]) (by rw [bP_c (in_N (by omega) (by omega))]) ?_
      refine r_if_eq C (y := 0) (c9 := ¬ (v ≤ 99)) 36 dX6_isSetting_29 (by decide) z_eqB (fun h29_4 => ?_) (fun h29_4 => ?_)
      · refine r_iconst C dX6_isSetting_36 ki_0 ?_
        exact RT.1 _ _ _ _ _ dX6_isSetting_37 rfl nar_0 (rd_i (bP_f (fun z => by have z2 := z.2; split at z2 <;> omega))) rfl
      · replace h29_4 : v ≤ 99 := Decidable.not_not.mp h29_4
        refine r_iconst C dX6_isSetting_32 ki_1 ?_
        refine r_goto C 37 dX6_isSetting_33 (by decide) ?_
        exact RT.1 _ _ _ _ _ dX6_isSetting_37 rfl nar_1 (rd_i (bP_t ⟨by omega, by split <;> omega⟩)) rfl
set_option maxRecDepth 100000 in
set_option maxHeartbeats 1000000 in
theorem c_X6_isSetting__r {l : Launch} {E : Ev} {w v : Int32} : Cr l E yX6_isSetting cX6_isSetting 2 (some FieldType.boolean) 1 25 [.int w, .int v] [] (some (.int (bP (vI w 2 ∧ vI v (if w = 0 then 100 else 10))))) := by
  refine ct_of (by decide +kernel) (Nat.le_of_ble_eq_true rfl) (fun ω C RT => ?_)
  show ω [] [(0, .int w), (1, .int v)] [] 0
  refine r_iload_n C (i := 0) 0 dX6_isSetting_0 rfl rfl ?_
  refine r_i2l (v := (w).toInt64) C dX6_isSetting_1 rfl ?_
  refine r_lconst (v := lN 0) C dX6_isSetting_2 (by decide +kernel) ?_
  refine r_lconst (v := lN 1) C dX6_isSetting_3 (by decide +kernel) ?_
  refine r_readS (rest := []) C (c_X6_in (v := (w).toInt64) (lw := lN 0) (hg := lN 1)) lk_X6_in w_5_113 [] dX6_isSetting_4 rfl rfl rfl ⟨by decide, by decide⟩ (Nat.le_of_ble_eq_true rfl) (st' := [.int (bP (lN 0 ≤ (w).toInt64 ∧ (w).toInt64 ≤ lN 1))]) rfl ?_
  refine r_st (st' := [.int (bP (vI w (2)))]) (by rw [bP_c (in_r (by omega))]) ?_
  refine r_if_eq C (y := 0) (c9 := ¬ (vI w (2))) 36 dX6_isSetting_7 (by decide) z_eqB (fun h7_1 => ?_) (fun h7_1 => ?_)
  · refine r_iconst C dX6_isSetting_36 ki_0 ?_
    exact RT.1 _ _ _ _ _ dX6_isSetting_37 rfl nar_0 (rd_i (bP_f (fun z => h7_1 z.1))) rfl
  · replace h7_1 : vI w (2) := Decidable.not_not.mp h7_1
    refine r_iload_n C (i := 1) 1 dX6_isSetting_10 rfl rfl ?_
    refine r_i2l (v := (v).toInt64) C dX6_isSetting_11 rfl ?_
    refine r_lconst (v := lN 0) C dX6_isSetting_12 (by decide +kernel) ?_
    refine r_iload_n C (i := 0) 0 dX6_isSetting_13 rfl rfl ?_
    refine r_if_ne C (y := 0) (c9 := w ≠ 0) 23 dX6_isSetting_14 (by decide) Iff.rfl (fun h14_2 => ?_) (fun h14_2 => ?_)
    · refine r_ldc2 (v := lN 9) C dX6_isSetting_23 w_5_140 ?_
      refine r_readS (rest := []) C (c_X6_in (v := (v).toInt64) (lw := lN 0) (hg := lN 9)) lk_X6_in w_5_113 [] dX6_isSetting_26 rfl rfl rfl ⟨by decide, by decide⟩ (Nat.le_of_ble_eq_true rfl) (st' := [.int (bP (lN 0 ≤ (v).toInt64 ∧ (v).toInt64 ≤ lN 9))]) rfl ?_
      refine r_st (st' := [.int (bP (vI v (10)))]) (by rw [bP_c (in_r (by omega))]) ?_
      refine r_if_eq C (y := 0) (c9 := ¬ (vI v (10))) 36 dX6_isSetting_29 (by decide) z_eqB (fun h29_3 => ?_) (fun h29_3 => ?_)
      · refine r_iconst C dX6_isSetting_36 ki_0 ?_
        exact RT.1 _ _ _ _ _ dX6_isSetting_37 rfl nar_0 (rd_i (bP_f (fun z => by have z2 := z.2; rw [if_neg h14_2] at z2; exact h29_3 z2))) rfl
      · replace h29_3 : vI v (10) := Decidable.not_not.mp h29_3
        refine r_iconst C dX6_isSetting_32 ki_1 ?_
        refine r_goto C 37 dX6_isSetting_33 (by decide) ?_
        exact RT.1 _ _ _ _ _ dX6_isSetting_37 rfl nar_1 (rd_i (bP_t ⟨h7_1, by rw [if_neg h14_2]; exact h29_3⟩)) rfl
    · refine r_ldc2 (v := lN 99) C dX6_isSetting_17 w_6_100 ?_
      refine r_goto C 26 dX6_isSetting_20 (by decide) ?_
      refine r_readS (rest := []) C (c_X6_in (v := (v).toInt64) (lw := lN 0) (hg := lN 99)) lk_X6_in w_5_113 [] dX6_isSetting_26 rfl rfl rfl ⟨by decide, by decide⟩ (Nat.le_of_ble_eq_true rfl) (st' := [.int (bP (lN 0 ≤ (v).toInt64 ∧ (v).toInt64 ≤ lN 99))]) rfl ?_
      refine r_st (st' := [.int (bP (vI v (100)))]) (by rw [bP_c (in_r (by omega))]) ?_
      refine r_if_eq C (y := 0) (c9 := ¬ (vI v (100))) 36 dX6_isSetting_29 (by decide) z_eqB (fun h29_4 => ?_) (fun h29_4 => ?_)
      · refine r_iconst C dX6_isSetting_36 ki_0 ?_
        exact RT.1 _ _ _ _ _ dX6_isSetting_37 rfl nar_0 (rd_i (bP_f (fun z => by have z2 := z.2; rw [if_pos (Decidable.not_not.mp h14_2)] at z2; exact h29_4 z2))) rfl
      · replace h29_4 : vI v (100) := Decidable.not_not.mp h29_4
        refine r_iconst C dX6_isSetting_32 ki_1 ?_
        refine r_goto C 37 dX6_isSetting_33 (by decide) ?_
        exact RT.1 _ _ _ _ _ dX6_isSetting_37 rfl nar_1 (rd_i (bP_t ⟨h7_1, by rw [if_pos (Decidable.not_not.mp h14_2)]; exact h29_4⟩)) rfl
set_option maxRecDepth 100000 in
set_option maxHeartbeats 1000000 in
theorem c_X6_refused {l : Launch} {E : Ev} {hM rf x1 sz x3 x4 x5 ac x7 x8 x9 x10 x11 sp ou : Nat} {w : Nat} (hw : w < 2147483648) : Ct l E yX6_refused cX6_refused 2 (some FieldType.boolean) 0 0 [.ref hM, .int (nI w)] [(hM, .inr (6, [.int (nI rf), .ref x1, .int (nI sz), .ref x3, .ref x4, .ref x5, .int (nI ac), .ref x7, .ref x8, .ref x9, .ref x10, .ref x11, .int (nI sp), .int (nI ou)]))] (fun v9 w9 => v9 = some (.int (bP (0 < w))) ∧ w9 = [(hM, .inr (6, [.int (nI w), .ref x1, .int (nI sz), .ref x3, .ref x4, .ref x5, .int (nI ac), .ref x7, .ref x8, .ref x9, .ref x10, .ref x11, .int (nI sp), .int (nI ou)]))]) := by
  refine ct_of (by decide +kernel) (Nat.le_of_ble_eq_true rfl) (fun ω C RT => ?_)
  show ω [(hM, .inr (6, [.int (nI rf), .ref x1, .int (nI sz), .ref x3, .ref x4, .ref x5, .int (nI ac), .ref x7, .ref x8, .ref x9, .ref x10, .ref x11, .int (nI sp), .int (nI ou)]))] [(0, .ref hM), (1, .int (nI w))] [] 0
  refine r_aload_n C (i := 0) 0 dX6_refused_0 rfl rfl ?_
  refine r_iload_n C (i := 1) 1 dX6_refused_1 rfl rfl ?_
  refine r_put (ws' := [(hM, .inr (6, [.int (nI w), .ref x1, .int (nI sz), .ref x3, .ref x4, .ref x5, .int (nI ac), .ref x7, .ref x8, .ref x9, .ref x10, .ref x11, .int (nI sp), .int (nI ou)]))]) C 0 0 uX6 rfl tyX6_ok nmX6 rfl (by decide) w_5_61 rfl (tyX6_ok 0 (by decide)) rfl rfl (Nat.le_of_ble_eq_true rfl) rfl dX6_refused_2 ?_
  refine r_iload_n C (i := 1) 1 dX6_refused_5 rfl rfl ?_
  refine r_if_le C (y := 0) (c9 := w = 0) 13 dX6_refused_6 (by decide) (z_leN (by omega)) (fun h6_1 => ?_) (fun h6_1 => ?_)
  · refine r_iconst C dX6_refused_13 ki_0 ?_
    exact RT.1 _ _ _ _ _ dX6_refused_14 rfl nar_0 (⟨sv (bP_f (by omega)), rfl⟩) rfl
  · refine r_iconst C dX6_refused_9 ki_1 ?_
    refine r_goto C 14 dX6_refused_10 (by decide) ?_
    exact RT.1 _ _ _ _ _ dX6_refused_14 rfl nar_1 (⟨sv (bP_t (by omega)), rfl⟩) rfl
set_option maxRecDepth 100000 in
set_option maxHeartbeats 1000000 in
theorem c_X6_thrown {l : Launch} {E : Ev} {hM rf x1 sz x3 x4 x5 ac x7 x8 x9 x10 x11 sp ou : Nat} : Cr l E yX6_thrown cX6_thrown 1 (some FieldType.int) 0 0 [.ref hM] [(hM, .inr (6, [.int (nI rf), .ref x1, .int (nI sz), .ref x3, .ref x4, .ref x5, .int (nI ac), .ref x7, .ref x8, .ref x9, .ref x10, .ref x11, .int (nI sp), .int (nI ou)]))] (some (.int (nI rf))) := by
  refine ct_of (by decide +kernel) (Nat.le_of_ble_eq_true rfl) (fun ω C RT => ?_)
  show ω [(hM, .inr (6, [.int (nI rf), .ref x1, .int (nI sz), .ref x3, .ref x4, .ref x5, .int (nI ac), .ref x7, .ref x8, .ref x9, .ref x10, .ref x11, .int (nI sp), .int (nI ou)]))] [(0, .ref hM)] [] 0
  refine r_aload_n C (i := 0) 0 dX6_thrown_0 rfl rfl ?_
  refine r_get C 0 0 uX6 rfl rfl (by decide) w_5_61 rfl dX6_thrown_1 ?_
  exact RT.1 _ _ _ _ _ dX6_thrown_4 rfl rfl (rd_i rfl) rfl
theorem bP_01 {d : Nat} (h : d ≤ 1) : nI d = bP (d = 1) := by
  by_cases e : d = 1
  · rw [bP, if_pos e, e]
  · rw [bP, if_neg e]; exact congrArg nI (by omega)
set_option maxRecDepth 100000 in
set_option maxHeartbeats 1000000 in
theorem c_X6_goThrough {l : Launch} {E : Ev} {hM rf x1 sz x3 x4 x5 ac x7 x8 x9 x10 x11 sp ou : Nat} {t1 t2 t3 : Nat → Int32} {r : Nat} {g : Nat → Int32} {σ : Sg} (hR : RepM σ g) (hW : Wf σ) {n : Nat} (hn : n < 20) : Ct l E yX6_goThrough cX6_goThrough 9 (some FieldType.boolean) 3 71 [.ref hM, .ref r, .int (nI n)] [(hM, .inr (6, [.int (nI rf), .ref x1, .int (nI sz), .ref x3, .ref x4, .ref x5, .int (nI ac), .ref x7, .ref x8, .ref x9, .ref x10, .ref x11, .int (nI sp), .int (nI ou)])), (x9, .inl (eI E, 6, .inl t1)), (x10, .inl (eI E, 6, .inl t2)), (x11, .inl (eI E, 6, .inl t3)), (r, .inl (eI E, 255, .inl g))] (fun v9 w9 => ∃ ta tb tc : Nat → Int32, v9 = some (.int (bP (dk σ n = 1))) ∧ w9 = [(hM, .inr (6, [.int (nI rf), .ref x1, .int (nI sz), .ref x3, .ref x4, .ref x5, .int (nI ac), .ref x7, .ref x8, .ref x9, .ref x10, .ref x11, .int (nI sp), .int (nI ou)])), (x9, .inl (eI E, 6, .inl ta)), (x10, .inl (eI E, 6, .inl tb)), (x11, .inl (eI E, 6, .inl tc)), (r, .inl (eI E, 255, .inl g))] ∧ EvR σ n (sP σ) ta tb tc) := by
  have hwP := hW.P
  have hwA := hW.A
  have hwS := hW.S
  refine ct_of (by decide +kernel) (Nat.le_of_ble_eq_true rfl) (fun ω C RT => ?_)
  show ω [(hM, .inr (6, [.int (nI rf), .ref x1, .int (nI sz), .ref x3, .ref x4, .ref x5, .int (nI ac), .ref x7, .ref x8, .ref x9, .ref x10, .ref x11, .int (nI sp), .int (nI ou)])), (x9, .inl (eI E, 6, .inl t1)), (x10, .inl (eI E, 6, .inl t2)), (x11, .inl (eI E, 6, .inl t3)), (r, .inl (eI E, 255, .inl g))] [(0, .ref hM), (1, .ref r), (2, .int (nI n))] [] 0
  have join11_1 : ∀ (d0 : Nat), (d0 = dkN σ n 0) → ω [(hM, .inr (6, [.int (nI rf), .ref x1, .int (nI sz), .ref x3, .ref x4, .ref x5, .int (nI ac), .ref x7, .ref x8, .ref x9, .ref x10, .ref x11, .int (nI sp), .int (nI ou)])), (x9, .inl (eI E, 6, .inl t1)), (x10, .inl (eI E, 6, .inl t2)), (x11, .inl (eI E, 6, .inl t3)), (r, .inl (eI E, 255, .inl g))] [(0, .ref hM), (1, .ref r), (2, .int (nI n))] [.int (nI d0)] 11 := by
    intro d0 hd0
    refine r_istore_n C (lv' := [(3, .int (nI d0)), (0, .ref hM), (1, .ref r), (2, .int (nI n))]) dX6_goThrough_11 rfl (by decide) rfl ?_
    refine r_iconst C dX6_goThrough_12 ki_0 ?_
    refine r_istore C (lv' := [(4, .int (nI 0)), (3, .int (nI d0)), (0, .ref hM), (1, .ref r), (2, .int (nI n))]) dX6_goThrough_13 (by decide) rfl ?_
    refine r_iconst C dX6_goThrough_15 ki_0 ?_
    refine r_istore C (lv' := [(5, .int (nI 0)), (4, .int (nI 0)), (3, .int (nI d0)), (0, .ref hM), (1, .ref r), (2, .int (nI n))]) dX6_goThrough_16 (by decide) rfl ?_
    have loop18_2 : ∀ (dd9 : Nat) (p : Nat) (u : Nat) (d : Nat) (u1 : Nat → Int32) (u2 : Nat → Int32) (u3 : Nat → Int32), sP σ - p < dd9 → (p ≤ sP σ) → (u = us σ n p) → (d = dkN σ n p) → (EvR σ n p u1 u2 u3) → ω [(hM, .inr (6, [.int (nI rf), .ref x1, .int (nI sz), .ref x3, .ref x4, .ref x5, .int (nI ac), .ref x7, .ref x8, .ref x9, .ref x10, .ref x11, .int (nI sp), .int (nI ou)])), (x9, .inl (eI E, 6, .inl u1)), (x10, .inl (eI E, 6, .inl u2)), (x11, .inl (eI E, 6, .inl u3)), (r, .inl (eI E, 255, .inl g))] [(5, .int (nI p)), (4, .int (nI u)), (3, .int (nI d)), (0, .ref hM), (1, .ref r), (2, .int (nI n))] [] 18 := by
      intro dd9
      induction dd9 with
      | zero => intro p u d u1 u2 u3 hd; exact absurd hd (Nat.not_lt_zero _)
      | succ dd9 ih3 =>
        intro p u d u1 u2 u3 hd hp hu hd hEv
        have hdl := dkN_le σ n p
        have hTu : T σ n p = tk σ n p u := by rw [hu]; rfl
        have hWu : Wy σ n p = why σ n p u := by rw [hu]; rfl
        have hBu : Bs σ n p = sl σ n p u := by rw [hu]; rfl
        have hul : u < 1024 := by rw [hu]; exact us_lt hW hn hp
        have hsl := sl_le σ n p u
        refine r_iload C (i := 5) 0 dX6_goThrough_18 rfl ?_
        refine r_aload_n C (i := 1) 4 dX6_goThrough_20 rfl rfl ?_
        refine r_iconst C dX6_goThrough_21 ki_0 ?_
        refine r_iald (j := 0) (v := nI (sP σ)) C 4 rfl (by omega) (by decide) hR.P dX6_goThrough_22 ?_
        refine r_icmp_ge C (c9 := sP σ ≤ p) 216 dX6_goThrough_23 (by decide) (c_leNN (by omega) (by omega)) (fun h23_4 => ?_) (fun h23_4 => ?_)
        · refine r_iload_n C (i := 3) 2 dX6_goThrough_216 rfl rfl ?_
          exact RT.1 _ _ _ _ _ dX6_goThrough_217 rfl (nar_le (by rw [hd]; exact dkN_le σ n p)) (⟨_, _, _, sv (by rw [hd, (by omega : p = sP σ)]; exact bP_01 (dk_le σ n)), rfl, (by rw [← (by omega : p = sP σ)]; exact hEv)⟩) rfl
        · have hT := T_le hW (show p < sP σ by omega) hn
          have hun := un_le hW (n := n) (u := u) (show p < sP σ by omega)
          have hsr := hW.R (show p < sP σ by omega) hn
          refine r_aload_n C (i := 0) 3 dX6_goThrough_26 rfl rfl ?_
          refine r_get C 0 11 uX6 rfl rfl (by decide) w_5_72 rfl dX6_goThrough_27 ?_
          refine r_iload C (i := 5) 0 dX6_goThrough_30 rfl ?_
          refine r_aload_n C (i := 1) 4 dX6_goThrough_32 rfl rfl ?_
          refine r_iload_n C (i := 2) 5 dX6_goThrough_33 rfl rfl ?_
          refine r_iload C (i := 5) 0 dX6_goThrough_34 rfl ?_
          refine r_iload C (i := 4) 1 dX6_goThrough_36 rfl ?_
          refine r_readS (rest := [.int (nI p), .ref x11]) C (c_X6_slipFor (r := r) (g := g) (σ := σ) (n := n) (p := p) (u := u) (hR := hR) (hW := hW) (hn := (by omega)) (hp := (by omega)) (hu := (by omega))) lk_X6_slipFor w_5_215 [4] dX6_goThrough_38 rfl rfl rfl ⟨by decide, by decide⟩ (Nat.le_of_ble_eq_true rfl) (st' := [.int (mI (sl σ n p u)), .int (nI p), .ref x11]) rfl ?_
          refine r_iast (j := p) (ws' := [(hM, .inr (6, [.int (nI rf), .ref x1, .int (nI sz), .ref x3, .ref x4, .ref x5, .int (nI ac), .ref x7, .ref x8, .ref x9, .ref x10, .ref x11, .int (nI sp), .int (nI ou)])), (x9, .inl (eI E, 6, .inl u1)), (x10, .inl (eI E, 6, .inl u2)), (x11, .inl (eI E, 6, .inl (upd u3 p (mI (sl σ n p u))))), (r, .inl (eI E, 255, .inl g))]) C 3 rfl (by omega) (by decide) rfl dX6_goThrough_41 ?_
          refine r_aload_n C (i := 1) 4 dX6_goThrough_42 rfl rfl ?_
          refine r_iload_n C (i := 2) 5 dX6_goThrough_43 rfl rfl ?_
          refine r_iload C (i := 5) 0 dX6_goThrough_44 rfl ?_
          refine r_readS (rest := []) C (c_X6_principal (r := r) (g := g) (σ := σ) (n := n) (p := p) (hR := hR) (hW := hW) (hn := (by omega)) (hp := (by omega))) lk_X6_principal w_5_160 [4] dX6_goThrough_46 rfl rfl rfl ⟨by decide, by decide⟩ (Nat.le_of_ble_eq_true rfl) (st' := [.int (mI (sR σ p n))]) rfl ?_
          refine r_istore C (lv' := [(6, .int (mI (sR σ p n))), (5, .int (nI p)), (4, .int (nI u)), (3, .int (nI d)), (0, .ref hM), (1, .ref r), (2, .int (nI n))]) dX6_goThrough_49 (by decide) rfl ?_
          refine r_aload_n C (i := 1) 5 dX6_goThrough_51 rfl rfl ?_
          refine r_iload_n C (i := 2) 6 dX6_goThrough_52 rfl rfl ?_
          refine r_iload C (i := 6) 0 dX6_goThrough_53 rfl ?_
          refine r_iload C (i := 4) 2 dX6_goThrough_55 rfl ?_
          refine r_readS (rest := []) C (c_X6_can__m (r := r) (g := g) (σ := σ) (n := n) (x := sR σ p n) (u := u) (hR := hR) (hW := hW) (hn := (by omega)) (hx := (by omega)) (hu := (by omega))) lk_X6_can w_5_218 [4] dX6_goThrough_57 rfl rfl rfl ⟨by decide, by decide⟩ (Nat.le_of_ble_eq_true rfl) (st' := [.int (bP ((sR σ p n) ≠ 0 ∧ can σ n u ((sR σ p n) - 1)))]) rfl ?_
          refine r_istore C (lv' := [(7, .int (bP ((sR σ p n) ≠ 0 ∧ can σ n u ((sR σ p n) - 1)))), (6, .int (mI (sR σ p n))), (5, .int (nI p)), (4, .int (nI u)), (3, .int (nI d)), (0, .ref hM), (1, .ref r), (2, .int (nI n))]) dX6_goThrough_60 (by decide) rfl ?_
          refine r_aload_n C (i := 1) 6 dX6_goThrough_62 rfl rfl ?_
          refine r_iload_n C (i := 2) 7 dX6_goThrough_63 rfl rfl ?_
          refine r_iload C (i := 5) 2 dX6_goThrough_64 rfl ?_
          refine r_iload C (i := 4) 3 dX6_goThrough_66 rfl ?_
          refine r_readS (rest := []) C (c_X6_understudyFor (r := r) (g := g) (σ := σ) (n := n) (p := p) (u := u) (hR := hR) (hW := hW) (hn := (by omega)) (hp := (by omega)) (hu := (by omega))) lk_X6_understudyFor w_5_224 [4] dX6_goThrough_68 rfl rfl rfl ⟨by decide, by decide⟩ (Nat.le_of_ble_eq_true rfl) (st' := [.int (mI (un σ n p u))]) rfl ?_
          refine r_istore C (lv' := [(8, .int (mI (un σ n p u))), (7, .int (bP ((sR σ p n) ≠ 0 ∧ can σ n u ((sR σ p n) - 1)))), (6, .int (mI (sR σ p n))), (5, .int (nI p)), (4, .int (nI u)), (3, .int (nI d)), (0, .ref hM), (1, .ref r), (2, .int (nI n))]) dX6_goThrough_71 (by decide) rfl ?_
          refine r_aload_n C (i := 0) 6 dX6_goThrough_73 rfl rfl ?_
          refine r_get C 0 9 uX6 rfl rfl (by decide) w_5_70 rfl dX6_goThrough_74 ?_
          refine r_iload C (i := 5) 3 dX6_goThrough_77 rfl ?_
          have join117_5 : ∀ (xx : Int32), (xx = mI (T σ n p)) → ω [(hM, .inr (6, [.int (nI rf), .ref x1, .int (nI sz), .ref x3, .ref x4, .ref x5, .int (nI ac), .ref x7, .ref x8, .ref x9, .ref x10, .ref x11, .int (nI sp), .int (nI ou)])), (x9, .inl (eI E, 6, .inl u1)), (x10, .inl (eI E, 6, .inl u2)), (x11, .inl (eI E, 6, .inl (upd u3 p (mI (sl σ n p u))))), (r, .inl (eI E, 255, .inl g))] [(8, .int (mI (un σ n p u))), (7, .int (bP ((sR σ p n) ≠ 0 ∧ can σ n u ((sR σ p n) - 1)))), (6, .int (mI (sR σ p n))), (5, .int (nI p)), (4, .int (nI u)), (3, .int (nI d)), (0, .ref hM), (1, .ref r), (2, .int (nI n))] [.int xx, .int (nI p), .ref x9] 117 := by
            intro xx hxx
            refine r_iast (j := p) (ws' := [(hM, .inr (6, [.int (nI rf), .ref x1, .int (nI sz), .ref x3, .ref x4, .ref x5, .int (nI ac), .ref x7, .ref x8, .ref x9, .ref x10, .ref x11, .int (nI sp), .int (nI ou)])), (x9, .inl (eI E, 6, .inl (upd u1 p xx))), (x10, .inl (eI E, 6, .inl u2)), (x11, .inl (eI E, 6, .inl (upd u3 p (mI (sl σ n p u))))), (r, .inl (eI E, 255, .inl g))]) C 1 rfl (by omega) (by decide) rfl dX6_goThrough_117 ?_
            refine r_aload_n C (i := 0) 6 dX6_goThrough_118 rfl rfl ?_
            refine r_get C 0 10 uX6 rfl rfl (by decide) w_5_71 rfl dX6_goThrough_119 ?_
            refine r_iload C (i := 5) 3 dX6_goThrough_122 rfl ?_
            have join159_6 : ∀ (yy : Nat), (yy = Wy σ n p) → ω [(hM, .inr (6, [.int (nI rf), .ref x1, .int (nI sz), .ref x3, .ref x4, .ref x5, .int (nI ac), .ref x7, .ref x8, .ref x9, .ref x10, .ref x11, .int (nI sp), .int (nI ou)])), (x9, .inl (eI E, 6, .inl (upd u1 p xx))), (x10, .inl (eI E, 6, .inl u2)), (x11, .inl (eI E, 6, .inl (upd u3 p (mI (sl σ n p u))))), (r, .inl (eI E, 255, .inl g))] [(8, .int (mI (un σ n p u))), (7, .int (bP ((sR σ p n) ≠ 0 ∧ can σ n u ((sR σ p n) - 1)))), (6, .int (mI (sR σ p n))), (5, .int (nI p)), (4, .int (nI u)), (3, .int (nI d)), (0, .ref hM), (1, .ref r), (2, .int (nI n))] [.int (nI yy), .int (nI p), .ref x10] 159 := by
              intro yy hyy
              refine r_iast (j := p) (ws' := [(hM, .inr (6, [.int (nI rf), .ref x1, .int (nI sz), .ref x3, .ref x4, .ref x5, .int (nI ac), .ref x7, .ref x8, .ref x9, .ref x10, .ref x11, .int (nI sp), .int (nI ou)])), (x9, .inl (eI E, 6, .inl (upd u1 p xx))), (x10, .inl (eI E, 6, .inl (upd u2 p (nI yy)))), (x11, .inl (eI E, 6, .inl (upd u3 p (mI (sl σ n p u))))), (r, .inl (eI E, 255, .inl g))]) C 2 rfl (by omega) (by decide) rfl dX6_goThrough_159 ?_
              refine r_iload_n C (i := 3) 5 dX6_goThrough_160 rfl rfl ?_
              refine r_if_ne C (y := 0) (c9 := d ≠ 0) 175 dX6_goThrough_161 (by decide) (z_neN (by omega)) (fun h161_7 => ?_) (fun h161_7 => ?_)
              · refine r_iconst C dX6_goThrough_175 ki_1 ?_
                refine r_goto C 180 dX6_goThrough_176 (by decide) ?_
                refine r_istore_n C (lv' := [(3, .int (nI 1)), (8, .int (mI (un σ n p u))), (7, .int (bP ((sR σ p n) ≠ 0 ∧ can σ n u ((sR σ p n) - 1)))), (6, .int (mI (sR σ p n))), (5, .int (nI p)), (4, .int (nI u)), (0, .ref hM), (1, .ref r), (2, .int (nI n))]) dX6_goThrough_180 rfl (by decide) rfl ?_
                refine r_iload C (i := 4) 5 dX6_goThrough_181 rfl ?_
                refine r_aload_n C (i := 0) 6 dX6_goThrough_183 rfl rfl ?_
                refine r_get C 0 9 uX6 rfl rfl (by decide) w_5_70 rfl dX6_goThrough_184 ?_
                refine r_iload C (i := 5) 4 dX6_goThrough_187 rfl ?_
                refine r_iald (j := p) (v := mI (T σ n p)) C 1 rfl (by omega) (by decide) (pk_us.trans hxx) dX6_goThrough_189 ?_
                refine r_iconst C dX6_goThrough_190 ki_m1 ?_
                refine r_icmp_ne C (c9 := T σ n p ≠ 0) 198 dX6_goThrough_191 (by decide) (c_neMM (by omega) (by omega)) (fun h191_8 => ?_) (fun h191_8 => ?_)
                · refine r_iconst C dX6_goThrough_198 ki_1 ?_
                  refine r_aload_n C (i := 0) 6 dX6_goThrough_199 rfl rfl ?_
                  refine r_get C 0 9 uX6 rfl rfl (by decide) w_5_70 rfl dX6_goThrough_200 ?_
                  refine r_iload C (i := 5) 4 dX6_goThrough_203 rfl ?_
                  refine r_iald (j := p) (v := nI (T σ n p - 1)) C 1 rfl (by omega) (by decide) (pk_us.trans (hxx.trans (by rw [show T σ n p = T σ n p - 1 + 1 from by omega, mI_s, Nat.add_sub_cancel]))) dX6_goThrough_205 ?_
                  refine r_ishl (v := nI (2 ^ (T σ n p - 1))) C dX6_goThrough_206 (v_shl (by omega)) ?_
                  refine r_ior (v := nI (u ||| (2 ^ (T σ n p - 1)))) C dX6_goThrough_207 (v_or _ _) ?_
                  refine r_istore C (lv' := [(4, .int (nI (u ||| (2 ^ (T σ n p - 1))))), (3, .int (nI 1)), (8, .int (mI (un σ n p u))), (7, .int (bP ((sR σ p n) ≠ 0 ∧ can σ n u ((sR σ p n) - 1)))), (6, .int (mI (sR σ p n))), (5, .int (nI p)), (0, .ref hM), (1, .ref r), (2, .int (nI n))]) dX6_goThrough_208 (by decide) rfl ?_
                  refine r_iinc C (lv' := [(5, .int (nI (p + 1))), (4, .int (nI (u ||| (2 ^ (T σ n p - 1))))), (3, .int (nI 1)), (8, .int (mI (un σ n p u))), (7, .int (bP ((sR σ p n) ≠ 0 ∧ can σ n u ((sR σ p n) - 1)))), (6, .int (mI (sR σ p n))), (0, .ref hM), (1, .ref r), (2, .int (nI n))]) (v := nI (p + 1)) 5 dX6_goThrough_210 rfl (v_inc _) (by decide) rfl ?_
                  refine r_goto C 18 dX6_goThrough_213 (by decide) ?_
                  refine r_lv (lv' := [(5, .int (nI (p + 1))), (4, .int (nI (u ||| (2 ^ (T σ n p - 1))))), (3, .int (nI 1)), (0, .ref hM), (1, .ref r), (2, .int (nI n))]) C [0, 1, 2, 6, 7, 8] rfl ?_
                  exact ih3 (p + 1) (u ||| (2 ^ (T σ n p - 1))) 1 (upd u1 p xx) (upd u2 p (nI yy)) (upd u3 p (mI (sl σ n p u))) (by omega) (by omega) (by rw [us_s, if_neg (by omega), ← hu]) (by rw [dkN, if_pos (by omega)]) (by rw [hxx, hyy, ← hBu]; exact EvR_s hEv)
                · refine r_iconst C dX6_goThrough_194 ki_0 ?_
                  refine r_goto C 207 dX6_goThrough_195 (by decide) ?_
                  refine r_ior (v := nI (u ||| 0)) C dX6_goThrough_207 (v_or _ _) ?_
                  refine r_istore C (lv' := [(4, .int (nI (u ||| 0))), (3, .int (nI 1)), (8, .int (mI (un σ n p u))), (7, .int (bP ((sR σ p n) ≠ 0 ∧ can σ n u ((sR σ p n) - 1)))), (6, .int (mI (sR σ p n))), (5, .int (nI p)), (0, .ref hM), (1, .ref r), (2, .int (nI n))]) dX6_goThrough_208 (by decide) rfl ?_
                  refine r_iinc C (lv' := [(5, .int (nI (p + 1))), (4, .int (nI (u ||| 0))), (3, .int (nI 1)), (8, .int (mI (un σ n p u))), (7, .int (bP ((sR σ p n) ≠ 0 ∧ can σ n u ((sR σ p n) - 1)))), (6, .int (mI (sR σ p n))), (0, .ref hM), (1, .ref r), (2, .int (nI n))]) (v := nI (p + 1)) 5 dX6_goThrough_210 rfl (v_inc _) (by decide) rfl ?_
                  refine r_goto C 18 dX6_goThrough_213 (by decide) ?_
                  refine r_lv (lv' := [(5, .int (nI (p + 1))), (4, .int (nI (u ||| 0))), (3, .int (nI 1)), (0, .ref hM), (1, .ref r), (2, .int (nI n))]) C [0, 1, 2, 6, 7, 8] rfl ?_
                  exact ih3 (p + 1) (u ||| 0) 1 (upd u1 p xx) (upd u2 p (nI yy)) (upd u3 p (mI (sl σ n p u))) (by omega) (by omega) (by rw [us_s, if_pos (by omega), Nat.or_zero]; exact hu) (by rw [dkN, if_pos (by omega)]) (by rw [hxx, hyy, ← hBu]; exact EvR_s hEv)
              · refine r_aload_n C (i := 0) 6 dX6_goThrough_164 rfl rfl ?_
                refine r_get C 0 9 uX6 rfl rfl (by decide) w_5_70 rfl dX6_goThrough_165 ?_
                refine r_iload C (i := 5) 3 dX6_goThrough_168 rfl ?_
                refine r_iald (j := p) (v := mI (T σ n p)) C 1 rfl (by omega) (by decide) (pk_us.trans hxx) dX6_goThrough_170 ?_
                refine r_iconst C dX6_goThrough_171 ki_m1 ?_
                refine r_icmp_ne C (c9 := T σ n p ≠ 0) 179 dX6_goThrough_172 (by decide) (c_neMM (by omega) (by omega)) (fun h172_9 => ?_) (fun h172_9 => ?_)
                · refine r_iconst C dX6_goThrough_179 ki_0 ?_
                  refine r_istore_n C (lv' := [(3, .int (nI 0)), (8, .int (mI (un σ n p u))), (7, .int (bP ((sR σ p n) ≠ 0 ∧ can σ n u ((sR σ p n) - 1)))), (6, .int (mI (sR σ p n))), (5, .int (nI p)), (4, .int (nI u)), (0, .ref hM), (1, .ref r), (2, .int (nI n))]) dX6_goThrough_180 rfl (by decide) rfl ?_
                  refine r_iload C (i := 4) 5 dX6_goThrough_181 rfl ?_
                  refine r_aload_n C (i := 0) 6 dX6_goThrough_183 rfl rfl ?_
                  refine r_get C 0 9 uX6 rfl rfl (by decide) w_5_70 rfl dX6_goThrough_184 ?_
                  refine r_iload C (i := 5) 4 dX6_goThrough_187 rfl ?_
                  refine r_iald (j := p) (v := mI (T σ n p)) C 1 rfl (by omega) (by decide) (pk_us.trans hxx) dX6_goThrough_189 ?_
                  refine r_iconst C dX6_goThrough_190 ki_m1 ?_
                  refine r_icmp_neT C 198 dX6_goThrough_191 (by decide) ((c_neMM (by omega) (by omega)).mpr h172_9) ?_
                  refine r_iconst C dX6_goThrough_198 ki_1 ?_
                  refine r_aload_n C (i := 0) 6 dX6_goThrough_199 rfl rfl ?_
                  refine r_get C 0 9 uX6 rfl rfl (by decide) w_5_70 rfl dX6_goThrough_200 ?_
                  refine r_iload C (i := 5) 4 dX6_goThrough_203 rfl ?_
                  refine r_iald (j := p) (v := nI (T σ n p - 1)) C 1 rfl (by omega) (by decide) (pk_us.trans (hxx.trans (by rw [show T σ n p = T σ n p - 1 + 1 from by omega, mI_s, Nat.add_sub_cancel]))) dX6_goThrough_205 ?_
                  refine r_ishl (v := nI (2 ^ (T σ n p - 1))) C dX6_goThrough_206 (v_shl (by omega)) ?_
                  refine r_ior (v := nI (u ||| (2 ^ (T σ n p - 1)))) C dX6_goThrough_207 (v_or _ _) ?_
                  refine r_istore C (lv' := [(4, .int (nI (u ||| (2 ^ (T σ n p - 1))))), (3, .int (nI 0)), (8, .int (mI (un σ n p u))), (7, .int (bP ((sR σ p n) ≠ 0 ∧ can σ n u ((sR σ p n) - 1)))), (6, .int (mI (sR σ p n))), (5, .int (nI p)), (0, .ref hM), (1, .ref r), (2, .int (nI n))]) dX6_goThrough_208 (by decide) rfl ?_
                  refine r_iinc C (lv' := [(5, .int (nI (p + 1))), (4, .int (nI (u ||| (2 ^ (T σ n p - 1))))), (3, .int (nI 0)), (8, .int (mI (un σ n p u))), (7, .int (bP ((sR σ p n) ≠ 0 ∧ can σ n u ((sR σ p n) - 1)))), (6, .int (mI (sR σ p n))), (0, .ref hM), (1, .ref r), (2, .int (nI n))]) (v := nI (p + 1)) 5 dX6_goThrough_210 rfl (v_inc _) (by decide) rfl ?_
                  refine r_goto C 18 dX6_goThrough_213 (by decide) ?_
                  refine r_lv (lv' := [(5, .int (nI (p + 1))), (4, .int (nI (u ||| (2 ^ (T σ n p - 1))))), (3, .int (nI 0)), (0, .ref hM), (1, .ref r), (2, .int (nI n))]) C [0, 1, 2, 6, 7, 8] rfl ?_
                  exact ih3 (p + 1) (u ||| (2 ^ (T σ n p - 1))) 0 (upd u1 p xx) (upd u2 p (nI yy)) (upd u3 p (mI (sl σ n p u))) (by omega) (by omega) (by rw [us_s, if_neg (by omega), ← hu]) (by rw [dkN, if_neg (by omega)]) (by rw [hxx, hyy, ← hBu]; exact EvR_s hEv)
                · refine r_iconst C dX6_goThrough_175 ki_1 ?_
                  refine r_goto C 180 dX6_goThrough_176 (by decide) ?_
                  refine r_istore_n C (lv' := [(3, .int (nI 1)), (8, .int (mI (un σ n p u))), (7, .int (bP ((sR σ p n) ≠ 0 ∧ can σ n u ((sR σ p n) - 1)))), (6, .int (mI (sR σ p n))), (5, .int (nI p)), (4, .int (nI u)), (0, .ref hM), (1, .ref r), (2, .int (nI n))]) dX6_goThrough_180 rfl (by decide) rfl ?_
                  refine r_iload C (i := 4) 5 dX6_goThrough_181 rfl ?_
                  refine r_aload_n C (i := 0) 6 dX6_goThrough_183 rfl rfl ?_
                  refine r_get C 0 9 uX6 rfl rfl (by decide) w_5_70 rfl dX6_goThrough_184 ?_
                  refine r_iload C (i := 5) 4 dX6_goThrough_187 rfl ?_
                  refine r_iald (j := p) (v := mI (T σ n p)) C 1 rfl (by omega) (by decide) (pk_us.trans hxx) dX6_goThrough_189 ?_
                  refine r_iconst C dX6_goThrough_190 ki_m1 ?_
                  refine r_icmp_neF C (tgt := 198) dX6_goThrough_191 (by decide) (fun z => (h172_9 : ¬ (T σ n p ≠ 0)) ((c_neMM (by omega) (by omega)).mp z)) ?_
                  refine r_iconst C dX6_goThrough_194 ki_0 ?_
                  refine r_goto C 207 dX6_goThrough_195 (by decide) ?_
                  refine r_ior (v := nI (u ||| 0)) C dX6_goThrough_207 (v_or _ _) ?_
                  refine r_istore C (lv' := [(4, .int (nI (u ||| 0))), (3, .int (nI 1)), (8, .int (mI (un σ n p u))), (7, .int (bP ((sR σ p n) ≠ 0 ∧ can σ n u ((sR σ p n) - 1)))), (6, .int (mI (sR σ p n))), (5, .int (nI p)), (0, .ref hM), (1, .ref r), (2, .int (nI n))]) dX6_goThrough_208 (by decide) rfl ?_
                  refine r_iinc C (lv' := [(5, .int (nI (p + 1))), (4, .int (nI (u ||| 0))), (3, .int (nI 1)), (8, .int (mI (un σ n p u))), (7, .int (bP ((sR σ p n) ≠ 0 ∧ can σ n u ((sR σ p n) - 1)))), (6, .int (mI (sR σ p n))), (0, .ref hM), (1, .ref r), (2, .int (nI n))]) (v := nI (p + 1)) 5 dX6_goThrough_210 rfl (v_inc _) (by decide) rfl ?_
                  refine r_goto C 18 dX6_goThrough_213 (by decide) ?_
                  refine r_lv (lv' := [(5, .int (nI (p + 1))), (4, .int (nI (u ||| 0))), (3, .int (nI 1)), (0, .ref hM), (1, .ref r), (2, .int (nI n))]) C [0, 1, 2, 6, 7, 8] rfl ?_
                  exact ih3 (p + 1) (u ||| 0) 1 (upd u1 p xx) (upd u2 p (nI yy)) (upd u3 p (mI (sl σ n p u))) (by omega) (by omega) (by rw [us_s, if_pos (by omega), Nat.or_zero]; exact hu) (by rw [dkN, if_pos (by omega)]) (by rw [hxx, hyy, ← hBu]; exact EvR_s hEv)
            refine r_aload_n C (i := 0) 6 dX6_goThrough_124 rfl rfl ?_
            refine r_get C 0 11 uX6 rfl rfl (by decide) w_5_72 rfl dX6_goThrough_125 ?_
            refine r_iload C (i := 5) 3 dX6_goThrough_128 rfl ?_
            refine r_iald (j := p) (v := mI (sl σ n p u)) C 3 rfl (by omega) (by decide) pk_us dX6_goThrough_130 ?_
            refine r_iconst C dX6_goThrough_131 ki_m1 ?_
            refine r_icmp_eq C (c9 := sl σ n p u = 0) 139 dX6_goThrough_132 (by decide) (c_eqMM (by omega) (by omega)) (fun h132_10 => ?_) (fun h132_10 => ?_)
            · refine r_iload C (i := 7) 1 dX6_goThrough_139 rfl ?_
              refine r_if_eq C (y := 0) (c9 := ¬ ((sR σ p n) ≠ 0 ∧ can σ n u ((sR σ p n) - 1))) 148 dX6_goThrough_141 (by decide) z_eqB (fun h141_11 => ?_) (fun h141_11 => ?_)
              · refine r_iload C (i := 8) 0 dX6_goThrough_148 rfl ?_
                refine r_iconst C dX6_goThrough_150 ki_m1 ?_
                refine r_icmp_eq C (c9 := un σ n p u = 0) 158 dX6_goThrough_151 (by decide) (c_eqMM (by omega) (by omega)) (fun h151_12 => ?_) (fun h151_12 => ?_)
                · refine r_iconst C dX6_goThrough_158 ki_0 ?_
                  exact join159_6 0 (by rw [hWu, (tk_un (by omega) h141_11).2, if_neg (by omega)])
                · refine r_iconst C dX6_goThrough_154 ki_3 ?_
                  refine r_goto C 159 dX6_goThrough_155 (by decide) ?_
                  exact join159_6 3 (by rw [hWu, (tk_un (by omega) h141_11).2, if_pos (by omega)])
              · replace h141_11 : (sR σ p n) ≠ 0 ∧ can σ n u ((sR σ p n) - 1) := Decidable.not_not.mp h141_11
                refine r_iconst C dX6_goThrough_144 ki_2 ?_
                refine r_goto C 159 dX6_goThrough_145 (by decide) ?_
                exact join159_6 2 (by rw [hWu, (tk_own (by omega) h141_11).2])
            · refine r_iconst C dX6_goThrough_135 ki_1 ?_
              refine r_goto C 159 dX6_goThrough_136 (by decide) ?_
              exact join159_6 1 (by rw [hWu, (tk_slip (show sl σ n p u = sl σ n p u - 1 + 1 by omega)).2])
          refine r_aload_n C (i := 0) 6 dX6_goThrough_79 rfl rfl ?_
          refine r_get C 0 11 uX6 rfl rfl (by decide) w_5_72 rfl dX6_goThrough_80 ?_
          refine r_iload C (i := 5) 3 dX6_goThrough_83 rfl ?_
          refine r_iald (j := p) (v := mI (sl σ n p u)) C 3 rfl (by omega) (by decide) pk_us dX6_goThrough_85 ?_
          refine r_iconst C dX6_goThrough_86 ki_m1 ?_
          refine r_icmp_eq C (c9 := sl σ n p u = 0) 105 dX6_goThrough_87 (by decide) (c_eqMM (by omega) (by omega)) (fun h87_13 => ?_) (fun h87_13 => ?_)
          · refine r_iload C (i := 7) 1 dX6_goThrough_105 rfl ?_
            refine r_if_eq C (y := 0) (c9 := ¬ ((sR σ p n) ≠ 0 ∧ can σ n u ((sR σ p n) - 1))) 115 dX6_goThrough_107 (by decide) z_eqB (fun h107_14 => ?_) (fun h107_14 => ?_)
            · refine r_iload C (i := 8) 0 dX6_goThrough_115 rfl ?_
              exact join117_5 (mI (un σ n p u)) (by rw [hTu, (tk_un (by omega) h107_14).1])
            · replace h107_14 : (sR σ p n) ≠ 0 ∧ can σ n u ((sR σ p n) - 1) := Decidable.not_not.mp h107_14
              refine r_iload C (i := 6) 2 dX6_goThrough_110 rfl ?_
              refine r_goto C 117 dX6_goThrough_112 (by decide) ?_
              exact join117_5 (mI (sR σ p n)) (by rw [hTu, (tk_own (by omega) h107_14).1])
          · obtain ⟨k, hk⟩ : ∃ k, sl σ n p u = k + 1 := ⟨sl σ n p u - 1, by omega⟩
            have hlk := hW.L (show k < sS σ by omega)
            refine r_aload_n C (i := 1) 7 dX6_goThrough_90 rfl rfl ?_
            refine r_aload_n C (i := 0) 6 dX6_goThrough_91 rfl rfl ?_
            refine r_get C 0 11 uX6 rfl rfl (by decide) w_5_72 rfl dX6_goThrough_92 ?_
            refine r_iload C (i := 5) 3 dX6_goThrough_95 rfl ?_
            refine r_iald (j := p) (v := nI k) C 3 rfl (by omega) (by decide) (pk_us.trans (by rw [hk, mI_s])) dX6_goThrough_97 ?_
            refine r_iconst C dX6_goThrough_98 ki_2 ?_
            refine r_readS (rest := [.int (nI p), .ref x9]) C (c_X6_slipOf (r := r) (g := g) (σ := σ) (k := k) (j := 2) (hR := hR) (hW := hW) (hk := (by omega)) (hj := (by omega))) lk_X6_slipOf w_5_208 [4] dX6_goThrough_99 rfl rfl rfl ⟨by decide, by decide⟩ (Nat.le_of_ble_eq_true rfl) (st' := [.int (nI (sL σ k 2)), .int (nI p), .ref x9]) rfl ?_
            refine r_goto C 117 dX6_goThrough_102 (by decide) ?_
            exact join117_5 (nI (sL σ k 2)) (by rw [hTu, (tk_slip hk).1, mI_s])
    exact loop18_2 _ 0 0 d0 t1 t2 t3 (Nat.lt_succ_self _) (by omega) rfl hd0 (EvR_0 σ n _ _ _)
  refine r_aload_n C (i := 1) 1 dX6_goThrough_0 rfl rfl ?_
  refine r_iconst C dX6_goThrough_1 ki_0 ?_
  refine r_iald (j := 0) (v := nI (sP σ)) C 4 rfl (by omega) (by decide) hR.P dX6_goThrough_2 ?_
  refine r_if_ne C (y := 0) (c9 := sP σ ≠ 0) 10 dX6_goThrough_3 (by decide) (z_neN (by omega)) (fun h3_15 => ?_) (fun h3_15 => ?_)
  · refine r_iconst C dX6_goThrough_10 ki_0 ?_
    exact join11_1 0 ((if_neg h3_15).symm)
  · refine r_iconst C dX6_goThrough_6 ki_1 ?_
    refine r_goto C 11 dX6_goThrough_7 (by decide) ?_
    exact join11_1 1 ((if_pos (by omega)).symm)
set_option maxRecDepth 100000 in
set_option maxHeartbeats 1000000 in
theorem c_X6_takings {l : Launch} {E : Ev} {hM rf x1 sz x3 x4 x5 ac x7 x8 x9 x10 x11 sp ou : Nat} {t1 t2 t3 : Nat → Int32} {r : Nat} {g : Nat → Int32} {σ : Sg} (hR : RepM σ g) (hW : Wf σ) {n : Nat} (hn : n < 20) : Ct l E yX6_takings cX6_takings 5 (some FieldType.int) 4 99 [.ref hM, .ref r, .int (nI n)] [(hM, .inr (6, [.int (nI rf), .ref x1, .int (nI sz), .ref x3, .ref x4, .ref x5, .int (nI ac), .ref x7, .ref x8, .ref x9, .ref x10, .ref x11, .int (nI sp), .int (nI ou)])), (x9, .inl (eI E, 6, .inl t1)), (x10, .inl (eI E, 6, .inl t2)), (x11, .inl (eI E, 6, .inl t3)), (r, .inl (eI E, 255, .inl g))] (fun v9 w9 => ∃ ta tb tc : Nat → Int32, v9 = some (.int (nI (tak σ n))) ∧ w9 = [(hM, .inr (6, [.int (nI rf), .ref x1, .int (nI sz), .ref x3, .ref x4, .ref x5, .int (nI ac), .ref x7, .ref x8, .ref x9, .ref x10, .ref x11, .int (nI sp), .int (nI ou)])), (x9, .inl (eI E, 6, .inl ta)), (x10, .inl (eI E, 6, .inl tb)), (x11, .inl (eI E, 6, .inl tc)), (r, .inl (eI E, 255, .inl g))]) := by
  have hwP := hW.P
  have hwA := hW.A
  have hwS := hW.S
  have hO0 := hW.O0
  have hO1 := hW.O1
  refine ct_of (by decide +kernel) (Nat.le_of_ble_eq_true rfl) (fun ω C RT => ?_)
  show ω [(hM, .inr (6, [.int (nI rf), .ref x1, .int (nI sz), .ref x3, .ref x4, .ref x5, .int (nI ac), .ref x7, .ref x8, .ref x9, .ref x10, .ref x11, .int (nI sp), .int (nI ou)])), (x9, .inl (eI E, 6, .inl t1)), (x10, .inl (eI E, 6, .inl t2)), (x11, .inl (eI E, 6, .inl t3)), (r, .inl (eI E, 255, .inl g))] [(0, .ref hM), (1, .ref r), (2, .int (nI n))] [] 0
  refine r_aload_n C (i := 0) 0 dX6_takings_0 rfl rfl ?_
  refine r_aload_n C (i := 1) 1 dX6_takings_1 rfl rfl ?_
  refine r_iload_n C (i := 2) 2 dX6_takings_2 rfl rfl ?_
  refine r_callV (rest := []) C (c_X6_goThrough (hM := hM) (rf := rf) (x1 := x1) (sz := sz) (x3 := x3) (x4 := x4) (x5 := x5) (ac := ac) (x7 := x7) (x8 := x8) (x9 := x9) (x10 := x10) (x11 := x11) (sp := sp) (ou := ou) (t1 := t1) (t2 := t2) (t3 := t3) (r := r) (g := g) (σ := σ) (n := n) (hR := hR) (hW := hW) (hn := (by omega))) lk_X6_goThrough w_5_211 [0, 1, 2, 3, 4] rfl dX6_takings_3 rfl rfl rfl rfl ⟨by decide, by decide⟩ (Nat.le_of_ble_eq_true rfl) ?_
  rintro _ _ ⟨ta_1, tb_2, tc_3, rfl, rfl, hEv_4⟩
  show ω [(hM, .inr (6, [.int (nI rf), .ref x1, .int (nI sz), .ref x3, .ref x4, .ref x5, .int (nI ac), .ref x7, .ref x8, .ref x9, .ref x10, .ref x11, .int (nI sp), .int (nI ou)])), (x9, .inl (eI E, 6, .inl ta_1)), (x10, .inl (eI E, 6, .inl tb_2)), (x11, .inl (eI E, 6, .inl tc_3)), (r, .inl (eI E, 255, .inl g))] [(0, .ref hM), (1, .ref r), (2, .int (nI n))] [.int (bP (dk σ n = 1))] 6
  refine r_if_eq C (y := 0) (c9 := ¬ (dk σ n = 1)) 11 dX6_takings_6 (by decide) z_eqB (fun h6_5 => ?_) (fun h6_5 => ?_)
  · have hd0 : dk σ n = 0 := by have := dk_le σ n; omega
    have hTp := (dk_iff.mp hd0).2
    refine r_aload_n C (i := 1) 1 dX6_takings_11 rfl rfl ?_
    refine r_iconst C dX6_takings_12 ki_3 ?_
    refine r_iald (j := 3) (v := nI (sO σ 0)) C 4 rfl (by omega) (by decide) (hR.O (i := 0) (by decide)) dX6_takings_13 ?_
    refine r_istore_n C (lv' := [(3, .int (nI (sO σ 0))), (0, .ref hM), (1, .ref r), (2, .int (nI n))]) dX6_takings_14 rfl (by decide) rfl ?_
    refine r_iconst C dX6_takings_15 ki_0 ?_
    refine r_istore C (lv' := [(4, .int (nI 0)), (3, .int (nI (sO σ 0))), (0, .ref hM), (1, .ref r), (2, .int (nI n))]) dX6_takings_16 (by decide) rfl ?_
    have loop18_6 : ∀ (dd9 : Nat) (p : Nat) (m : Nat), sP σ - p < dd9 → (p ≤ sP σ) → (m = sO σ 0 + sO σ 1 * fam σ n p) → ω [(hM, .inr (6, [.int (nI rf), .ref x1, .int (nI sz), .ref x3, .ref x4, .ref x5, .int (nI ac), .ref x7, .ref x8, .ref x9, .ref x10, .ref x11, .int (nI sp), .int (nI ou)])), (x9, .inl (eI E, 6, .inl ta_1)), (x10, .inl (eI E, 6, .inl tb_2)), (x11, .inl (eI E, 6, .inl tc_3)), (r, .inl (eI E, 255, .inl g))] [(4, .int (nI p)), (3, .int (nI m)), (0, .ref hM), (1, .ref r), (2, .int (nI n))] [] 18 := by
      intro dd9
      induction dd9 with
      | zero => intro p m hd; exact absurd hd (Nat.not_lt_zero _)
      | succ dd9 ih7 =>
        intro p m hd hp hm
        have hfl := fam_le hW hn hp
        have hml : sO σ 1 * fam σ n p ≤ 9 * 54 := Nat.mul_le_mul hO1 (by omega)
        refine r_iload C (i := 4) 0 dX6_takings_18 rfl ?_
        refine r_aload_n C (i := 1) 3 dX6_takings_20 rfl rfl ?_
        refine r_iconst C dX6_takings_21 ki_0 ?_
        refine r_iald (j := 0) (v := nI (sP σ)) C 4 rfl (by omega) (by decide) hR.P dX6_takings_22 ?_
        refine r_icmp_ge C (c9 := sP σ ≤ p) 50 dX6_takings_23 (by decide) (c_leNN (by omega) (by omega)) (fun h23_8 => ?_) (fun h23_8 => ?_)
        · refine r_iload_n C (i := 3) 1 dX6_takings_50 rfl rfl ?_
          exact RT.1 _ _ _ _ _ dX6_takings_51 rfl rfl (⟨_, _, _, sv (congrArg nI (by rw [tak, if_neg (by omega), hm, (by omega : p = sP σ)])), rfl⟩) rfl
        · have hT0 := hTp p (by omega)
          have hTl := T_le hW (show p < sP σ by omega) hn
          have hF9 := hW.F (show T σ n p - 1 < sA σ by omega)
          have hmf : sO σ 1 * sF σ (T σ n p - 1) ≤ 9 * 9 := Nat.mul_le_mul hO1 hF9
          refine r_iload_n C (i := 3) 1 dX6_takings_26 rfl rfl ?_
          refine r_aload_n C (i := 1) 3 dX6_takings_27 rfl rfl ?_
          refine r_iconst C dX6_takings_28 ki_4 ?_
          refine r_iald (j := 4) (v := nI (sO σ 1)) C 4 rfl (by omega) (by decide) (hR.O (i := 1) (by decide)) dX6_takings_29 ?_
          refine r_aload_n C (i := 1) 3 dX6_takings_30 rfl rfl ?_
          refine r_iconst C dX6_takings_31 ki_5 ?_
          refine r_aload_n C (i := 0) 2 dX6_takings_32 rfl rfl ?_
          refine r_get C 0 9 uX6 rfl rfl (by decide) w_5_70 rfl dX6_takings_33 ?_
          refine r_iload C (i := 4) 0 dX6_takings_36 rfl ?_
          refine r_iald (j := p) (v := nI (T σ n p - 1)) C 1 rfl (by omega) (by decide) ((hEv_4 p (by omega)).1.trans (by rw [show T σ n p = T σ n p - 1 + 1 from by omega, mI_s, Nat.add_sub_cancel])) dX6_takings_38 ?_
          refine r_iadd (v := nI (5 + (T σ n p - 1))) C dX6_takings_39 (nI_add _ _) ?_
          refine r_iald (j := 5 + (T σ n p - 1)) (v := nI (sF σ (T σ n p - 1))) C 4 rfl (by omega) (by decide) (hR.F (by omega)) dX6_takings_40 ?_
          refine r_imul (v := nI ((sO σ 1) * (sF σ (T σ n p - 1)))) C dX6_takings_41 (pk_mul _ _) ?_
          refine r_iadd (v := nI (m + ((sO σ 1) * (sF σ (T σ n p - 1))))) C dX6_takings_42 (nI_add _ _) ?_
          refine r_istore_n C (lv' := [(3, .int (nI (m + ((sO σ 1) * (sF σ (T σ n p - 1)))))), (4, .int (nI p)), (0, .ref hM), (1, .ref r), (2, .int (nI n))]) dX6_takings_43 rfl (by decide) rfl ?_
          refine r_iinc C (lv' := [(4, .int (nI (p + 1))), (3, .int (nI (m + ((sO σ 1) * (sF σ (T σ n p - 1)))))), (0, .ref hM), (1, .ref r), (2, .int (nI n))]) (v := nI (p + 1)) 1 dX6_takings_44 rfl (v_inc _) (by decide) rfl ?_
          refine r_goto C 18 dX6_takings_47 (by decide) ?_
          exact ih7 (p + 1) (m + ((sO σ 1) * (sF σ (T σ n p - 1)))) (by omega) (by omega) (by rw [fam, hm, Nat.mul_add, sFm, if_neg (by omega), Nat.add_assoc])
    exact loop18_6 _ 0 (sO σ 0) (Nat.lt_succ_self _) (by omega) (by rw [fam, Nat.mul_zero, Nat.add_zero])
  · replace h6_5 : dk σ n = 1 := Decidable.not_not.mp h6_5
    refine r_iconst C dX6_takings_9 ki_0 ?_
    exact RT.1 _ _ _ _ _ dX6_takings_10 rfl rfl (⟨_, _, _, sv (congrArg nI (by rw [tak, if_pos (by omega)])), rfl⟩) rfl
set_option maxRecDepth 100000 in
set_option maxHeartbeats 1000000 in
theorem c_X6_dark {l : Launch} {E : Ev} {hM rf x1 sz x3 x4 x5 ac x7 x8 x9 x10 x11 sp ou : Nat} {t1 t2 t3 : Nat → Int32} {r : Nat} {g : Nat → Int32} {σ : Sg} (hR : RepM σ g) (hW : Wf σ) : Ct l E yX6_dark cX6_dark 4 (some FieldType.int) 4 99 [.ref hM, .ref r] [(hM, .inr (6, [.int (nI rf), .ref x1, .int (nI sz), .ref x3, .ref x4, .ref x5, .int (nI ac), .ref x7, .ref x8, .ref x9, .ref x10, .ref x11, .int (nI sp), .int (nI ou)])), (x9, .inl (eI E, 6, .inl t1)), (x10, .inl (eI E, 6, .inl t2)), (x11, .inl (eI E, 6, .inl t3)), (r, .inl (eI E, 255, .inl g))] (fun v9 w9 => ∃ ta tb tc : Nat → Int32, v9 = some (.int (nI (dkS σ 20))) ∧ w9 = [(hM, .inr (6, [.int (nI rf), .ref x1, .int (nI sz), .ref x3, .ref x4, .ref x5, .int (nI ac), .ref x7, .ref x8, .ref x9, .ref x10, .ref x11, .int (nI sp), .int (nI ou)])), (x9, .inl (eI E, 6, .inl ta)), (x10, .inl (eI E, 6, .inl tb)), (x11, .inl (eI E, 6, .inl tc)), (r, .inl (eI E, 255, .inl g))]) := by
  have hwP := hW.P
  have hwA := hW.A
  have hwS := hW.S
  refine ct_of (by decide +kernel) (Nat.le_of_ble_eq_true rfl) (fun ω C RT => ?_)
  show ω [(hM, .inr (6, [.int (nI rf), .ref x1, .int (nI sz), .ref x3, .ref x4, .ref x5, .int (nI ac), .ref x7, .ref x8, .ref x9, .ref x10, .ref x11, .int (nI sp), .int (nI ou)])), (x9, .inl (eI E, 6, .inl t1)), (x10, .inl (eI E, 6, .inl t2)), (x11, .inl (eI E, 6, .inl t3)), (r, .inl (eI E, 255, .inl g))] [(0, .ref hM), (1, .ref r)] [] 0
  refine r_iconst C dX6_dark_0 ki_0 ?_
  refine r_istore_n C (lv' := [(2, .int (nI 0)), (0, .ref hM), (1, .ref r)]) dX6_dark_1 rfl (by decide) rfl ?_
  refine r_iconst C dX6_dark_2 ki_0 ?_
  refine r_istore_n C (lv' := [(3, .int (nI 0)), (2, .int (nI 0)), (0, .ref hM), (1, .ref r)]) dX6_dark_3 rfl (by decide) rfl ?_
  have loop4_1 : ∀ (dd9 : Nat) (n : Nat) (m : Nat) (s1 : Nat → Int32) (s2 : Nat → Int32) (s3 : Nat → Int32), 20 - n < dd9 → (n ≤ 20) → (m = dkS σ n) → ω [(hM, .inr (6, [.int (nI rf), .ref x1, .int (nI sz), .ref x3, .ref x4, .ref x5, .int (nI ac), .ref x7, .ref x8, .ref x9, .ref x10, .ref x11, .int (nI sp), .int (nI ou)])), (x9, .inl (eI E, 6, .inl s1)), (x10, .inl (eI E, 6, .inl s2)), (x11, .inl (eI E, 6, .inl s3)), (r, .inl (eI E, 255, .inl g))] [(3, .int (nI n)), (2, .int (nI m)), (0, .ref hM), (1, .ref r)] [] 4 := by
    intro dd9
    induction dd9 with
    | zero => intro n m s1 s2 s3 hd; exact absurd hd (Nat.not_lt_zero _)
    | succ dd9 ih2 =>
      intro n m s1 s2 s3 hd hn hm
      have hl := dkS_le σ n
      refine r_iload_n C (i := 3) 0 dX6_dark_4 rfl rfl ?_
      refine r_bipush C dX6_dark_5 kb_20 ?_
      refine r_icmp_ge C (c9 := 20 ≤ n) 33 dX6_dark_7 (by decide) (c_leNN (by omega) (by omega)) (fun h7_3 => ?_) (fun h7_3 => ?_)
      · refine r_iload_n C (i := 2) 1 dX6_dark_33 rfl rfl ?_
        exact RT.1 _ _ _ _ _ dX6_dark_34 rfl rfl (⟨_, _, _, sv (congrArg nI (by rw [hm, (by omega : n = 20)])), rfl⟩) rfl
      · refine r_iload_n C (i := 2) 1 dX6_dark_10 rfl rfl ?_
        refine r_aload_n C (i := 0) 2 dX6_dark_11 rfl rfl ?_
        refine r_aload_n C (i := 1) 3 dX6_dark_12 rfl rfl ?_
        refine r_iload_n C (i := 3) 0 dX6_dark_13 rfl rfl ?_
        refine r_callV (rest := [.int (nI m)]) C (c_X6_goThrough (hM := hM) (rf := rf) (x1 := x1) (sz := sz) (x3 := x3) (x4 := x4) (x5 := x5) (ac := ac) (x7 := x7) (x8 := x8) (x9 := x9) (x10 := x10) (x11 := x11) (sp := sp) (ou := ou) (t1 := s1) (t2 := s2) (t3 := s3) (r := r) (g := g) (σ := σ) (n := n) (hR := hR) (hW := hW) (hn := (by omega))) lk_X6_goThrough w_5_211 [0, 1, 2, 3, 4] rfl dX6_dark_14 rfl rfl rfl rfl ⟨by decide, by decide⟩ (Nat.le_of_ble_eq_true rfl) ?_
        rintro _ _ ⟨ta_4, tb_5, tc_6, rfl, rfl, hEv_7⟩
        show ω [(hM, .inr (6, [.int (nI rf), .ref x1, .int (nI sz), .ref x3, .ref x4, .ref x5, .int (nI ac), .ref x7, .ref x8, .ref x9, .ref x10, .ref x11, .int (nI sp), .int (nI ou)])), (x9, .inl (eI E, 6, .inl ta_4)), (x10, .inl (eI E, 6, .inl tb_5)), (x11, .inl (eI E, 6, .inl tc_6)), (r, .inl (eI E, 255, .inl g))] [(3, .int (nI n)), (2, .int (nI m)), (0, .ref hM), (1, .ref r)] [.int (bP (dk σ n = 1)), .int (nI m)] 17
        refine r_if_eq C (y := 0) (c9 := ¬ (dk σ n = 1)) 24 dX6_dark_17 (by decide) z_eqB (fun h17_8 => ?_) (fun h17_8 => ?_)
        · refine r_iconst C dX6_dark_24 ki_0 ?_
          refine r_iadd (v := nI (m + 0)) C dX6_dark_25 (nI_add _ _) ?_
          refine r_istore_n C (lv' := [(2, .int (nI (m + 0))), (3, .int (nI n)), (0, .ref hM), (1, .ref r)]) dX6_dark_26 rfl (by decide) rfl ?_
          refine r_iinc C (lv' := [(3, .int (nI (n + 1))), (2, .int (nI (m + 0))), (0, .ref hM), (1, .ref r)]) (v := nI (n + 1)) 1 dX6_dark_27 rfl (v_inc _) (by decide) rfl ?_
          refine r_goto C 4 dX6_dark_30 (by decide) ?_
          exact ih2 (n + 1) (m + 0) ta_4 tb_5 tc_6 (by omega) (by omega) (by rw [dkS, hm]; have := dk_le σ n; omega)
        · replace h17_8 : dk σ n = 1 := Decidable.not_not.mp h17_8
          refine r_iconst C dX6_dark_20 ki_1 ?_
          refine r_goto C 25 dX6_dark_21 (by decide) ?_
          refine r_iadd (v := nI (m + 1)) C dX6_dark_25 (nI_add _ _) ?_
          refine r_istore_n C (lv' := [(2, .int (nI (m + 1))), (3, .int (nI n)), (0, .ref hM), (1, .ref r)]) dX6_dark_26 rfl (by decide) rfl ?_
          refine r_iinc C (lv' := [(3, .int (nI (n + 1))), (2, .int (nI (m + 1))), (0, .ref hM), (1, .ref r)]) (v := nI (n + 1)) 1 dX6_dark_27 rfl (v_inc _) (by decide) rfl ?_
          refine r_goto C 4 dX6_dark_30 (by decide) ?_
          exact ih2 (n + 1) (m + 1) ta_4 tb_5 tc_6 (by omega) (by omega) (by rw [dkS, hm]; have := dk_le σ n; omega)
  exact loop4_1 _ 0 0 t1 t2 t3 (Nat.lt_succ_self _) (by omega) rfl
set_option maxRecDepth 100000 in
set_option maxHeartbeats 1000000 in
theorem c_X6_allTakings {l : Launch} {E : Ev} {hM rf x1 sz x3 x4 x5 ac x7 x8 x9 x10 x11 sp ou : Nat} {t1 t2 t3 : Nat → Int32} {r : Nat} {g : Nat → Int32} {σ : Sg} (hR : RepM σ g) (hW : Wf σ) : Ct l E yX6_allTakings cX6_allTakings 4 (some FieldType.int) 5 123 [.ref hM, .ref r] [(hM, .inr (6, [.int (nI rf), .ref x1, .int (nI sz), .ref x3, .ref x4, .ref x5, .int (nI ac), .ref x7, .ref x8, .ref x9, .ref x10, .ref x11, .int (nI sp), .int (nI ou)])), (x9, .inl (eI E, 6, .inl t1)), (x10, .inl (eI E, 6, .inl t2)), (x11, .inl (eI E, 6, .inl t3)), (r, .inl (eI E, 255, .inl g))] (fun v9 w9 => ∃ ta tb tc : Nat → Int32, v9 = some (.int (nI (tkS σ 20))) ∧ w9 = [(hM, .inr (6, [.int (nI rf), .ref x1, .int (nI sz), .ref x3, .ref x4, .ref x5, .int (nI ac), .ref x7, .ref x8, .ref x9, .ref x10, .ref x11, .int (nI sp), .int (nI ou)])), (x9, .inl (eI E, 6, .inl ta)), (x10, .inl (eI E, 6, .inl tb)), (x11, .inl (eI E, 6, .inl tc)), (r, .inl (eI E, 255, .inl g))]) := by
  have hwP := hW.P
  have hwA := hW.A
  have hwS := hW.S
  refine ct_of (by decide +kernel) (Nat.le_of_ble_eq_true rfl) (fun ω C RT => ?_)
  show ω [(hM, .inr (6, [.int (nI rf), .ref x1, .int (nI sz), .ref x3, .ref x4, .ref x5, .int (nI ac), .ref x7, .ref x8, .ref x9, .ref x10, .ref x11, .int (nI sp), .int (nI ou)])), (x9, .inl (eI E, 6, .inl t1)), (x10, .inl (eI E, 6, .inl t2)), (x11, .inl (eI E, 6, .inl t3)), (r, .inl (eI E, 255, .inl g))] [(0, .ref hM), (1, .ref r)] [] 0
  refine r_iconst C dX6_allTakings_0 ki_0 ?_
  refine r_istore_n C (lv' := [(2, .int (nI 0)), (0, .ref hM), (1, .ref r)]) dX6_allTakings_1 rfl (by decide) rfl ?_
  refine r_iconst C dX6_allTakings_2 ki_0 ?_
  refine r_istore_n C (lv' := [(3, .int (nI 0)), (2, .int (nI 0)), (0, .ref hM), (1, .ref r)]) dX6_allTakings_3 rfl (by decide) rfl ?_
  have loop4_1 : ∀ (dd9 : Nat) (n : Nat) (m : Nat) (s1 : Nat → Int32) (s2 : Nat → Int32) (s3 : Nat → Int32), 20 - n < dd9 → (n ≤ 20) → (m = tkS σ n) → ω [(hM, .inr (6, [.int (nI rf), .ref x1, .int (nI sz), .ref x3, .ref x4, .ref x5, .int (nI ac), .ref x7, .ref x8, .ref x9, .ref x10, .ref x11, .int (nI sp), .int (nI ou)])), (x9, .inl (eI E, 6, .inl s1)), (x10, .inl (eI E, 6, .inl s2)), (x11, .inl (eI E, 6, .inl s3)), (r, .inl (eI E, 255, .inl g))] [(3, .int (nI n)), (2, .int (nI m)), (0, .ref hM), (1, .ref r)] [] 4 := by
    intro dd9
    induction dd9 with
    | zero => intro n m s1 s2 s3 hd; exact absurd hd (Nat.not_lt_zero _)
    | succ dd9 ih2 =>
      intro n m s1 s2 s3 hd hn hm
      have hl := tkS_le hW hn
      refine r_iload_n C (i := 3) 0 dX6_allTakings_4 rfl rfl ?_
      refine r_bipush C dX6_allTakings_5 kb_20 ?_
      refine r_icmp_ge C (c9 := 20 ≤ n) 25 dX6_allTakings_7 (by decide) (c_leNN (by omega) (by omega)) (fun h7_3 => ?_) (fun h7_3 => ?_)
      · refine r_iload_n C (i := 2) 1 dX6_allTakings_25 rfl rfl ?_
        exact RT.1 _ _ _ _ _ dX6_allTakings_26 rfl rfl (⟨_, _, _, sv (congrArg nI (by rw [hm, (by omega : n = 20)])), rfl⟩) rfl
      · refine r_iload_n C (i := 2) 1 dX6_allTakings_10 rfl rfl ?_
        refine r_aload_n C (i := 0) 2 dX6_allTakings_11 rfl rfl ?_
        refine r_aload_n C (i := 1) 3 dX6_allTakings_12 rfl rfl ?_
        refine r_iload_n C (i := 3) 0 dX6_allTakings_13 rfl rfl ?_
        refine r_callV (rest := [.int (nI m)]) C (c_X6_takings (hM := hM) (rf := rf) (x1 := x1) (sz := sz) (x3 := x3) (x4 := x4) (x5 := x5) (ac := ac) (x7 := x7) (x8 := x8) (x9 := x9) (x10 := x10) (x11 := x11) (sp := sp) (ou := ou) (t1 := s1) (t2 := s2) (t3 := s3) (r := r) (g := g) (σ := σ) (n := n) (hR := hR) (hW := hW) (hn := (by omega))) lk_X6_takings w_5_238 [0, 1, 2, 3, 4] rfl dX6_allTakings_14 rfl rfl rfl rfl ⟨by decide, by decide⟩ (Nat.le_of_ble_eq_true rfl) ?_
        rintro _ _ ⟨ta_4, tb_5, tc_6, rfl, rfl⟩
        show ω [(hM, .inr (6, [.int (nI rf), .ref x1, .int (nI sz), .ref x3, .ref x4, .ref x5, .int (nI ac), .ref x7, .ref x8, .ref x9, .ref x10, .ref x11, .int (nI sp), .int (nI ou)])), (x9, .inl (eI E, 6, .inl ta_4)), (x10, .inl (eI E, 6, .inl tb_5)), (x11, .inl (eI E, 6, .inl tc_6)), (r, .inl (eI E, 255, .inl g))] [(3, .int (nI n)), (2, .int (nI m)), (0, .ref hM), (1, .ref r)] [.int (nI (tak σ n)), .int (nI m)] 17
        have htl := tak_le hW (show n < 20 by omega)
        refine r_iadd (v := nI (m + (tak σ n))) C dX6_allTakings_17 (nI_add _ _) ?_
        refine r_istore_n C (lv' := [(2, .int (nI (m + (tak σ n)))), (3, .int (nI n)), (0, .ref hM), (1, .ref r)]) dX6_allTakings_18 rfl (by decide) rfl ?_
        refine r_iinc C (lv' := [(3, .int (nI (n + 1))), (2, .int (nI (m + (tak σ n)))), (0, .ref hM), (1, .ref r)]) (v := nI (n + 1)) 1 dX6_allTakings_19 rfl (v_inc _) (by decide) rfl ?_
        refine r_goto C 4 dX6_allTakings_22 (by decide) ?_
        exact ih2 (n + 1) (m + (tak σ n)) ta_4 tb_5 tc_6 (by omega) (by omega) (by rw [tkS, hm])
  exact loop4_1 _ 0 0 t1 t2 t3 (Nat.lt_succ_self _) (by omega) rfl
set_option maxRecDepth 100000 in
set_option maxHeartbeats 1000000 in
theorem c_X6_plays {l : Launch} {E : Ev} {hM rf x1 sz x3 x4 x5 ac x7 x8 x9 x10 x11 sp ou : Nat} {t1 t2 t3 : Nat → Int32} {r : Nat} {g : Nat → Int32} {σ : Sg} (hR : RepM σ g) (hW : Wf σ) {n a : Nat} (hn : n < 20) (ha : a < 2147483648) : Ct l E yX6_plays cX6_plays 5 (some FieldType.int) 4 99 [.ref hM, .ref r, .int (nI n), .int (nI a)] [(hM, .inr (6, [.int (nI rf), .ref x1, .int (nI sz), .ref x3, .ref x4, .ref x5, .int (nI ac), .ref x7, .ref x8, .ref x9, .ref x10, .ref x11, .int (nI sp), .int (nI ou)])), (x9, .inl (eI E, 6, .inl t1)), (x10, .inl (eI E, 6, .inl t2)), (x11, .inl (eI E, 6, .inl t3)), (r, .inl (eI E, 255, .inl g))] (fun v9 w9 => ∃ ta tb tc : Nat → Int32, v9 = some (.int (mI (ply σ n a))) ∧ w9 = [(hM, .inr (6, [.int (nI rf), .ref x1, .int (nI sz), .ref x3, .ref x4, .ref x5, .int (nI ac), .ref x7, .ref x8, .ref x9, .ref x10, .ref x11, .int (nI sp), .int (nI ou)])), (x9, .inl (eI E, 6, .inl ta)), (x10, .inl (eI E, 6, .inl tb)), (x11, .inl (eI E, 6, .inl tc)), (r, .inl (eI E, 255, .inl g))]) := by
  have hwP := hW.P
  have hwA := hW.A
  have hwS := hW.S
  refine ct_of (by decide +kernel) (Nat.le_of_ble_eq_true rfl) (fun ω C RT => ?_)
  show ω [(hM, .inr (6, [.int (nI rf), .ref x1, .int (nI sz), .ref x3, .ref x4, .ref x5, .int (nI ac), .ref x7, .ref x8, .ref x9, .ref x10, .ref x11, .int (nI sp), .int (nI ou)])), (x9, .inl (eI E, 6, .inl t1)), (x10, .inl (eI E, 6, .inl t2)), (x11, .inl (eI E, 6, .inl t3)), (r, .inl (eI E, 255, .inl g))] [(0, .ref hM), (1, .ref r), (2, .int (nI n)), (3, .int (nI a))] [] 0
  refine r_aload_n C (i := 0) 0 dX6_plays_0 rfl rfl ?_
  refine r_aload_n C (i := 1) 1 dX6_plays_1 rfl rfl ?_
  refine r_iload_n C (i := 2) 2 dX6_plays_2 rfl rfl ?_
  refine r_callV (rest := []) C (c_X6_goThrough (hM := hM) (rf := rf) (x1 := x1) (sz := sz) (x3 := x3) (x4 := x4) (x5 := x5) (ac := ac) (x7 := x7) (x8 := x8) (x9 := x9) (x10 := x10) (x11 := x11) (sp := sp) (ou := ou) (t1 := t1) (t2 := t2) (t3 := t3) (r := r) (g := g) (σ := σ) (n := n) (hR := hR) (hW := hW) (hn := (by omega))) lk_X6_goThrough w_5_211 [0, 1, 2, 3, 4] rfl dX6_plays_3 rfl rfl rfl rfl ⟨by decide, by decide⟩ (Nat.le_of_ble_eq_true rfl) ?_
  rintro _ _ ⟨ta_1, tb_2, tc_3, rfl, rfl, hEv_4⟩
  show ω [(hM, .inr (6, [.int (nI rf), .ref x1, .int (nI sz), .ref x3, .ref x4, .ref x5, .int (nI ac), .ref x7, .ref x8, .ref x9, .ref x10, .ref x11, .int (nI sp), .int (nI ou)])), (x9, .inl (eI E, 6, .inl ta_1)), (x10, .inl (eI E, 6, .inl tb_2)), (x11, .inl (eI E, 6, .inl tc_3)), (r, .inl (eI E, 255, .inl g))] [(0, .ref hM), (1, .ref r), (2, .int (nI n)), (3, .int (nI a))] [.int (bP (dk σ n = 1))] 6
  refine r_if_eq C (y := 0) (c9 := ¬ (dk σ n = 1)) 11 dX6_plays_6 (by decide) z_eqB (fun h6_5 => ?_) (fun h6_5 => ?_)
  · have hd0 : dk σ n = 0 := by have := dk_le σ n; omega
    have hTp := (dk_iff.mp hd0).2
    refine r_iconst C dX6_plays_11 ki_0 ?_
    refine r_istore C (lv' := [(4, .int (nI 0)), (0, .ref hM), (1, .ref r), (2, .int (nI n)), (3, .int (nI a))]) dX6_plays_12 (by decide) rfl ?_
    have loop14_6 : ∀ (dd9 : Nat) (p : Nat), sP σ - p < dd9 → (p ≤ sP σ) → (∀ j, j < p → T σ n j ≠ a + 1) → ω [(hM, .inr (6, [.int (nI rf), .ref x1, .int (nI sz), .ref x3, .ref x4, .ref x5, .int (nI ac), .ref x7, .ref x8, .ref x9, .ref x10, .ref x11, .int (nI sp), .int (nI ou)])), (x9, .inl (eI E, 6, .inl ta_1)), (x10, .inl (eI E, 6, .inl tb_2)), (x11, .inl (eI E, 6, .inl tc_3)), (r, .inl (eI E, 255, .inl g))] [(4, .int (nI p)), (0, .ref hM), (1, .ref r), (2, .int (nI n)), (3, .int (nI a))] [] 14 := by
      intro dd9
      induction dd9 with
      | zero => intro p hd; exact absurd hd (Nat.not_lt_zero _)
      | succ dd9 ih7 =>
        intro p hd hp hno
        refine r_iload C (i := 4) 0 dX6_plays_14 rfl ?_
        refine r_aload_n C (i := 1) 2 dX6_plays_16 rfl rfl ?_
        refine r_iconst C dX6_plays_17 ki_0 ?_
        refine r_iald (j := 0) (v := nI (sP σ)) C 4 rfl (by omega) (by decide) hR.P dX6_plays_18 ?_
        refine r_icmp_ge C (c9 := sP σ ≤ p) 42 dX6_plays_19 (by decide) (c_leNN (by omega) (by omega)) (fun h19_8 => ?_) (fun h19_8 => ?_)
        · refine r_iconst C dX6_plays_42 ki_m1 ?_
          exact RT.1 _ _ _ _ _ dX6_plays_43 rfl rfl (⟨_, _, _, sv (congrArg mI (ply_no (fun _ j hj => hno j (by omega))).symm), rfl⟩) rfl
        · have hT0 := hTp p (by omega)
          have hTl := T_le hW (show p < sP σ by omega) hn
          refine r_aload_n C (i := 0) 1 dX6_plays_22 rfl rfl ?_
          refine r_get C 0 9 uX6 rfl rfl (by decide) w_5_70 rfl dX6_plays_23 ?_
          refine r_iload C (i := 4) 0 dX6_plays_26 rfl ?_
          refine r_iald (j := p) (v := nI (T σ n p - 1)) C 1 rfl (by omega) (by decide) ((hEv_4 p (by omega)).1.trans (by rw [show T σ n p = T σ n p - 1 + 1 from by omega, mI_s, Nat.add_sub_cancel])) dX6_plays_28 ?_
          refine r_iload_n C (i := 3) 4 dX6_plays_29 rfl rfl ?_
          refine r_icmp_ne C (c9 := T σ n p - 1 ≠ a) 36 dX6_plays_30 (by decide) (c_neNN (by omega) (by omega)) (fun h30_9 => ?_) (fun h30_9 => ?_)
          · refine r_iinc C (lv' := [(4, .int (nI (p + 1))), (0, .ref hM), (1, .ref r), (2, .int (nI n)), (3, .int (nI a))]) (v := nI (p + 1)) 0 dX6_plays_36 rfl (v_inc _) (by decide) rfl ?_
            refine r_goto C 14 dX6_plays_39 (by decide) ?_
            exact ih7 (p + 1) (by omega) (by omega) (lt_step hno (by omega))
          · refine r_iload C (i := 4) 0 dX6_plays_33 rfl ?_
            exact RT.1 _ _ _ _ _ dX6_plays_35 rfl rfl (⟨_, _, _, sv ((mI_s _).symm.trans (congrArg mI (ply_yes hd0 (by omega) (by omega) hno).symm)), rfl⟩) rfl
    exact loop14_6 _ 0 (Nat.lt_succ_self _) (by omega) (fun j hj => absurd hj (Nat.not_lt_zero j))
  · replace h6_5 : dk σ n = 1 := Decidable.not_not.mp h6_5
    refine r_iconst C dX6_plays_9 ki_m1 ?_
    exact RT.1 _ _ _ _ _ dX6_plays_10 rfl rfl (⟨_, _, _, sv (congrArg mI (ply_no (fun e => by omega)).symm), rfl⟩) rfl
