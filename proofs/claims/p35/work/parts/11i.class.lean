set_option maxRecDepth 100000 in
set_option maxHeartbeats 1000000 in
theorem c_X5_groupsAbove {l : Launch} {E : Ev} {S k : Nat} (hS : S < 9223372036854775808) (hk : k < 2147483648) : Cr l E yX5_groupsAbove cX5_groupsAbove 6 (some FieldType.long) 0 0 [.long (lN S), .int (nI k)] [] (some (.long (lN (S / 100000 ^ k)))) := by
  refine ct_of (by decide +kernel) (Nat.le_of_ble_eq_true rfl) (fun ω C RT => ?_)
  show ω [] [(0, .long (lN S)), (2, .int (nI k))] [] 0
  refine r_lload_n C (i := 0) 0 dX5_groupsAbove_0 rfl rfl ?_
  refine r_lstore_n C (lv' := [(3, .long (lN S)), (0, .long (lN S)), (2, .int (nI k))]) dX5_groupsAbove_1 rfl (by decide) rfl ?_
  refine r_iconst C dX5_groupsAbove_2 ki_0 ?_
  refine r_istore C (lv' := [(5, .int (nI 0)), (3, .long (lN S)), (0, .long (lN S)), (2, .int (nI k))]) dX5_groupsAbove_3 (by decide) rfl ?_
  have loop5_1 : ∀ (dd9 : Nat) (i : Nat) (r : Nat), k - i < dd9 → (i ≤ k) → (r = S / 100000 ^ i) → ω [] [(5, .int (nI i)), (3, .long (lN r)), (0, .long (lN S)), (2, .int (nI k))] [] 5 := by
    intro dd9
    induction dd9 with
    | zero => intro i r hd; exact absurd hd (Nat.not_lt_zero _)
    | succ dd9 ih2 =>
      intro i r hd hi hr
      have hrl : r ≤ S := by rw [hr]; exact Nat.div_le_self _ _
      refine r_iload C (i := 5) 0 dX5_groupsAbove_5 rfl ?_
      refine r_iload_n C (i := 2) 3 dX5_groupsAbove_7 rfl rfl ?_
      refine r_icmp_ge C (c9 := k ≤ i) 23 dX5_groupsAbove_8 (by decide) (c_leNN (by omega) (by omega)) (fun h8_3 => ?_) (fun h8_3 => ?_)
      · refine r_lload_n C (i := 3) 1 dX5_groupsAbove_23 rfl rfl ?_
        exact RT.2.1 _ _ _ _ dX5_groupsAbove_24 rfl (rd_l (by rw [hr, (by omega : i = k)])) rfl
      · refine r_lload_n C (i := 3) 1 dX5_groupsAbove_11 rfl rfl ?_
        refine r_ldc2 (v := lN 100000) C dX5_groupsAbove_12 w_5_23 ?_
        refine r_ldiv (v := lN (r / 100000)) C dX5_groupsAbove_15 (l_nz (by decide) (by decide)) (pk_lDiv (by omega) (by decide) (by decide)) ?_
        refine r_lstore_n C (lv' := [(3, .long (lN (r / 100000))), (5, .int (nI i)), (0, .long (lN S)), (2, .int (nI k))]) dX5_groupsAbove_16 rfl (by decide) rfl ?_
        refine r_iinc C (lv' := [(5, .int (nI (i + 1))), (3, .long (lN (r / 100000))), (0, .long (lN S)), (2, .int (nI k))]) (v := nI (i + 1)) 1 dX5_groupsAbove_17 rfl (v_inc _) (by decide) rfl ?_
        refine r_goto C 5 dX5_groupsAbove_20 (by decide) ?_
        exact ih2 (i + 1) (r / 100000) (by omega) (by omega) (by rw [hr, Nat.div_div_eq_div_mul, Nat.pow_succ])
  exact loop5_1 _ 0 S (Nat.lt_succ_self _) (by omega) (by rw [Nat.pow_zero, Nat.div_one])
set_option maxRecDepth 100000 in
set_option maxHeartbeats 1000000 in
theorem c_X5_takeTurn__0 {l : Launch} {E : Ev} {hB b1 b2 b3 b4 b5 b6 b7 b8 b9 b10 : Nat} {c2 : Nat} {f2 : Nat → Int32} {σ : Sg} (hR : RepC σ f2) (hW : Wf σ) {x : Nat} (hx : x < 2147483648) (hm : x % 8 = 0) : Ct l E yX5_takeTurn cX5_takeTurn 3 none 4 91 [.ref hB, .int (nI x)] [(hB, .inr (5, [.ref b1, .ref b2, .ref b3, .ref b4, .ref b5, .ref b6, .ref b7, .ref b8, .ref b9, .ref b10])), (b2, .inr (4, [.ref c2])), (c2, .inl (eI E, 265, .inl f2))] (fun v9 w9 => ∃ g2 : Nat → Int32, v9 = none ∧ w9 = [(hB, .inr (5, [.ref b1, .ref b2, .ref b3, .ref b4, .ref b5, .ref b6, .ref b7, .ref b8, .ref b9, .ref b10])), (b2, .inr (4, [.ref c2])), (c2, .inl (eI E, 265, .inl g2))] ∧ RepC (tuS σ x) g2) := by
  have hwP := hW.P
  have hwA := hW.A
  have hwS := hW.S
  refine ct_of (by decide +kernel) (Nat.le_of_ble_eq_true rfl) (fun ω C RT => ?_)
  show ω [(hB, .inr (5, [.ref b1, .ref b2, .ref b3, .ref b4, .ref b5, .ref b6, .ref b7, .ref b8, .ref b9, .ref b10])), (b2, .inr (4, [.ref c2])), (c2, .inl (eI E, 265, .inl f2))] [(0, .ref hB), (1, .int (nI x))] [] 0
  refine r_iload_n C (i := 1) 1 dX5_takeTurn_0 rfl rfl ?_
  refine r_bipush C dX5_takeTurn_1 kb_8 ?_
  refine r_idiv (v := nI (x / 8)) C dX5_takeTurn_3 (v_nz (by omega) (by omega)) (v_div (by omega) (by omega) (by omega)) ?_
  refine r_istore_n C (lv' := [(2, .int (nI (x / 8))), (0, .ref hB), (1, .int (nI x))]) dX5_takeTurn_4 rfl (by decide) rfl ?_
  refine r_iload_n C (i := 1) 2 dX5_takeTurn_5 rfl rfl ?_
  refine r_bipush C dX5_takeTurn_6 kb_8 ?_
  refine r_irem (v := nI 0) C dX5_takeTurn_8 (v_nz (by omega) (by omega)) ((v_rem (by omega) (by omega) (by omega)).trans (congrArg nI (by omega))) ?_
  refine r_tabIn (off := 43) C 52 dX5_takeTurn_9 (by decide) (by decide) (by decide) (by decide) ?_
  refine r_aload_n C (i := 0) 1 dX5_takeTurn_52 rfl rfl ?_
  refine r_get C 0 1 uX5 rfl rfl (by decide) w_1_129 rfl dX5_takeTurn_53 ?_
  refine r_iload_n C (i := 2) 0 dX5_takeTurn_56 rfl rfl ?_
  refine r_bipush C dX5_takeTurn_57 kb_6 ?_
  refine r_irem (v := nI ((x / 8) % 6)) C dX5_takeTurn_59 (v_nz (by omega) (by omega)) (v_rem (by omega) (by omega) (by omega)) ?_
  refine r_iload_n C (i := 2) 0 dX5_takeTurn_60 rfl rfl ?_
  refine r_bipush C dX5_takeTurn_61 kb_6 ?_
  refine r_idiv (v := nI ((x / 8) / 6)) C dX5_takeTurn_63 (v_nz (by omega) (by omega)) (v_div (by omega) (by omega) (by omega)) ?_
  refine r_bipush C dX5_takeTurn_64 kb_10 ?_
  refine r_irem (v := nI (((x / 8) / 6) % 10)) C dX5_takeTurn_66 (v_nz (by omega) (by omega)) (v_rem (by omega) (by omega) (by omega)) ?_
  refine r_iload_n C (i := 2) 0 dX5_takeTurn_67 rfl rfl ?_
  refine r_bipush C dX5_takeTurn_68 kb_64 ?_
  refine r_idiv (v := nI ((x / 8) / 64)) C dX5_takeTurn_70 (v_nz (by omega) (by omega)) (v_div (by omega) (by omega) (by omega)) ?_
  refine r_bipush C dX5_takeTurn_71 kb_20 ?_
  refine r_irem (v := nI (((x / 8) / 64) % 20)) C dX5_takeTurn_73 (v_nz (by omega) (by omega)) (v_rem (by omega) (by omega) (by omega)) ?_
  refine r_callV (rest := []) C (c_X4_recast__n (h0 := b2) (q1 := c2) (f := f2) (σ := σ) (p := (x / 8) % 6) (a := ((x / 8) / 6) % 10) (n := ((x / 8) / 64) % 20) (hR := hR) (hW := hW) (hp := (by omega)) (ha := (by omega)) (hn := (by omega))) lk_X4_recast w_2_239 [1, 2] rfl dX5_takeTurn_74 rfl rfl rfl rfl ⟨by decide, by decide⟩ (Nat.le_of_ble_eq_true rfl) ?_
  rintro _ _ ⟨f_1, rfl, rfl, hR_2⟩
  have hW_3 : Wf (tCast σ ((x / 8) % 6) ((((x / 8) / 6) % 10) + 1) (((x / 8) / 64) % 20)) := tCast_wf hW
  show ω [(hB, .inr (5, [.ref b1, .ref b2, .ref b3, .ref b4, .ref b5, .ref b6, .ref b7, .ref b8, .ref b9, .ref b10])), (b2, .inr (4, [.ref c2])), (c2, .inl (eI E, 265, .inl f_1))] [(2, .int (nI (x / 8))), (0, .ref hB), (1, .int (nI x))] [.int (bP (((x / 8) % 6) < sP σ ∧ (((x / 8) / 64) % 20) < 20 ∧ (((x / 8) / 6) % 10) < sA σ))] 77
  refine r_pop C dX5_takeTurn_77 rfl ?_
  refine r_goto C 190 dX5_takeTurn_78 (by decide) ?_
  exact RT.2.2.1 _ _ _ dX5_takeTurn_190 rfl (⟨_, rfl, rfl, by unfold tuS; rw [if_pos (by omega)]; exact hR_2⟩) rfl
set_option maxRecDepth 100000 in
set_option maxHeartbeats 1000000 in
theorem c_X5_takeTurn__1 {l : Launch} {E : Ev} {hB b1 b2 b3 b4 b5 b6 b7 b8 b9 b10 : Nat} {c2 : Nat} {f2 : Nat → Int32} {σ : Sg} (hR : RepC σ f2) (hW : Wf σ) {x : Nat} (hx : x < 2147483648) (hm : x % 8 = 1) : Ct l E yX5_takeTurn cX5_takeTurn 3 none 4 91 [.ref hB, .int (nI x)] [(hB, .inr (5, [.ref b1, .ref b2, .ref b3, .ref b4, .ref b5, .ref b6, .ref b7, .ref b8, .ref b9, .ref b10])), (b2, .inr (4, [.ref c2])), (c2, .inl (eI E, 265, .inl f2))] (fun v9 w9 => ∃ g2 : Nat → Int32, v9 = none ∧ w9 = [(hB, .inr (5, [.ref b1, .ref b2, .ref b3, .ref b4, .ref b5, .ref b6, .ref b7, .ref b8, .ref b9, .ref b10])), (b2, .inr (4, [.ref c2])), (c2, .inl (eI E, 265, .inl g2))] ∧ RepC (tuS σ x) g2) := by
  have hwP := hW.P
  have hwA := hW.A
  have hwS := hW.S
  refine ct_of (by decide +kernel) (Nat.le_of_ble_eq_true rfl) (fun ω C RT => ?_)
  show ω [(hB, .inr (5, [.ref b1, .ref b2, .ref b3, .ref b4, .ref b5, .ref b6, .ref b7, .ref b8, .ref b9, .ref b10])), (b2, .inr (4, [.ref c2])), (c2, .inl (eI E, 265, .inl f2))] [(0, .ref hB), (1, .int (nI x))] [] 0
  refine r_iload_n C (i := 1) 1 dX5_takeTurn_0 rfl rfl ?_
  refine r_bipush C dX5_takeTurn_1 kb_8 ?_
  refine r_idiv (v := nI (x / 8)) C dX5_takeTurn_3 (v_nz (by omega) (by omega)) (v_div (by omega) (by omega) (by omega)) ?_
  refine r_istore_n C (lv' := [(2, .int (nI (x / 8))), (0, .ref hB), (1, .int (nI x))]) dX5_takeTurn_4 rfl (by decide) rfl ?_
  refine r_iload_n C (i := 1) 2 dX5_takeTurn_5 rfl rfl ?_
  refine r_bipush C dX5_takeTurn_6 kb_8 ?_
  refine r_irem (v := nI 1) C dX5_takeTurn_8 (v_nz (by omega) (by omega)) ((v_rem (by omega) (by omega) (by omega)).trans (congrArg nI (by omega))) ?_
  refine r_tabIn (off := 43) C 52 dX5_takeTurn_9 (by decide) (by decide) (by decide) (by decide) ?_
  refine r_aload_n C (i := 0) 1 dX5_takeTurn_52 rfl rfl ?_
  refine r_get C 0 1 uX5 rfl rfl (by decide) w_1_129 rfl dX5_takeTurn_53 ?_
  refine r_iload_n C (i := 2) 0 dX5_takeTurn_56 rfl rfl ?_
  refine r_bipush C dX5_takeTurn_57 kb_6 ?_
  refine r_irem (v := nI ((x / 8) % 6)) C dX5_takeTurn_59 (v_nz (by omega) (by omega)) (v_rem (by omega) (by omega) (by omega)) ?_
  refine r_iload_n C (i := 2) 0 dX5_takeTurn_60 rfl rfl ?_
  refine r_bipush C dX5_takeTurn_61 kb_6 ?_
  refine r_idiv (v := nI ((x / 8) / 6)) C dX5_takeTurn_63 (v_nz (by omega) (by omega)) (v_div (by omega) (by omega) (by omega)) ?_
  refine r_bipush C dX5_takeTurn_64 kb_10 ?_
  refine r_irem (v := nI (((x / 8) / 6) % 10)) C dX5_takeTurn_66 (v_nz (by omega) (by omega)) (v_rem (by omega) (by omega) (by omega)) ?_
  refine r_iload_n C (i := 2) 0 dX5_takeTurn_67 rfl rfl ?_
  refine r_bipush C dX5_takeTurn_68 kb_64 ?_
  refine r_idiv (v := nI ((x / 8) / 64)) C dX5_takeTurn_70 (v_nz (by omega) (by omega)) (v_div (by omega) (by omega) (by omega)) ?_
  refine r_bipush C dX5_takeTurn_71 kb_20 ?_
  refine r_irem (v := nI (((x / 8) / 64) % 20)) C dX5_takeTurn_73 (v_nz (by omega) (by omega)) (v_rem (by omega) (by omega) (by omega)) ?_
  refine r_callV (rest := []) C (c_X4_recast__n (h0 := b2) (q1 := c2) (f := f2) (σ := σ) (p := (x / 8) % 6) (a := ((x / 8) / 6) % 10) (n := ((x / 8) / 64) % 20) (hR := hR) (hW := hW) (hp := (by omega)) (ha := (by omega)) (hn := (by omega))) lk_X4_recast w_2_239 [1, 2] rfl dX5_takeTurn_74 rfl rfl rfl rfl ⟨by decide, by decide⟩ (Nat.le_of_ble_eq_true rfl) ?_
  rintro _ _ ⟨f_1, rfl, rfl, hR_2⟩
  have hW_3 : Wf (tCast σ ((x / 8) % 6) ((((x / 8) / 6) % 10) + 1) (((x / 8) / 64) % 20)) := tCast_wf hW
  show ω [(hB, .inr (5, [.ref b1, .ref b2, .ref b3, .ref b4, .ref b5, .ref b6, .ref b7, .ref b8, .ref b9, .ref b10])), (b2, .inr (4, [.ref c2])), (c2, .inl (eI E, 265, .inl f_1))] [(2, .int (nI (x / 8))), (0, .ref hB), (1, .int (nI x))] [.int (bP (((x / 8) % 6) < sP σ ∧ (((x / 8) / 64) % 20) < 20 ∧ (((x / 8) / 6) % 10) < sA σ))] 77
  refine r_pop C dX5_takeTurn_77 rfl ?_
  refine r_goto C 190 dX5_takeTurn_78 (by decide) ?_
  exact RT.2.2.1 _ _ _ dX5_takeTurn_190 rfl (⟨_, rfl, rfl, by unfold tuS; rw [if_pos (by omega)]; exact hR_2⟩) rfl
set_option maxRecDepth 100000 in
set_option maxHeartbeats 1000000 in
theorem c_X5_takeTurn__2 {l : Launch} {E : Ev} {hB b1 b2 b3 b4 b5 b6 b7 b8 b9 b10 : Nat} {c2 : Nat} {f2 : Nat → Int32} {σ : Sg} (hR : RepC σ f2) (hW : Wf σ) {x : Nat} (hx : x < 2147483648) (hm : x % 8 = 2) : Ct l E yX5_takeTurn cX5_takeTurn 3 none 4 91 [.ref hB, .int (nI x)] [(hB, .inr (5, [.ref b1, .ref b2, .ref b3, .ref b4, .ref b5, .ref b6, .ref b7, .ref b8, .ref b9, .ref b10])), (b2, .inr (4, [.ref c2])), (c2, .inl (eI E, 265, .inl f2))] (fun v9 w9 => ∃ g2 : Nat → Int32, v9 = none ∧ w9 = [(hB, .inr (5, [.ref b1, .ref b2, .ref b3, .ref b4, .ref b5, .ref b6, .ref b7, .ref b8, .ref b9, .ref b10])), (b2, .inr (4, [.ref c2])), (c2, .inl (eI E, 265, .inl g2))] ∧ RepC (tuS σ x) g2) := by
  have hwP := hW.P
  have hwA := hW.A
  have hwS := hW.S
  refine ct_of (by decide +kernel) (Nat.le_of_ble_eq_true rfl) (fun ω C RT => ?_)
  show ω [(hB, .inr (5, [.ref b1, .ref b2, .ref b3, .ref b4, .ref b5, .ref b6, .ref b7, .ref b8, .ref b9, .ref b10])), (b2, .inr (4, [.ref c2])), (c2, .inl (eI E, 265, .inl f2))] [(0, .ref hB), (1, .int (nI x))] [] 0
  refine r_iload_n C (i := 1) 1 dX5_takeTurn_0 rfl rfl ?_
  refine r_bipush C dX5_takeTurn_1 kb_8 ?_
  refine r_idiv (v := nI (x / 8)) C dX5_takeTurn_3 (v_nz (by omega) (by omega)) (v_div (by omega) (by omega) (by omega)) ?_
  refine r_istore_n C (lv' := [(2, .int (nI (x / 8))), (0, .ref hB), (1, .int (nI x))]) dX5_takeTurn_4 rfl (by decide) rfl ?_
  refine r_iload_n C (i := 1) 2 dX5_takeTurn_5 rfl rfl ?_
  refine r_bipush C dX5_takeTurn_6 kb_8 ?_
  refine r_irem (v := nI 2) C dX5_takeTurn_8 (v_nz (by omega) (by omega)) ((v_rem (by omega) (by omega) (by omega)).trans (congrArg nI (by omega))) ?_
  refine r_tabIn (off := 72) C 81 dX5_takeTurn_9 (by decide) (by decide) (by decide) (by decide) ?_
  refine r_aload_n C (i := 0) 1 dX5_takeTurn_81 rfl rfl ?_
  refine r_get C 0 1 uX5 rfl rfl (by decide) w_1_129 rfl dX5_takeTurn_82 ?_
  refine r_iload_n C (i := 2) 0 dX5_takeTurn_85 rfl rfl ?_
  refine r_bipush C dX5_takeTurn_86 kb_6 ?_
  refine r_irem (v := nI ((x / 8) % 6)) C dX5_takeTurn_88 (v_nz (by omega) (by omega)) (v_rem (by omega) (by omega) (by omega)) ?_
  refine r_iload_n C (i := 2) 0 dX5_takeTurn_89 rfl rfl ?_
  refine r_bipush C dX5_takeTurn_90 kb_6 ?_
  refine r_idiv (v := nI ((x / 8) / 6)) C dX5_takeTurn_92 (v_nz (by omega) (by omega)) (v_div (by omega) (by omega) (by omega)) ?_
  refine r_bipush C dX5_takeTurn_93 kb_10 ?_
  refine r_irem (v := nI (((x / 8) / 6) % 10)) C dX5_takeTurn_95 (v_nz (by omega) (by omega)) (v_rem (by omega) (by omega) (by omega)) ?_
  refine r_callV (rest := []) C (c_X4_addUnderstudy (h0 := b2) (q1 := c2) (f := f2) (σ := σ) (p := (x / 8) % 6) (a := ((x / 8) / 6) % 10) (hR := hR) (hW := hW) (hp := (by omega)) (ha := (by omega))) lk_X4_addUnderstudy w_3_0 [1, 2] rfl dX5_takeTurn_96 rfl rfl rfl rfl ⟨by decide, by decide⟩ (Nat.le_of_ble_eq_true rfl) ?_
  rintro _ _ ⟨f_1, rfl, rfl, hR_2⟩
  have hW_3 : Wf (tStudy σ ((x / 8) % 6) (((x / 8) / 6) % 10)) := tStudy_wf hW
  show ω [(hB, .inr (5, [.ref b1, .ref b2, .ref b3, .ref b4, .ref b5, .ref b6, .ref b7, .ref b8, .ref b9, .ref b10])), (b2, .inr (4, [.ref c2])), (c2, .inl (eI E, 265, .inl f_1))] [(2, .int (nI (x / 8))), (0, .ref hB), (1, .int (nI x))] [.int (bP (((x / 8) % 6) < sP σ ∧ (((x / 8) / 6) % 10) < sA σ ∧ sC σ ((x / 8) % 6) < 4 ∧ rk σ ((x / 8) % 6) (((x / 8) / 6) % 10) = 0))] 99
  refine r_pop C dX5_takeTurn_99 rfl ?_
  refine r_goto C 190 dX5_takeTurn_100 (by decide) ?_
  exact RT.2.2.1 _ _ _ dX5_takeTurn_190 rfl (⟨_, rfl, rfl, by unfold tuS; rw [if_neg (by omega), if_pos (by omega)]; exact hR_2⟩) rfl
set_option maxRecDepth 100000 in
set_option maxHeartbeats 1000000 in
theorem c_X5_takeTurn__3 {l : Launch} {E : Ev} {hB b1 b2 b3 b4 b5 b6 b7 b8 b9 b10 : Nat} {c2 : Nat} {f2 : Nat → Int32} {σ : Sg} (hR : RepC σ f2) (hW : Wf σ) {x : Nat} (hx : x < 2147483648) (hm : x % 8 = 3) : Ct l E yX5_takeTurn cX5_takeTurn 3 none 4 91 [.ref hB, .int (nI x)] [(hB, .inr (5, [.ref b1, .ref b2, .ref b3, .ref b4, .ref b5, .ref b6, .ref b7, .ref b8, .ref b9, .ref b10])), (b2, .inr (4, [.ref c2])), (c2, .inl (eI E, 265, .inl f2))] (fun v9 w9 => ∃ g2 : Nat → Int32, v9 = none ∧ w9 = [(hB, .inr (5, [.ref b1, .ref b2, .ref b3, .ref b4, .ref b5, .ref b6, .ref b7, .ref b8, .ref b9, .ref b10])), (b2, .inr (4, [.ref c2])), (c2, .inl (eI E, 265, .inl g2))] ∧ RepC (tuS σ x) g2) := by
  have hwP := hW.P
  have hwA := hW.A
  have hwS := hW.S
  refine ct_of (by decide +kernel) (Nat.le_of_ble_eq_true rfl) (fun ω C RT => ?_)
  show ω [(hB, .inr (5, [.ref b1, .ref b2, .ref b3, .ref b4, .ref b5, .ref b6, .ref b7, .ref b8, .ref b9, .ref b10])), (b2, .inr (4, [.ref c2])), (c2, .inl (eI E, 265, .inl f2))] [(0, .ref hB), (1, .int (nI x))] [] 0
  refine r_iload_n C (i := 1) 1 dX5_takeTurn_0 rfl rfl ?_
  refine r_bipush C dX5_takeTurn_1 kb_8 ?_
  refine r_idiv (v := nI (x / 8)) C dX5_takeTurn_3 (v_nz (by omega) (by omega)) (v_div (by omega) (by omega) (by omega)) ?_
  refine r_istore_n C (lv' := [(2, .int (nI (x / 8))), (0, .ref hB), (1, .int (nI x))]) dX5_takeTurn_4 rfl (by decide) rfl ?_
  refine r_iload_n C (i := 1) 2 dX5_takeTurn_5 rfl rfl ?_
  refine r_bipush C dX5_takeTurn_6 kb_8 ?_
  refine r_irem (v := nI 3) C dX5_takeTurn_8 (v_nz (by omega) (by omega)) ((v_rem (by omega) (by omega) (by omega)).trans (congrArg nI (by omega))) ?_
  refine r_tabIn (off := 94) C 103 dX5_takeTurn_9 (by decide) (by decide) (by decide) (by decide) ?_
  refine r_aload_n C (i := 0) 1 dX5_takeTurn_103 rfl rfl ?_
  refine r_get C 0 1 uX5 rfl rfl (by decide) w_1_129 rfl dX5_takeTurn_104 ?_
  refine r_iload_n C (i := 2) 0 dX5_takeTurn_107 rfl rfl ?_
  refine r_bipush C dX5_takeTurn_108 kb_10 ?_
  refine r_irem (v := nI ((x / 8) % 10)) C dX5_takeTurn_110 (v_nz (by omega) (by omega)) (v_rem (by omega) (by omega) (by omega)) ?_
  refine r_iload_n C (i := 2) 0 dX5_takeTurn_111 rfl rfl ?_
  refine r_bipush C dX5_takeTurn_112 kb_16 ?_
  refine r_idiv (v := nI ((x / 8) / 16)) C dX5_takeTurn_114 (v_nz (by omega) (by omega)) (v_div (by omega) (by omega) (by omega)) ?_
  refine r_bipush C dX5_takeTurn_115 kb_20 ?_
  refine r_irem (v := nI (((x / 8) / 16) % 20)) C dX5_takeTurn_117 (v_nz (by omega) (by omega)) (v_rem (by omega) (by omega) (by omega)) ?_
  refine r_iload_n C (i := 2) 0 dX5_takeTurn_118 rfl rfl ?_
  refine r_sipush C dX5_takeTurn_119 ks_512 ?_
  refine r_idiv (v := nI ((x / 8) / 512)) C dX5_takeTurn_122 (v_nz (by omega) (by omega)) (v_div (by omega) (by omega) (by omega)) ?_
  refine r_iconst C dX5_takeTurn_123 ki_3 ?_
  refine r_irem (v := nI (((x / 8) / 512) % 3)) C dX5_takeTurn_124 (v_nz (by omega) (by omega)) (v_rem (by omega) (by omega) (by omega)) ?_
  refine r_if_le C (y := 0) (c9 := ((x / 8) / 512) % 3 = 0) 132 dX5_takeTurn_125 (by decide) (z_leN (by omega)) (fun h125_1 => ?_) (fun h125_1 => ?_)
  · refine r_iconst C dX5_takeTurn_132 ki_0 ?_
    refine r_callV (rest := []) C (c_X4_changeIllness (h0 := b2) (q1 := c2) (f := f2) (σ := σ) (a := (x / 8) % 10) (n := ((x / 8) / 16) % 20) (b := 0) (hR := hR) (hW := hW) (ha := (by omega)) (hn := (by omega)) (hb := (by omega))) lk_X4_changeIllness w_2_27 [1, 2] rfl dX5_takeTurn_133 rfl rfl rfl rfl ⟨by decide, by decide⟩ (Nat.le_of_ble_eq_true rfl) ?_
    rintro _ _ ⟨f_2, rfl, rfl, hR_3⟩
    have hW_4 : Wf (tIll σ ((x / 8) % 10) (((x / 8) / 16) % 20) 0) := tIll_wf hW (by omega)
    show ω [(hB, .inr (5, [.ref b1, .ref b2, .ref b3, .ref b4, .ref b5, .ref b6, .ref b7, .ref b8, .ref b9, .ref b10])), (b2, .inr (4, [.ref c2])), (c2, .inl (eI E, 265, .inl f_2))] [(2, .int (nI (x / 8))), (0, .ref hB), (1, .int (nI x))] [.int (bP (((x / 8) % 10) < sA σ ∧ (((x / 8) / 16) % 20) < 20))] 136
    refine r_pop C dX5_takeTurn_136 rfl ?_
    refine r_goto C 190 dX5_takeTurn_137 (by decide) ?_
    exact RT.2.2.1 _ _ _ dX5_takeTurn_190 rfl (⟨_, rfl, rfl, by unfold tuS; rw [if_neg (by omega), if_neg (by omega), if_pos (by omega)]; rw [if_neg (by omega)]; exact hR_3⟩) rfl
  · refine r_iconst C dX5_takeTurn_128 ki_1 ?_
    refine r_goto C 133 dX5_takeTurn_129 (by decide) ?_
    refine r_callV (rest := []) C (c_X4_changeIllness (h0 := b2) (q1 := c2) (f := f2) (σ := σ) (a := (x / 8) % 10) (n := ((x / 8) / 16) % 20) (b := 1) (hR := hR) (hW := hW) (ha := (by omega)) (hn := (by omega)) (hb := (by omega))) lk_X4_changeIllness w_2_27 [1, 2] rfl dX5_takeTurn_133 rfl rfl rfl rfl ⟨by decide, by decide⟩ (Nat.le_of_ble_eq_true rfl) ?_
    rintro _ _ ⟨f_5, rfl, rfl, hR_6⟩
    have hW_7 : Wf (tIll σ ((x / 8) % 10) (((x / 8) / 16) % 20) 1) := tIll_wf hW (by omega)
    show ω [(hB, .inr (5, [.ref b1, .ref b2, .ref b3, .ref b4, .ref b5, .ref b6, .ref b7, .ref b8, .ref b9, .ref b10])), (b2, .inr (4, [.ref c2])), (c2, .inl (eI E, 265, .inl f_5))] [(2, .int (nI (x / 8))), (0, .ref hB), (1, .int (nI x))] [.int (bP (((x / 8) % 10) < sA σ ∧ (((x / 8) / 16) % 20) < 20))] 136
    refine r_pop C dX5_takeTurn_136 rfl ?_
    refine r_goto C 190 dX5_takeTurn_137 (by decide) ?_
    exact RT.2.2.1 _ _ _ dX5_takeTurn_190 rfl (⟨_, rfl, rfl, by unfold tuS; rw [if_neg (by omega), if_neg (by omega), if_pos (by omega)]; rw [if_pos (by omega)]; exact hR_6⟩) rfl
set_option maxRecDepth 100000 in
set_option maxHeartbeats 1000000 in
theorem c_X5_takeTurn__4 {l : Launch} {E : Ev} {hB b1 b2 b3 b4 b5 b6 b7 b8 b9 b10 : Nat} {c2 : Nat} {f2 : Nat → Int32} {σ : Sg} (hR : RepC σ f2) (hW : Wf σ) {x : Nat} (hx : x < 2147483648) (hm : x % 8 = 4) : Ct l E yX5_takeTurn cX5_takeTurn 3 none 4 91 [.ref hB, .int (nI x)] [(hB, .inr (5, [.ref b1, .ref b2, .ref b3, .ref b4, .ref b5, .ref b6, .ref b7, .ref b8, .ref b9, .ref b10])), (b2, .inr (4, [.ref c2])), (c2, .inl (eI E, 265, .inl f2))] (fun v9 w9 => ∃ g2 : Nat → Int32, v9 = none ∧ w9 = [(hB, .inr (5, [.ref b1, .ref b2, .ref b3, .ref b4, .ref b5, .ref b6, .ref b7, .ref b8, .ref b9, .ref b10])), (b2, .inr (4, [.ref c2])), (c2, .inl (eI E, 265, .inl g2))] ∧ RepC (tuS σ x) g2) := by
  have hwP := hW.P
  have hwA := hW.A
  have hwS := hW.S
  refine ct_of (by decide +kernel) (Nat.le_of_ble_eq_true rfl) (fun ω C RT => ?_)
  show ω [(hB, .inr (5, [.ref b1, .ref b2, .ref b3, .ref b4, .ref b5, .ref b6, .ref b7, .ref b8, .ref b9, .ref b10])), (b2, .inr (4, [.ref c2])), (c2, .inl (eI E, 265, .inl f2))] [(0, .ref hB), (1, .int (nI x))] [] 0
  refine r_iload_n C (i := 1) 1 dX5_takeTurn_0 rfl rfl ?_
  refine r_bipush C dX5_takeTurn_1 kb_8 ?_
  refine r_idiv (v := nI (x / 8)) C dX5_takeTurn_3 (v_nz (by omega) (by omega)) (v_div (by omega) (by omega) (by omega)) ?_
  refine r_istore_n C (lv' := [(2, .int (nI (x / 8))), (0, .ref hB), (1, .int (nI x))]) dX5_takeTurn_4 rfl (by decide) rfl ?_
  refine r_iload_n C (i := 1) 2 dX5_takeTurn_5 rfl rfl ?_
  refine r_bipush C dX5_takeTurn_6 kb_8 ?_
  refine r_irem (v := nI 4) C dX5_takeTurn_8 (v_nz (by omega) (by omega)) ((v_rem (by omega) (by omega) (by omega)).trans (congrArg nI (by omega))) ?_
  refine r_tabIn (off := 94) C 103 dX5_takeTurn_9 (by decide) (by decide) (by decide) (by decide) ?_
  refine r_aload_n C (i := 0) 1 dX5_takeTurn_103 rfl rfl ?_
  refine r_get C 0 1 uX5 rfl rfl (by decide) w_1_129 rfl dX5_takeTurn_104 ?_
  refine r_iload_n C (i := 2) 0 dX5_takeTurn_107 rfl rfl ?_
  refine r_bipush C dX5_takeTurn_108 kb_10 ?_
  refine r_irem (v := nI ((x / 8) % 10)) C dX5_takeTurn_110 (v_nz (by omega) (by omega)) (v_rem (by omega) (by omega) (by omega)) ?_
  refine r_iload_n C (i := 2) 0 dX5_takeTurn_111 rfl rfl ?_
  refine r_bipush C dX5_takeTurn_112 kb_16 ?_
  refine r_idiv (v := nI ((x / 8) / 16)) C dX5_takeTurn_114 (v_nz (by omega) (by omega)) (v_div (by omega) (by omega) (by omega)) ?_
  refine r_bipush C dX5_takeTurn_115 kb_20 ?_
  refine r_irem (v := nI (((x / 8) / 16) % 20)) C dX5_takeTurn_117 (v_nz (by omega) (by omega)) (v_rem (by omega) (by omega) (by omega)) ?_
  refine r_iload_n C (i := 2) 0 dX5_takeTurn_118 rfl rfl ?_
  refine r_sipush C dX5_takeTurn_119 ks_512 ?_
  refine r_idiv (v := nI ((x / 8) / 512)) C dX5_takeTurn_122 (v_nz (by omega) (by omega)) (v_div (by omega) (by omega) (by omega)) ?_
  refine r_iconst C dX5_takeTurn_123 ki_3 ?_
  refine r_irem (v := nI (((x / 8) / 512) % 3)) C dX5_takeTurn_124 (v_nz (by omega) (by omega)) (v_rem (by omega) (by omega) (by omega)) ?_
  refine r_if_le C (y := 0) (c9 := ((x / 8) / 512) % 3 = 0) 132 dX5_takeTurn_125 (by decide) (z_leN (by omega)) (fun h125_1 => ?_) (fun h125_1 => ?_)
  · refine r_iconst C dX5_takeTurn_132 ki_0 ?_
    refine r_callV (rest := []) C (c_X4_changeIllness (h0 := b2) (q1 := c2) (f := f2) (σ := σ) (a := (x / 8) % 10) (n := ((x / 8) / 16) % 20) (b := 0) (hR := hR) (hW := hW) (ha := (by omega)) (hn := (by omega)) (hb := (by omega))) lk_X4_changeIllness w_2_27 [1, 2] rfl dX5_takeTurn_133 rfl rfl rfl rfl ⟨by decide, by decide⟩ (Nat.le_of_ble_eq_true rfl) ?_
    rintro _ _ ⟨f_2, rfl, rfl, hR_3⟩
    have hW_4 : Wf (tIll σ ((x / 8) % 10) (((x / 8) / 16) % 20) 0) := tIll_wf hW (by omega)
    show ω [(hB, .inr (5, [.ref b1, .ref b2, .ref b3, .ref b4, .ref b5, .ref b6, .ref b7, .ref b8, .ref b9, .ref b10])), (b2, .inr (4, [.ref c2])), (c2, .inl (eI E, 265, .inl f_2))] [(2, .int (nI (x / 8))), (0, .ref hB), (1, .int (nI x))] [.int (bP (((x / 8) % 10) < sA σ ∧ (((x / 8) / 16) % 20) < 20))] 136
    refine r_pop C dX5_takeTurn_136 rfl ?_
    refine r_goto C 190 dX5_takeTurn_137 (by decide) ?_
    exact RT.2.2.1 _ _ _ dX5_takeTurn_190 rfl (⟨_, rfl, rfl, by unfold tuS; rw [if_neg (by omega), if_neg (by omega), if_pos (by omega)]; rw [if_neg (by omega)]; exact hR_3⟩) rfl
  · refine r_iconst C dX5_takeTurn_128 ki_1 ?_
    refine r_goto C 133 dX5_takeTurn_129 (by decide) ?_
    refine r_callV (rest := []) C (c_X4_changeIllness (h0 := b2) (q1 := c2) (f := f2) (σ := σ) (a := (x / 8) % 10) (n := ((x / 8) / 16) % 20) (b := 1) (hR := hR) (hW := hW) (ha := (by omega)) (hn := (by omega)) (hb := (by omega))) lk_X4_changeIllness w_2_27 [1, 2] rfl dX5_takeTurn_133 rfl rfl rfl rfl ⟨by decide, by decide⟩ (Nat.le_of_ble_eq_true rfl) ?_
    rintro _ _ ⟨f_5, rfl, rfl, hR_6⟩
    have hW_7 : Wf (tIll σ ((x / 8) % 10) (((x / 8) / 16) % 20) 1) := tIll_wf hW (by omega)
    show ω [(hB, .inr (5, [.ref b1, .ref b2, .ref b3, .ref b4, .ref b5, .ref b6, .ref b7, .ref b8, .ref b9, .ref b10])), (b2, .inr (4, [.ref c2])), (c2, .inl (eI E, 265, .inl f_5))] [(2, .int (nI (x / 8))), (0, .ref hB), (1, .int (nI x))] [.int (bP (((x / 8) % 10) < sA σ ∧ (((x / 8) / 16) % 20) < 20))] 136
    refine r_pop C dX5_takeTurn_136 rfl ?_
    refine r_goto C 190 dX5_takeTurn_137 (by decide) ?_
    exact RT.2.2.1 _ _ _ dX5_takeTurn_190 rfl (⟨_, rfl, rfl, by unfold tuS; rw [if_neg (by omega), if_neg (by omega), if_pos (by omega)]; rw [if_pos (by omega)]; exact hR_6⟩) rfl
set_option maxRecDepth 100000 in
set_option maxHeartbeats 1000000 in
theorem c_X5_takeTurn__5 {l : Launch} {E : Ev} {hB b1 b2 b3 b4 b5 b6 b7 b8 b9 b10 : Nat} {c2 : Nat} {f2 : Nat → Int32} {σ : Sg} (hR : RepC σ f2) (hW : Wf σ) {x : Nat} (hx : x < 2147483648) (hm : x % 8 = 5) : Ct l E yX5_takeTurn cX5_takeTurn 3 none 4 91 [.ref hB, .int (nI x)] [(hB, .inr (5, [.ref b1, .ref b2, .ref b3, .ref b4, .ref b5, .ref b6, .ref b7, .ref b8, .ref b9, .ref b10])), (b2, .inr (4, [.ref c2])), (c2, .inl (eI E, 265, .inl f2))] (fun v9 w9 => ∃ g2 : Nat → Int32, v9 = none ∧ w9 = [(hB, .inr (5, [.ref b1, .ref b2, .ref b3, .ref b4, .ref b5, .ref b6, .ref b7, .ref b8, .ref b9, .ref b10])), (b2, .inr (4, [.ref c2])), (c2, .inl (eI E, 265, .inl g2))] ∧ RepC (tuS σ x) g2) := by
  have hwP := hW.P
  have hwA := hW.A
  have hwS := hW.S
  refine ct_of (by decide +kernel) (Nat.le_of_ble_eq_true rfl) (fun ω C RT => ?_)
  show ω [(hB, .inr (5, [.ref b1, .ref b2, .ref b3, .ref b4, .ref b5, .ref b6, .ref b7, .ref b8, .ref b9, .ref b10])), (b2, .inr (4, [.ref c2])), (c2, .inl (eI E, 265, .inl f2))] [(0, .ref hB), (1, .int (nI x))] [] 0
  refine r_iload_n C (i := 1) 1 dX5_takeTurn_0 rfl rfl ?_
  refine r_bipush C dX5_takeTurn_1 kb_8 ?_
  refine r_idiv (v := nI (x / 8)) C dX5_takeTurn_3 (v_nz (by omega) (by omega)) (v_div (by omega) (by omega) (by omega)) ?_
  refine r_istore_n C (lv' := [(2, .int (nI (x / 8))), (0, .ref hB), (1, .int (nI x))]) dX5_takeTurn_4 rfl (by decide) rfl ?_
  refine r_iload_n C (i := 1) 2 dX5_takeTurn_5 rfl rfl ?_
  refine r_bipush C dX5_takeTurn_6 kb_8 ?_
  refine r_irem (v := nI 5) C dX5_takeTurn_8 (v_nz (by omega) (by omega)) ((v_rem (by omega) (by omega) (by omega)).trans (congrArg nI (by omega))) ?_
  refine r_tabIn (off := 94) C 103 dX5_takeTurn_9 (by decide) (by decide) (by decide) (by decide) ?_
  refine r_aload_n C (i := 0) 1 dX5_takeTurn_103 rfl rfl ?_
  refine r_get C 0 1 uX5 rfl rfl (by decide) w_1_129 rfl dX5_takeTurn_104 ?_
  refine r_iload_n C (i := 2) 0 dX5_takeTurn_107 rfl rfl ?_
  refine r_bipush C dX5_takeTurn_108 kb_10 ?_
  refine r_irem (v := nI ((x / 8) % 10)) C dX5_takeTurn_110 (v_nz (by omega) (by omega)) (v_rem (by omega) (by omega) (by omega)) ?_
  refine r_iload_n C (i := 2) 0 dX5_takeTurn_111 rfl rfl ?_
  refine r_bipush C dX5_takeTurn_112 kb_16 ?_
  refine r_idiv (v := nI ((x / 8) / 16)) C dX5_takeTurn_114 (v_nz (by omega) (by omega)) (v_div (by omega) (by omega) (by omega)) ?_
  refine r_bipush C dX5_takeTurn_115 kb_20 ?_
  refine r_irem (v := nI (((x / 8) / 16) % 20)) C dX5_takeTurn_117 (v_nz (by omega) (by omega)) (v_rem (by omega) (by omega) (by omega)) ?_
  refine r_iload_n C (i := 2) 0 dX5_takeTurn_118 rfl rfl ?_
  refine r_sipush C dX5_takeTurn_119 ks_512 ?_
  refine r_idiv (v := nI ((x / 8) / 512)) C dX5_takeTurn_122 (v_nz (by omega) (by omega)) (v_div (by omega) (by omega) (by omega)) ?_
  refine r_iconst C dX5_takeTurn_123 ki_3 ?_
  refine r_irem (v := nI (((x / 8) / 512) % 3)) C dX5_takeTurn_124 (v_nz (by omega) (by omega)) (v_rem (by omega) (by omega) (by omega)) ?_
  refine r_if_le C (y := 0) (c9 := ((x / 8) / 512) % 3 = 0) 132 dX5_takeTurn_125 (by decide) (z_leN (by omega)) (fun h125_1 => ?_) (fun h125_1 => ?_)
  · refine r_iconst C dX5_takeTurn_132 ki_0 ?_
    refine r_callV (rest := []) C (c_X4_changeIllness (h0 := b2) (q1 := c2) (f := f2) (σ := σ) (a := (x / 8) % 10) (n := ((x / 8) / 16) % 20) (b := 0) (hR := hR) (hW := hW) (ha := (by omega)) (hn := (by omega)) (hb := (by omega))) lk_X4_changeIllness w_2_27 [1, 2] rfl dX5_takeTurn_133 rfl rfl rfl rfl ⟨by decide, by decide⟩ (Nat.le_of_ble_eq_true rfl) ?_
    rintro _ _ ⟨f_2, rfl, rfl, hR_3⟩
    have hW_4 : Wf (tIll σ ((x / 8) % 10) (((x / 8) / 16) % 20) 0) := tIll_wf hW (by omega)
    show ω [(hB, .inr (5, [.ref b1, .ref b2, .ref b3, .ref b4, .ref b5, .ref b6, .ref b7, .ref b8, .ref b9, .ref b10])), (b2, .inr (4, [.ref c2])), (c2, .inl (eI E, 265, .inl f_2))] [(2, .int (nI (x / 8))), (0, .ref hB), (1, .int (nI x))] [.int (bP (((x / 8) % 10) < sA σ ∧ (((x / 8) / 16) % 20) < 20))] 136
    refine r_pop C dX5_takeTurn_136 rfl ?_
    refine r_goto C 190 dX5_takeTurn_137 (by decide) ?_
    exact RT.2.2.1 _ _ _ dX5_takeTurn_190 rfl (⟨_, rfl, rfl, by unfold tuS; rw [if_neg (by omega), if_neg (by omega), if_pos (by omega)]; rw [if_neg (by omega)]; exact hR_3⟩) rfl
  · refine r_iconst C dX5_takeTurn_128 ki_1 ?_
    refine r_goto C 133 dX5_takeTurn_129 (by decide) ?_
    refine r_callV (rest := []) C (c_X4_changeIllness (h0 := b2) (q1 := c2) (f := f2) (σ := σ) (a := (x / 8) % 10) (n := ((x / 8) / 16) % 20) (b := 1) (hR := hR) (hW := hW) (ha := (by omega)) (hn := (by omega)) (hb := (by omega))) lk_X4_changeIllness w_2_27 [1, 2] rfl dX5_takeTurn_133 rfl rfl rfl rfl ⟨by decide, by decide⟩ (Nat.le_of_ble_eq_true rfl) ?_
    rintro _ _ ⟨f_5, rfl, rfl, hR_6⟩
    have hW_7 : Wf (tIll σ ((x / 8) % 10) (((x / 8) / 16) % 20) 1) := tIll_wf hW (by omega)
    show ω [(hB, .inr (5, [.ref b1, .ref b2, .ref b3, .ref b4, .ref b5, .ref b6, .ref b7, .ref b8, .ref b9, .ref b10])), (b2, .inr (4, [.ref c2])), (c2, .inl (eI E, 265, .inl f_5))] [(2, .int (nI (x / 8))), (0, .ref hB), (1, .int (nI x))] [.int (bP (((x / 8) % 10) < sA σ ∧ (((x / 8) / 16) % 20) < 20))] 136
    refine r_pop C dX5_takeTurn_136 rfl ?_
    refine r_goto C 190 dX5_takeTurn_137 (by decide) ?_
    exact RT.2.2.1 _ _ _ dX5_takeTurn_190 rfl (⟨_, rfl, rfl, by unfold tuS; rw [if_neg (by omega), if_neg (by omega), if_pos (by omega)]; rw [if_pos (by omega)]; exact hR_6⟩) rfl
set_option maxRecDepth 100000 in
set_option maxHeartbeats 1000000 in
theorem c_X5_takeTurn__6 {l : Launch} {E : Ev} {hB b1 b2 b3 b4 b5 b6 b7 b8 b9 b10 : Nat} {c2 : Nat} {f2 : Nat → Int32} {σ : Sg} (hR : RepC σ f2) (hW : Wf σ) {x : Nat} (hx : x < 2147483648) (hm : x % 8 = 6) : Ct l E yX5_takeTurn cX5_takeTurn 3 none 4 91 [.ref hB, .int (nI x)] [(hB, .inr (5, [.ref b1, .ref b2, .ref b3, .ref b4, .ref b5, .ref b6, .ref b7, .ref b8, .ref b9, .ref b10])), (b2, .inr (4, [.ref c2])), (c2, .inl (eI E, 265, .inl f2))] (fun v9 w9 => ∃ g2 : Nat → Int32, v9 = none ∧ w9 = [(hB, .inr (5, [.ref b1, .ref b2, .ref b3, .ref b4, .ref b5, .ref b6, .ref b7, .ref b8, .ref b9, .ref b10])), (b2, .inr (4, [.ref c2])), (c2, .inl (eI E, 265, .inl g2))] ∧ RepC (tuS σ x) g2) := by
  have hwP := hW.P
  have hwA := hW.A
  have hwS := hW.S
  refine ct_of (by decide +kernel) (Nat.le_of_ble_eq_true rfl) (fun ω C RT => ?_)
  show ω [(hB, .inr (5, [.ref b1, .ref b2, .ref b3, .ref b4, .ref b5, .ref b6, .ref b7, .ref b8, .ref b9, .ref b10])), (b2, .inr (4, [.ref c2])), (c2, .inl (eI E, 265, .inl f2))] [(0, .ref hB), (1, .int (nI x))] [] 0
  refine r_iload_n C (i := 1) 1 dX5_takeTurn_0 rfl rfl ?_
  refine r_bipush C dX5_takeTurn_1 kb_8 ?_
  refine r_idiv (v := nI (x / 8)) C dX5_takeTurn_3 (v_nz (by omega) (by omega)) (v_div (by omega) (by omega) (by omega)) ?_
  refine r_istore_n C (lv' := [(2, .int (nI (x / 8))), (0, .ref hB), (1, .int (nI x))]) dX5_takeTurn_4 rfl (by decide) rfl ?_
  refine r_iload_n C (i := 1) 2 dX5_takeTurn_5 rfl rfl ?_
  refine r_bipush C dX5_takeTurn_6 kb_8 ?_
  refine r_irem (v := nI 6) C dX5_takeTurn_8 (v_nz (by omega) (by omega)) ((v_rem (by omega) (by omega) (by omega)).trans (congrArg nI (by omega))) ?_
  refine r_tabIn (off := 131) C 140 dX5_takeTurn_9 (by decide) (by decide) (by decide) (by decide) ?_
  refine r_aload_n C (i := 0) 1 dX5_takeTurn_140 rfl rfl ?_
  refine r_get C 0 1 uX5 rfl rfl (by decide) w_1_129 rfl dX5_takeTurn_141 ?_
  refine r_iload_n C (i := 2) 0 dX5_takeTurn_144 rfl rfl ?_
  refine r_bipush C dX5_takeTurn_145 kb_20 ?_
  refine r_irem (v := nI ((x / 8) % 20)) C dX5_takeTurn_147 (v_nz (by omega) (by omega)) (v_rem (by omega) (by omega) (by omega)) ?_
  refine r_iload_n C (i := 2) 0 dX5_takeTurn_148 rfl rfl ?_
  refine r_bipush C dX5_takeTurn_149 kb_32 ?_
  refine r_idiv (v := nI ((x / 8) / 32)) C dX5_takeTurn_151 (v_nz (by omega) (by omega)) (v_div (by omega) (by omega) (by omega)) ?_
  refine r_bipush C dX5_takeTurn_152 kb_6 ?_
  refine r_irem (v := nI (((x / 8) / 32) % 6)) C dX5_takeTurn_154 (v_nz (by omega) (by omega)) (v_rem (by omega) (by omega) (by omega)) ?_
  refine r_iload_n C (i := 2) 0 dX5_takeTurn_155 rfl rfl ?_
  refine r_sipush C dX5_takeTurn_156 ks_256 ?_
  refine r_idiv (v := nI ((x / 8) / 256)) C dX5_takeTurn_159 (v_nz (by omega) (by omega)) (v_div (by omega) (by omega) (by omega)) ?_
  refine r_bipush C dX5_takeTurn_160 kb_10 ?_
  refine r_irem (v := nI (((x / 8) / 256) % 10)) C dX5_takeTurn_162 (v_nz (by omega) (by omega)) (v_rem (by omega) (by omega) (by omega)) ?_
  refine r_iload_n C (i := 2) 0 dX5_takeTurn_163 rfl rfl ?_
  refine r_sipush C dX5_takeTurn_164 ks_4096 ?_
  refine r_idiv (v := nI ((x / 8) / 4096)) C dX5_takeTurn_167 (v_nz (by omega) (by omega)) (v_div (by omega) (by omega) (by omega)) ?_
  refine r_bipush C dX5_takeTurn_168 kb_24 ?_
  refine r_irem (v := nI (((x / 8) / 4096) % 24)) C dX5_takeTurn_170 (v_nz (by omega) (by omega)) (v_rem (by omega) (by omega) (by omega)) ?_
  refine r_callV (rest := []) C (c_X4_addSlip (h0 := b2) (q1 := c2) (f := f2) (σ := σ) (n := (x / 8) % 20) (p := ((x / 8) / 32) % 6) (a := ((x / 8) / 256) % 10) (x := ((x / 8) / 4096) % 24) (hR := hR) (hW := hW) (hn := (by omega)) (hp := (by omega)) (ha := (by omega)) (hx := (by omega))) lk_X4_addSlip w_3_20 [1, 2] rfl dX5_takeTurn_171 rfl rfl rfl rfl ⟨by decide, by decide⟩ (Nat.le_of_ble_eq_true rfl) ?_
  rintro _ _ ⟨f_1, rfl, rfl, hR_2⟩
  have hW_3 : Wf (tSlip σ ((x / 8) % 20) (((x / 8) / 32) % 6) (((x / 8) / 256) % 10) (((x / 8) / 4096) % 24)) := tSlip_wf hW
  show ω [(hB, .inr (5, [.ref b1, .ref b2, .ref b3, .ref b4, .ref b5, .ref b6, .ref b7, .ref b8, .ref b9, .ref b10])), (b2, .inr (4, [.ref c2])), (c2, .inl (eI E, 265, .inl f_1))] [(2, .int (nI (x / 8))), (0, .ref hB), (1, .int (nI x))] [.int (bP (((x / 8) % 20) < 20 ∧ (((x / 8) / 32) % 6) < sP σ ∧ (((x / 8) / 256) % 10) < sA σ ∧ (((x / 8) / 4096) % 24) < 24 ∧ sS σ < 20))] 174
  refine r_pop C dX5_takeTurn_174 rfl ?_
  refine r_goto C 190 dX5_takeTurn_175 (by decide) ?_
  exact RT.2.2.1 _ _ _ dX5_takeTurn_190 rfl (⟨_, rfl, rfl, by unfold tuS; rw [if_neg (by omega), if_neg (by omega), if_neg (by omega), if_pos (by omega)]; exact hR_2⟩) rfl
set_option maxRecDepth 100000 in
set_option maxHeartbeats 1000000 in
theorem c_X5_takeTurn__7 {l : Launch} {E : Ev} {hB b1 b2 b3 b4 b5 b6 b7 b8 b9 b10 : Nat} {c2 : Nat} {f2 : Nat → Int32} {σ : Sg} (hR : RepC σ f2) (hW : Wf σ) {x : Nat} (hx : x < 2147483648) (hm : x % 8 = 7) : Ct l E yX5_takeTurn cX5_takeTurn 3 none 4 91 [.ref hB, .int (nI x)] [(hB, .inr (5, [.ref b1, .ref b2, .ref b3, .ref b4, .ref b5, .ref b6, .ref b7, .ref b8, .ref b9, .ref b10])), (b2, .inr (4, [.ref c2])), (c2, .inl (eI E, 265, .inl f2))] (fun v9 w9 => ∃ g2 : Nat → Int32, v9 = none ∧ w9 = [(hB, .inr (5, [.ref b1, .ref b2, .ref b3, .ref b4, .ref b5, .ref b6, .ref b7, .ref b8, .ref b9, .ref b10])), (b2, .inr (4, [.ref c2])), (c2, .inl (eI E, 265, .inl g2))] ∧ RepC (tuS σ x) g2) := by
  have hwP := hW.P
  have hwA := hW.A
  have hwS := hW.S
  refine ct_of (by decide +kernel) (Nat.le_of_ble_eq_true rfl) (fun ω C RT => ?_)
  show ω [(hB, .inr (5, [.ref b1, .ref b2, .ref b3, .ref b4, .ref b5, .ref b6, .ref b7, .ref b8, .ref b9, .ref b10])), (b2, .inr (4, [.ref c2])), (c2, .inl (eI E, 265, .inl f2))] [(0, .ref hB), (1, .int (nI x))] [] 0
  refine r_iload_n C (i := 1) 1 dX5_takeTurn_0 rfl rfl ?_
  refine r_bipush C dX5_takeTurn_1 kb_8 ?_
  refine r_idiv (v := nI (x / 8)) C dX5_takeTurn_3 (v_nz (by omega) (by omega)) (v_div (by omega) (by omega) (by omega)) ?_
  refine r_istore_n C (lv' := [(2, .int (nI (x / 8))), (0, .ref hB), (1, .int (nI x))]) dX5_takeTurn_4 rfl (by decide) rfl ?_
  refine r_iload_n C (i := 1) 2 dX5_takeTurn_5 rfl rfl ?_
  refine r_bipush C dX5_takeTurn_6 kb_8 ?_
  refine r_irem (v := nI 7) C dX5_takeTurn_8 (v_nz (by omega) (by omega)) ((v_rem (by omega) (by omega) (by omega)).trans (congrArg nI (by omega))) ?_
  refine r_tabOut C 178 dX5_takeTurn_9 (by decide) (by decide) ?_
  refine r_aload_n C (i := 0) 1 dX5_takeTurn_178 rfl rfl ?_
  refine r_get C 0 1 uX5 rfl rfl (by decide) w_1_129 rfl dX5_takeTurn_179 ?_
  refine r_iload_n C (i := 2) 0 dX5_takeTurn_182 rfl rfl ?_
  refine r_bipush C dX5_takeTurn_183 kb_20 ?_
  refine r_irem (v := nI ((x / 8) % 20)) C dX5_takeTurn_185 (v_nz (by omega) (by omega)) (v_rem (by omega) (by omega) (by omega)) ?_
  refine r_callV (rest := []) C (c_X4_dropSlip (h0 := b2) (q1 := c2) (f := f2) (σ := σ) (k := (x / 8) % 20) (hR := hR) (hW := hW) (hk := (by omega))) lk_X4_dropSlip w_4_117 [1, 2] rfl dX5_takeTurn_186 rfl rfl rfl rfl ⟨by decide, by decide⟩ (Nat.le_of_ble_eq_true rfl) ?_
  rintro _ _ ⟨f_1, rfl, rfl, hR_2⟩
  have hW_3 : Wf (tLose σ ((x / 8) % 20)) := tLose_wf hW
  show ω [(hB, .inr (5, [.ref b1, .ref b2, .ref b3, .ref b4, .ref b5, .ref b6, .ref b7, .ref b8, .ref b9, .ref b10])), (b2, .inr (4, [.ref c2])), (c2, .inl (eI E, 265, .inl f_1))] [(2, .int (nI (x / 8))), (0, .ref hB), (1, .int (nI x))] [.int (bP (((x / 8) % 20) < sS σ))] 189
  refine r_pop C dX5_takeTurn_189 rfl ?_
  exact RT.2.2.1 _ _ _ dX5_takeTurn_190 rfl (⟨_, rfl, rfl, by unfold tuS; rw [if_neg (by omega), if_neg (by omega), if_neg (by omega), if_neg (by omega)]; exact hR_2⟩) rfl
theorem c_X5_takeTurn__all {l : Launch} {E : Ev} {hB b1 b2 b3 b4 b5 b6 b7 b8 b9 b10 : Nat} {c2 : Nat} {f2 : Nat → Int32} {σ : Sg} (hR : RepC σ f2) (hW : Wf σ) {x : Nat} (hx : x < 2147483648) : Ct l E yX5_takeTurn cX5_takeTurn 3 none 4 91 [.ref hB, .int (nI x)] [(hB, .inr (5, [.ref b1, .ref b2, .ref b3, .ref b4, .ref b5, .ref b6, .ref b7, .ref b8, .ref b9, .ref b10])), (b2, .inr (4, [.ref c2])), (c2, .inl (eI E, 265, .inl f2))] (fun v9 w9 => ∃ g2 : Nat → Int32, v9 = none ∧ w9 = [(hB, .inr (5, [.ref b1, .ref b2, .ref b3, .ref b4, .ref b5, .ref b6, .ref b7, .ref b8, .ref b9, .ref b10])), (b2, .inr (4, [.ref c2])), (c2, .inl (eI E, 265, .inl g2))] ∧ RepC (tuS σ x) g2) := by
  rcases (by omega : x % 8 = 0 ∨ x % 8 = 1 ∨ x % 8 = 2 ∨ x % 8 = 3 ∨ x % 8 = 4 ∨ x % 8 = 5 ∨ x % 8 = 6 ∨ x % 8 = 7) with hm | hm | hm | hm | hm | hm | hm | hm
  · exact c_X5_takeTurn__0 hR hW hx hm
  · exact c_X5_takeTurn__1 hR hW hx hm
  · exact c_X5_takeTurn__2 hR hW hx hm
  · exact c_X5_takeTurn__3 hR hW hx hm
  · exact c_X5_takeTurn__4 hR hW hx hm
  · exact c_X5_takeTurn__5 hR hW hx hm
  · exact c_X5_takeTurn__6 hR hW hx hm
  · exact c_X5_takeTurn__7 hR hW hx hm
set_option maxRecDepth 100000 in
set_option maxHeartbeats 1000000 in
theorem c_X5_simulate {l : Launch} {E : Ev} {hB b1 b2 b3 b4 b5 b6 b7 b8 b9 b10 : Nat} {c1 : Nat} {f : Nat → Int32} {σ : Sg} (hR : RepC σ f) (hW : Wf σ) {c2 b11 sd st : Nat} {f2 : Nat → Int32} {e1 e2 e3 par fre pri sls drk pla tks : Nat} {t1 t2 t3 : Nat → Int32} {g1 g2 g3 par1 fre1 pri1 sls1 drk1 pla1 tks1 : Nat} {r1 r2 r3 : Nat → Int32} {x : Int64} {m : Nat} (hm : 1 ≤ m ∧ m ≤ 60) : Ct l E yX5_simulate cX5_simulate 7 (some FieldType.int) 6 117 [.ref hB, .long x, .int (nI m)] [(hB, .inr (5, [.ref b1, .ref b2, .ref b3, .ref b4, .ref b5, .ref b6, .ref b7, .ref b8, .ref b9, .ref b10])), (b1, .inr (4, [.ref c1])), (c1, .inl (eI E, 265, .inl f)), (b2, .inr (4, [.ref c2])), (c2, .inl (eI E, 265, .inl f2)), (b7, .inr (0, [.ref e1, .ref e2, .ref e3, .int (nI par), .int (nI fre), .int (nI pri), .int (nI sls), .int (nI drk), .int (nI pla), .int (nI tks)])), (e1, .inl (eI E, 6, .inl t1)), (e2, .inl (eI E, 6, .inl t2)), (e3, .inl (eI E, 6, .inl t3)), (b9, .inr (3, [.ref b11, .int (nI sd), .int (nI st)])), (b11, .inr (0, [.ref g1, .ref g2, .ref g3, .int (nI par1), .int (nI fre1), .int (nI pri1), .int (nI sls1), .int (nI drk1), .int (nI pla1), .int (nI tks1)])), (g1, .inl (eI E, 6, .inl r1)), (g2, .inl (eI E, 6, .inl r2)), (g3, .inl (eI E, 6, .inl r3))] (fun v9 w9 => ∃ (fx : Nat → Int32) (sd2 st2 par2 fre2 pri2 sls2 drk2 pla2 tks2 par12 fre12 pri12 sls12 drk12 pla12 tks12 : Nat) (ta tb tc ua ub uc : Nat → Int32), v9 = some (.int (nI (100000 * dkS (siS σ x m) 20 + tkS (siS σ x m) 20))) ∧ w9 = [(hB, .inr (5, [.ref b1, .ref b2, .ref b3, .ref b4, .ref b5, .ref b6, .ref b7, .ref b8, .ref b9, .ref b10])), (b1, .inr (4, [.ref c1])), (c1, .inl (eI E, 265, .inl f)), (b2, .inr (4, [.ref c2])), (c2, .inl (eI E, 265, .inl fx)), (b7, .inr (0, [.ref e1, .ref e2, .ref e3, .int (nI par2), .int (nI fre2), .int (nI pri2), .int (nI sls2), .int (nI drk2), .int (nI pla2), .int (nI tks2)])), (e1, .inl (eI E, 6, .inl ta)), (e2, .inl (eI E, 6, .inl tb)), (e3, .inl (eI E, 6, .inl tc)), (b9, .inr (3, [.ref b11, .int (nI sd2), .int (nI st2)])), (b11, .inr (0, [.ref g1, .ref g2, .ref g3, .int (nI par12), .int (nI fre12), .int (nI pri12), .int (nI sls12), .int (nI drk12), .int (nI pla12), .int (nI tks12)])), (g1, .inl (eI E, 6, .inl ua)), (g2, .inl (eI E, 6, .inl ub)), (g3, .inl (eI E, 6, .inl uc))]) := by
  have hwP := hW.P
  have hwA := hW.A
  have hwS := hW.S
  refine ct_of (by decide +kernel) (Nat.le_of_ble_eq_true rfl) (fun ω C RT => ?_)
  show ω [(hB, .inr (5, [.ref b1, .ref b2, .ref b3, .ref b4, .ref b5, .ref b6, .ref b7, .ref b8, .ref b9, .ref b10])), (b1, .inr (4, [.ref c1])), (c1, .inl (eI E, 265, .inl f)), (b2, .inr (4, [.ref c2])), (c2, .inl (eI E, 265, .inl f2)), (b7, .inr (0, [.ref e1, .ref e2, .ref e3, .int (nI par), .int (nI fre), .int (nI pri), .int (nI sls), .int (nI drk), .int (nI pla), .int (nI tks)])), (e1, .inl (eI E, 6, .inl t1)), (e2, .inl (eI E, 6, .inl t2)), (e3, .inl (eI E, 6, .inl t3)), (b9, .inr (3, [.ref b11, .int (nI sd), .int (nI st)])), (b11, .inr (0, [.ref g1, .ref g2, .ref g3, .int (nI par1), .int (nI fre1), .int (nI pri1), .int (nI sls1), .int (nI drk1), .int (nI pla1), .int (nI tks1)])), (g1, .inl (eI E, 6, .inl r1)), (g2, .inl (eI E, 6, .inl r2)), (g3, .inl (eI E, 6, .inl r3))] [(0, .ref hB), (1, .long x), (3, .int (nI m))] [] 0
  refine r_iload_n C (i := 3) 2 dX5_simulate_0 rfl rfl ?_
  refine r_iconst C dX5_simulate_1 ki_1 ?_
  refine r_icmp_ltF C (tgt := 11) dX5_simulate_2 (by decide) (fun z => ((by omega) : ¬ (m < 1)) ((c_ltNN (by omega) (by omega)).mp z)) ?_
  refine r_iload_n C (i := 3) 2 dX5_simulate_5 rfl rfl ?_
  refine r_bipush C dX5_simulate_6 kb_60 ?_
  refine r_icmp_leT C 22 dX5_simulate_8 (by decide) ((c_leNN (by omega) (by omega)).mpr (by omega)) ?_
  refine r_aload_n C (i := 0) 0 dX5_simulate_22 rfl rfl ?_
  refine r_get C 0 1 uX5 rfl rfl (by decide) w_1_129 rfl dX5_simulate_23 ?_
  refine r_aload_n C (i := 0) 0 dX5_simulate_26 rfl rfl ?_
  refine r_get C 0 0 uX5 rfl rfl (by decide) w_1_128 rfl dX5_simulate_27 ?_
  refine r_callV (rest := []) C (c_X4_copyOf (h0 := b2) (q1 := c2) (h2 := b1) (q3 := c1) (f := f2) (g := f) (σ := σ) (hR := hR) (hW := hW)) lk_X4_copyOf w_4_191 [3, 4, 1, 2] rfl dX5_simulate_30 rfl rfl rfl rfl ⟨by decide, by decide⟩ (Nat.le_of_ble_eq_true rfl) ?_
  rintro _ _ ⟨f_1, rfl, rfl, hR_2⟩
  show ω [(hB, .inr (5, [.ref b1, .ref b2, .ref b3, .ref b4, .ref b5, .ref b6, .ref b7, .ref b8, .ref b9, .ref b10])), (b1, .inr (4, [.ref c1])), (c1, .inl (eI E, 265, .inl f)), (b2, .inr (4, [.ref c2])), (c2, .inl (eI E, 265, .inl f_1)), (b7, .inr (0, [.ref e1, .ref e2, .ref e3, .int (nI par), .int (nI fre), .int (nI pri), .int (nI sls), .int (nI drk), .int (nI pla), .int (nI tks)])), (e1, .inl (eI E, 6, .inl t1)), (e2, .inl (eI E, 6, .inl t2)), (e3, .inl (eI E, 6, .inl t3)), (b9, .inr (3, [.ref b11, .int (nI sd), .int (nI st)])), (b11, .inr (0, [.ref g1, .ref g2, .ref g3, .int (nI par1), .int (nI fre1), .int (nI pri1), .int (nI sls1), .int (nI drk1), .int (nI pla1), .int (nI tks1)])), (g1, .inl (eI E, 6, .inl r1)), (g2, .inl (eI E, 6, .inl r2)), (g3, .inl (eI E, 6, .inl r3))] [(0, .ref hB), (1, .long x), (3, .int (nI m))] [] 33
  refine r_lload_n C (i := 1) 1 dX5_simulate_33 rfl rfl ?_
  refine r_lstore C (lv' := [(4, .long x), (0, .ref hB), (1, .long x), (3, .int (nI m))]) dX5_simulate_34 (by decide) rfl ?_
  refine r_iconst C dX5_simulate_36 ki_0 ?_
  refine r_istore C (lv' := [(6, .int (nI 0)), (4, .long x), (0, .ref hB), (1, .long x), (3, .int (nI m))]) dX5_simulate_37 (by decide) rfl ?_
  have loop39_3 : ∀ (dd9 : Nat) (k : Nat) (xx : Int64) (s4 : Nat → Int32), m - k < dd9 → (k ≤ m) → (xx = sx x k) → (RepC (siS σ x k) s4) → (Wf (siS σ x k)) → ω [(hB, .inr (5, [.ref b1, .ref b2, .ref b3, .ref b4, .ref b5, .ref b6, .ref b7, .ref b8, .ref b9, .ref b10])), (b1, .inr (4, [.ref c1])), (c1, .inl (eI E, 265, .inl f)), (b2, .inr (4, [.ref c2])), (c2, .inl (eI E, 265, .inl s4)), (b7, .inr (0, [.ref e1, .ref e2, .ref e3, .int (nI par), .int (nI fre), .int (nI pri), .int (nI sls), .int (nI drk), .int (nI pla), .int (nI tks)])), (e1, .inl (eI E, 6, .inl t1)), (e2, .inl (eI E, 6, .inl t2)), (e3, .inl (eI E, 6, .inl t3)), (b9, .inr (3, [.ref b11, .int (nI sd), .int (nI st)])), (b11, .inr (0, [.ref g1, .ref g2, .ref g3, .int (nI par1), .int (nI fre1), .int (nI pri1), .int (nI sls1), .int (nI drk1), .int (nI pla1), .int (nI tks1)])), (g1, .inl (eI E, 6, .inl r1)), (g2, .inl (eI E, 6, .inl r2)), (g3, .inl (eI E, 6, .inl r3))] [(6, .int (nI k)), (4, .long xx), (0, .ref hB), (1, .long x), (3, .int (nI m))] [] 39 := by
    intro dd9
    induction dd9 with
    | zero => intro k xx s4 hd; exact absurd hd (Nat.not_lt_zero _)
    | succ dd9 ih4 =>
      intro k xx s4 hd hk hxx hr4 hw4
      have hlt := hi31_lt (lcg xx)
      refine r_iload C (i := 6) 0 dX5_simulate_39 rfl ?_
      refine r_iload_n C (i := 3) 4 dX5_simulate_41 rfl rfl ?_
      refine r_icmp_ge C (c9 := m ≤ k) 73 dX5_simulate_42 (by decide) (c_leNN (by omega) (by omega)) (fun h42_5 => ?_) (fun h42_5 => ?_)
      · refine r_aload_n C (i := 0) 2 dX5_simulate_73 rfl rfl ?_
        refine r_get C 0 8 uX5 rfl rfl (by decide) w_1_136 rfl dX5_simulate_74 ?_
        refine r_aload_n C (i := 0) 2 dX5_simulate_77 rfl rfl ?_
        refine r_get C 0 1 uX5 rfl rfl (by decide) w_1_129 rfl dX5_simulate_78 ?_
        refine r_callV (rest := []) C (c_X3_tally (hZ := b9) (sd := sd) (st := st) (hE := b11) (e1 := g1) (e2 := g2) (e3 := g3) (par := par1) (fre := fre1) (pri := pri1) (sls := sls1) (drk := drk1) (pla := pla1) (tks := tks1) (t1 := r1) (t2 := r2) (t3 := r3) (h0 := b2) (q1 := c2) (f := s4) (σ := (siS σ x k)) (hR := hr4) (hW := hw4)) lk_X3_tally w_3_48 [9, 10, 11, 12, 13, 3, 4] rfl dX5_simulate_81 rfl rfl rfl rfl ⟨by decide, by decide⟩ (Nat.le_of_ble_eq_true rfl) ?_
        rintro _ _ ⟨par_6, fre_7, pri_8, sls_9, drk_10, pla_11, tks_12, ta_13, tb_14, tc_15, rfl, rfl⟩
        show ω [(hB, .inr (5, [.ref b1, .ref b2, .ref b3, .ref b4, .ref b5, .ref b6, .ref b7, .ref b8, .ref b9, .ref b10])), (b1, .inr (4, [.ref c1])), (c1, .inl (eI E, 265, .inl f)), (b2, .inr (4, [.ref c2])), (c2, .inl (eI E, 265, .inl s4)), (b7, .inr (0, [.ref e1, .ref e2, .ref e3, .int (nI par), .int (nI fre), .int (nI pri), .int (nI sls), .int (nI drk), .int (nI pla), .int (nI tks)])), (e1, .inl (eI E, 6, .inl t1)), (e2, .inl (eI E, 6, .inl t2)), (e3, .inl (eI E, 6, .inl t3)), (b9, .inr (3, [.ref b11, .int (nI (dkS (siS σ x k) 20)), .int (nI (tkS (siS σ x k) 20))])), (b11, .inr (0, [.ref g1, .ref g2, .ref g3, .int (nI par_6), .int (nI fre_7), .int (nI pri_8), .int (nI sls_9), .int (nI drk_10), .int (nI pla_11), .int (nI tks_12)])), (g1, .inl (eI E, 6, .inl ta_13)), (g2, .inl (eI E, 6, .inl tb_14)), (g3, .inl (eI E, 6, .inl tc_15))] [(6, .int (nI k)), (4, .long xx), (0, .ref hB), (1, .long x), (3, .int (nI m))] [] 84
        refine r_ldcw (v := nI 100000) C dX5_simulate_84 w_5_52 ?_
        refine r_aload_n C (i := 0) 2 dX5_simulate_87 rfl rfl ?_
        refine r_get C 0 8 uX5 rfl rfl (by decide) w_1_136 rfl dX5_simulate_88 ?_
        refine r_readV (rest := [.int (nI 100000)]) C (c_X3_dark (hZ := b9) (hE := b11) (sd := dkS (siS σ x k) 20) (st := tkS (siS σ x k) 20) ) lk_X3_dark w_3_133 [9] rfl dX5_simulate_91 rfl rfl rfl rfl ⟨by decide, by decide⟩ (Nat.le_of_ble_eq_true rfl) (st' := [.int (nI (dkS (siS σ x k) 20)), .int (nI 100000)]) rfl ?_
        refine r_imul (v := nI (100000 * (dkS (siS σ x k) 20))) C dX5_simulate_94 (pk_mul _ _) ?_
        refine r_aload_n C (i := 0) 2 dX5_simulate_95 rfl rfl ?_
        refine r_get C 0 8 uX5 rfl rfl (by decide) w_1_136 rfl dX5_simulate_96 ?_
        refine r_readV (rest := [.int (nI (100000 * (dkS (siS σ x k) 20)))]) C (c_X3_takings (hZ := b9) (hE := b11) (sd := dkS (siS σ x k) 20) (st := tkS (siS σ x k) 20) ) lk_X3_takings w_3_137 [9] rfl dX5_simulate_99 rfl rfl rfl rfl ⟨by decide, by decide⟩ (Nat.le_of_ble_eq_true rfl) (st' := [.int (nI (tkS (siS σ x k) 20)), .int (nI (100000 * (dkS (siS σ x k) 20)))]) rfl ?_
        refine r_iadd (v := nI ((100000 * (dkS (siS σ x k) 20)) + (tkS (siS σ x k) 20))) C dX5_simulate_102 (nI_add _ _) ?_
        exact RT.1 _ _ _ _ _ dX5_simulate_103 rfl rfl (⟨_, _, _, _, _, _, _, _, _, _, _, _, _, _, _, _, _, _, _, _, _, _, _, sv (congrArg nI (by rw [(by omega : k = m)])), rfl⟩) rfl
      · refine r_lload C (i := 4) 1 dX5_simulate_45 rfl ?_
        refine r_ldc2 (v := lN 6364136223846793005) C dX5_simulate_47 w_5_46 ?_
        refine r_lmul (v := (xx * lN 6364136223846793005)) C dX5_simulate_50 rfl ?_
        refine r_ldc2 (v := lN 1442695040888963407) C dX5_simulate_51 w_5_47 ?_
        refine r_ladd (v := lcg xx) C dX5_simulate_54 rfl ?_
        refine r_lstore C (lv' := [(4, .long (lcg xx)), (6, .int (nI k)), (0, .ref hB), (1, .long x), (3, .int (nI m))]) dX5_simulate_55 (by decide) rfl ?_
        refine r_aload_n C (i := 0) 2 dX5_simulate_57 rfl rfl ?_
        refine r_lload C (i := 4) 0 dX5_simulate_58 rfl ?_
        refine r_bipush C dX5_simulate_60 kb_33 ?_
        refine r_lushr (v := ((lcg xx).toUInt64 >>> ((nI 33).toInt64.toUInt64 &&& Int64.toUInt64 63)).toInt64) C dX5_simulate_62 rfl ?_
        refine r_l2i (v := nI (hi31 (lcg xx))) C dX5_simulate_63 (hi31_e _) ?_
        refine r_callV (rest := []) C (c_X5_takeTurn__all (hB := hB) (b1 := b1) (b2 := b2) (b3 := b3) (b4 := b4) (b5 := b5) (b6 := b6) (b7 := b7) (b8 := b8) (b9 := b9) (b10 := b10) (c2 := c2) (f2 := s4) (σ := (siS σ x k)) (x := hi31 (lcg xx)) (hR := hr4) (hW := hw4) (hx := (by omega))) lk_X5_takeTurn w_5_48 [0, 3, 4] rfl dX5_simulate_64 rfl rfl rfl rfl ⟨by decide, by decide⟩ (Nat.le_of_ble_eq_true rfl) ?_
        rintro _ _ ⟨g_16, rfl, rfl, hR_17⟩
        have hW_18 : Wf (tuS (siS σ x k) (hi31 (lcg xx))) := tuS_wf hw4 (hi31 (lcg xx))
        show ω [(hB, .inr (5, [.ref b1, .ref b2, .ref b3, .ref b4, .ref b5, .ref b6, .ref b7, .ref b8, .ref b9, .ref b10])), (b1, .inr (4, [.ref c1])), (c1, .inl (eI E, 265, .inl f)), (b2, .inr (4, [.ref c2])), (c2, .inl (eI E, 265, .inl g_16)), (b7, .inr (0, [.ref e1, .ref e2, .ref e3, .int (nI par), .int (nI fre), .int (nI pri), .int (nI sls), .int (nI drk), .int (nI pla), .int (nI tks)])), (e1, .inl (eI E, 6, .inl t1)), (e2, .inl (eI E, 6, .inl t2)), (e3, .inl (eI E, 6, .inl t3)), (b9, .inr (3, [.ref b11, .int (nI sd), .int (nI st)])), (b11, .inr (0, [.ref g1, .ref g2, .ref g3, .int (nI par1), .int (nI fre1), .int (nI pri1), .int (nI sls1), .int (nI drk1), .int (nI pla1), .int (nI tks1)])), (g1, .inl (eI E, 6, .inl r1)), (g2, .inl (eI E, 6, .inl r2)), (g3, .inl (eI E, 6, .inl r3))] [(4, .long (lcg xx)), (6, .int (nI k)), (0, .ref hB), (1, .long x), (3, .int (nI m))] [] 67
        refine r_iinc C (lv' := [(6, .int (nI (k + 1))), (4, .long (lcg xx)), (0, .ref hB), (1, .long x), (3, .int (nI m))]) (v := nI (k + 1)) 1 dX5_simulate_67 rfl (v_inc _) (by decide) rfl ?_
        refine r_goto C 39 dX5_simulate_70 (by decide) ?_
        exact ih4 (k + 1) (lcg xx) g_16 (by omega) (by omega) (by rw [sx, hxx]) (by rw [siS, sx, ← hxx]; exact hR_17) (siS_wf hW x (k + 1))
  exact loop39_3 _ 0 x f_1 (Nat.lt_succ_self _) (by omega) rfl hR_2 hW
