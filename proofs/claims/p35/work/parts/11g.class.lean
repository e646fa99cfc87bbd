set_option maxRecDepth 100000 in
set_option maxHeartbeats 1000000 in
theorem c_X2_size {l : Launch} {E : Ev} {b6 c6 sz : Nat} {tx : Nat → Int32} : Cr l E yX2_size cX2_size 1 (some FieldType.int) 0 0 [.ref b6] [(b6, .inr (2, [.ref c6, .int (nI sz)])), (c6, .inl (eI E, 120, .inl tx))] (some (.int (nI sz))) := by
  refine ct_of (by decide +kernel) (Nat.le_of_ble_eq_true rfl) (fun ω C RT => ?_)
  show ω [(b6, .inr (2, [.ref c6, .int (nI sz)])), (c6, .inl (eI E, 120, .inl tx))] [(0, .ref b6)] [] 0
  refine r_aload_n C (i := 0) 0 dX2_size_0 rfl rfl ?_
  refine r_get C 0 1 uX2 rfl rfl (by decide) w_1_66 rfl dX2_size_1 ?_
  exact RT.1 _ _ _ _ _ dX2_size_4 rfl rfl (rd_i rfl) rfl
set_option maxRecDepth 100000 in
set_option maxHeartbeats 1000000 in
theorem c_X2_isFull {l : Launch} {E : Ev} {b6 c6 sz : Nat} {tx : Nat → Int32} (hz : sz ≤ 120) : Cr l E yX2_isFull cX2_isFull 1 (some FieldType.boolean) 0 0 [.ref b6] [(b6, .inr (2, [.ref c6, .int (nI sz)])), (c6, .inl (eI E, 120, .inl tx))] (some (.int (bP (120 ≤ sz)))) := by
  refine ct_of (by decide +kernel) (Nat.le_of_ble_eq_true rfl) (fun ω C RT => ?_)
  show ω [(b6, .inr (2, [.ref c6, .int (nI sz)])), (c6, .inl (eI E, 120, .inl tx))] [(0, .ref b6)] [] 0
  refine r_aload_n C (i := 0) 0 dX2_isFull_0 rfl rfl ?_
  refine r_get C 0 1 uX2 rfl rfl (by decide) w_1_66 rfl dX2_isFull_1 ?_
  refine r_bipush C dX2_isFull_4 kb_120 ?_
  refine r_icmp_lt C (c9 := sz < 120) 13 dX2_isFull_6 (by decide) (c_ltNN (by omega) (by omega)) (fun h6_1 => ?_) (fun h6_1 => ?_)
  · refine r_iconst C dX2_isFull_13 ki_0 ?_
    exact RT.1 _ _ _ _ _ dX2_isFull_14 rfl nar_0 (rd_i (bP_f (by omega))) rfl
  · refine r_iconst C dX2_isFull_9 ki_1 ?_
    refine r_goto C 14 dX2_isFull_10 (by decide) ?_
    exact RT.1 _ _ _ _ _ dX2_isFull_14 rfl nar_1 (rd_i (bP_t (by omega))) rfl
set_option maxRecDepth 100000 in
set_option maxHeartbeats 1000000 in
theorem c_X2_add {l : Launch} {E : Ev} {b6 c6 sz : Nat} {tx : Nat → Int32} {c : Nat} (hz : sz < 120) (hc : c < 256) : Ct l E yX2_add cX2_add 2 none 0 0 [.ref b6, .int (nI c)] [(b6, .inr (2, [.ref c6, .int (nI sz)])), (c6, .inl (eI E, 120, .inl tx))] (fun v9 w9 => v9 = none ∧ w9 = [(b6, .inr (2, [.ref c6, .int (nI (sz + 1))])), (c6, .inl (eI E, 120, .inl (upd tx sz (nI c))))]) := by
  refine ct_of (by decide +kernel) (Nat.le_of_ble_eq_true rfl) (fun ω C RT => ?_)
  show ω [(b6, .inr (2, [.ref c6, .int (nI sz)])), (c6, .inl (eI E, 120, .inl tx))] [(0, .ref b6), (1, .int (nI c))] [] 0
  refine r_aload_n C (i := 0) 0 dX2_add_0 rfl rfl ?_
  refine r_get C 0 1 uX2 rfl rfl (by decide) w_1_66 rfl dX2_add_1 ?_
  refine r_if_ltF C (y := 0) (tgt := 36) dX2_add_4 (by decide) (fun z => ((by omega) : ¬ (sz < 0)) ((z_ltN (by omega)).mp z)) ?_
  refine r_aload_n C (i := 0) 0 dX2_add_7 rfl rfl ?_
  refine r_get C 0 1 uX2 rfl rfl (by decide) w_1_66 rfl dX2_add_8 ?_
  refine r_bipush C dX2_add_11 kb_120 ?_
  refine r_icmp_geF C (tgt := 36) dX2_add_13 (by decide) (fun z => ((by omega) : ¬ (120 ≤ sz)) ((c_leNN (by omega) (by omega)).mp z)) ?_
  refine r_aload_n C (i := 0) 0 dX2_add_16 rfl rfl ?_
  refine r_get C 0 0 uX2 rfl rfl (by decide) w_1_65 rfl dX2_add_17 ?_
  refine r_aload_n C (i := 0) 0 dX2_add_20 rfl rfl ?_
  refine r_get C 0 1 uX2 rfl rfl (by decide) w_1_66 rfl dX2_add_21 ?_
  refine r_iload_n C (i := 1) 1 dX2_add_24 rfl rfl ?_
  refine r_iast (j := sz) (ws' := [(b6, .inr (2, [.ref c6, .int (nI sz)])), (c6, .inl (eI E, 120, .inl (upd tx sz (nI c))))]) C 1 rfl (by omega) (by decide) rfl dX2_add_25 ?_
  refine r_aload_n C (i := 0) 0 dX2_add_26 rfl rfl ?_
  refine r_dup C dX2_add_27 rfl ?_
  refine r_get C 0 1 uX2 rfl rfl (by decide) w_1_66 rfl dX2_add_28 ?_
  refine r_iconst C dX2_add_31 ki_1 ?_
  refine r_iadd (v := nI (sz + 1)) C dX2_add_32 (nI_add _ _) ?_
  refine r_put (ws' := [(b6, .inr (2, [.ref c6, .int (nI (sz + 1))])), (c6, .inl (eI E, 120, .inl (upd tx sz (nI c))))]) C 0 1 uX2 rfl tyX2_ok nmX2 rfl (by decide) w_1_66 rfl (tyX2_ok 1 (by decide)) rfl rfl (Nat.le_of_ble_eq_true rfl) rfl dX2_add_33 ?_
  exact RT.2.2.1 _ _ _ dX2_add_36 rfl (⟨rfl, rfl⟩) rfl
set_option maxRecDepth 100000 in
set_option maxHeartbeats 1000000 in
theorem c_X5_append {l : Launch} {E : Ev} {hB b1 b2 b3 b4 b5 b6 b7 b8 b9 b10 : Nat} {c6 sz : Nat} {tx : Nat → Int32} {c : Nat} (hz : sz < 120) (hc : c < 256) : Ct l E yX5_append cX5_append 2 (some FieldType.int) 6 90 [.ref hB, .int (nI c)] [(hB, .inr (5, [.ref b1, .ref b2, .ref b3, .ref b4, .ref b5, .ref b6, .ref b7, .ref b8, .ref b9, .ref b10])), (b6, .inr (2, [.ref c6, .int (nI sz)])), (c6, .inl (eI E, 120, .inl tx))] (fun v9 w9 => v9 = some (.int (nI (sz + 1))) ∧ w9 = [(hB, .inr (5, [.ref b1, .ref b2, .ref b3, .ref b4, .ref b5, .ref b6, .ref b7, .ref b8, .ref b9, .ref b10])), (b6, .inr (2, [.ref c6, .int (nI (sz + 1))])), (c6, .inl (eI E, 120, .inl (upd tx sz (nI c))))]) := by
  refine ct_of (by decide +kernel) (Nat.le_of_ble_eq_true rfl) (fun ω C RT => ?_)
  show ω [(hB, .inr (5, [.ref b1, .ref b2, .ref b3, .ref b4, .ref b5, .ref b6, .ref b7, .ref b8, .ref b9, .ref b10])), (b6, .inr (2, [.ref c6, .int (nI sz)])), (c6, .inl (eI E, 120, .inl tx))] [(0, .ref hB), (1, .int (nI c))] [] 0
  refine r_iload_n C (i := 1) 1 dX5_append_0 rfl rfl ?_
  refine r_if_ltF C (y := 0) (tgt := 11) dX5_append_1 (by decide) (fun z => ((by omega) : ¬ (c < 0)) ((z_ltN (by omega)).mp z)) ?_
  refine r_iload_n C (i := 1) 1 dX5_append_4 rfl rfl ?_
  refine r_sipush C dX5_append_5 ks_255 ?_
  refine r_icmp_leT C 21 dX5_append_8 (by decide) ((c_leNN (by omega) (by omega)).mpr (by omega)) ?_
  refine r_aload_n C (i := 0) 0 dX5_append_21 rfl rfl ?_
  refine r_get C 0 5 uX5 rfl rfl (by decide) w_1_133 rfl dX5_append_22 ?_
  refine r_readV (rest := []) C (c_X2_isFull (b6 := b6) (c6 := c6) (sz := sz) (tx := tx) (hz := (by omega))) lk_X2_isFull w_2_69 [1, 2] rfl dX5_append_25 rfl rfl rfl rfl ⟨by decide, by decide⟩ (Nat.le_of_ble_eq_true rfl) (st' := [.int (bP (120 ≤ sz))]) rfl ?_
  refine r_if_eqT C (y := 0) 41 dX5_append_28 (by decide) (z_eqB.mpr (by omega)) ?_
  refine r_aload_n C (i := 0) 0 dX5_append_41 rfl rfl ?_
  refine r_get C 0 5 uX5 rfl rfl (by decide) w_1_133 rfl dX5_append_42 ?_
  refine r_iload_n C (i := 1) 1 dX5_append_45 rfl rfl ?_
  refine r_callV (rest := []) C (c_X2_add (b6 := b6) (c6 := c6) (sz := sz) (tx := tx) (c := c) (hz := (by omega)) (hc := (by omega))) lk_X2_add w_2_89 [1, 2] rfl dX5_append_46 rfl rfl rfl rfl ⟨by decide, by decide⟩ (Nat.le_of_ble_eq_true rfl) ?_
  rintro _ _ ⟨rfl, rfl⟩
  show ω [(hB, .inr (5, [.ref b1, .ref b2, .ref b3, .ref b4, .ref b5, .ref b6, .ref b7, .ref b8, .ref b9, .ref b10])), (b6, .inr (2, [.ref c6, .int (nI (sz + 1))])), (c6, .inl (eI E, 120, .inl (upd tx sz (nI c))))] [(0, .ref hB), (1, .int (nI c))] [] 49
  refine r_aload_n C (i := 0) 0 dX5_append_49 rfl rfl ?_
  refine r_get C 0 5 uX5 rfl rfl (by decide) w_1_133 rfl dX5_append_50 ?_
  refine r_readV (rest := []) C (c_X2_size (b6 := b6) (c6 := c6) (sz := sz + 1) (tx := upd tx sz (nI c)) ) lk_X2_size w_2_93 [1, 2] rfl dX5_append_53 rfl rfl rfl rfl ⟨by decide, by decide⟩ (Nat.le_of_ble_eq_true rfl) (st' := [.int (nI (sz + 1))]) rfl ?_
  exact RT.1 _ _ _ _ _ dX5_append_56 rfl rfl (⟨rfl, rfl⟩) rfl
set_option maxRecDepth 100000 in
set_option maxHeartbeats 1000000 in
theorem c_X5_partsChanged {l : Launch} {E : Ev} {hB b1 b2 b3 b4 b5 b6 b7 b8 b9 b10 : Nat} {c1 : Nat} {f : Nat → Int32} {σ : Sg} (hR : RepC σ f) (hW : Wf σ) {e1 e2 e3 par fre pri sls drk pla tks : Nat} {t1 t2 t3 : Nat → Int32} {g1 g2 g3 par1 fre1 pri1 sls1 drk1 pla1 tks1 : Nat} {r1 r2 r3 : Nat → Int32} {sg2 : Sg} {n : Nat} (hn : n < 20) (hEv : EvI σ n par drk pla tks t1 t2 t3) (hEv2 : EvI sg2 n par1 drk1 pla1 tks1 r1 r2 r3) (hW2 : Wf sg2) (hPP : sP sg2 = sP σ) : Cr l E yX5_partsChanged cX5_partsChanged 3 (some FieldType.int) 1 21 [.ref hB] [(hB, .inr (5, [.ref b1, .ref b2, .ref b3, .ref b4, .ref b5, .ref b6, .ref b7, .ref b8, .ref b9, .ref b10])), (b1, .inr (4, [.ref c1])), (c1, .inl (eI E, 265, .inl f)), (b7, .inr (0, [.ref e1, .ref e2, .ref e3, .int (nI par), .int (nI fre), .int (nI pri), .int (nI sls), .int (nI drk), .int (nI pla), .int (nI tks)])), (e1, .inl (eI E, 6, .inl t1)), (e2, .inl (eI E, 6, .inl t2)), (e3, .inl (eI E, 6, .inl t3)), (b8, .inr (0, [.ref g1, .ref g2, .ref g3, .int (nI par1), .int (nI fre1), .int (nI pri1), .int (nI sls1), .int (nI drk1), .int (nI pla1), .int (nI tks1)])), (g1, .inl (eI E, 6, .inl r1)), (g2, .inl (eI E, 6, .inl r2)), (g3, .inl (eI E, 6, .inl r3))] (some (.int (nI (chg σ sg2 n)))) := by
  have hwP := hW.P
  have hwA := hW.A
  have hwS := hW.S
  refine ct_of (by decide +kernel) (Nat.le_of_ble_eq_true rfl) (fun ω C RT => ?_)
  show ω [(hB, .inr (5, [.ref b1, .ref b2, .ref b3, .ref b4, .ref b5, .ref b6, .ref b7, .ref b8, .ref b9, .ref b10])), (b1, .inr (4, [.ref c1])), (c1, .inl (eI E, 265, .inl f)), (b7, .inr (0, [.ref e1, .ref e2, .ref e3, .int (nI par), .int (nI fre), .int (nI pri), .int (nI sls), .int (nI drk), .int (nI pla), .int (nI tks)])), (e1, .inl (eI E, 6, .inl t1)), (e2, .inl (eI E, 6, .inl t2)), (e3, .inl (eI E, 6, .inl t3)), (b8, .inr (0, [.ref g1, .ref g2, .ref g3, .int (nI par1), .int (nI fre1), .int (nI pri1), .int (nI sls1), .int (nI drk1), .int (nI pla1), .int (nI tks1)])), (g1, .inl (eI E, 6, .inl r1)), (g2, .inl (eI E, 6, .inl r2)), (g3, .inl (eI E, 6, .inl r3))] [(0, .ref hB)] [] 0
  refine r_iconst C dX5_partsChanged_0 ki_0 ?_
  refine r_istore_n C (lv' := [(1, .int (nI 0)), (0, .ref hB)]) dX5_partsChanged_1 rfl (by decide) rfl ?_
  refine r_iconst C dX5_partsChanged_2 ki_0 ?_
  refine r_istore_n C (lv' := [(2, .int (nI 0)), (1, .int (nI 0)), (0, .ref hB)]) dX5_partsChanged_3 rfl (by decide) rfl ?_
  have loop4_1 : ∀ (dd9 : Nat) (p : Nat) (x : Nat), sP σ - p < dd9 → (p ≤ sP σ) → (x = bm (fun p => if T σ n p = T sg2 n p then 0 else 1) p) → ω [(hB, .inr (5, [.ref b1, .ref b2, .ref b3, .ref b4, .ref b5, .ref b6, .ref b7, .ref b8, .ref b9, .ref b10])), (b1, .inr (4, [.ref c1])), (c1, .inl (eI E, 265, .inl f)), (b7, .inr (0, [.ref e1, .ref e2, .ref e3, .int (nI par), .int (nI fre), .int (nI pri), .int (nI sls), .int (nI drk), .int (nI pla), .int (nI tks)])), (e1, .inl (eI E, 6, .inl t1)), (e2, .inl (eI E, 6, .inl t2)), (e3, .inl (eI E, 6, .inl t3)), (b8, .inr (0, [.ref g1, .ref g2, .ref g3, .int (nI par1), .int (nI fre1), .int (nI pri1), .int (nI sls1), .int (nI drk1), .int (nI pla1), .int (nI tks1)])), (g1, .inl (eI E, 6, .inl r1)), (g2, .inl (eI E, 6, .inl r2)), (g3, .inl (eI E, 6, .inl r3))] [(2, .int (nI p)), (1, .int (nI x)), (0, .ref hB)] [] 4 := by
    intro dd9
    induction dd9 with
    | zero => intro p x hd; exact absurd hd (Nat.not_lt_zero _)
    | succ dd9 ih2 =>
      intro p x hd hp hx
      have hxl : x < 64 := by rw [hx]; exact Nat.lt_of_lt_of_le (bm_lt (fun k => by show (if _ then 0 else 1) ≤ 1; split <;> omega) p) (Nat.pow_le_pow_right (by decide) (by omega) : 2 ^ p ≤ 2 ^ 6)
      refine r_iload_n C (i := 2) 0 dX5_partsChanged_4 rfl rfl ?_
      refine r_aload_n C (i := 0) 2 dX5_partsChanged_5 rfl rfl ?_
      refine r_get C 0 0 uX5 rfl rfl (by decide) w_1_128 rfl dX5_partsChanged_6 ?_
      refine r_readV (rest := [.int (nI p)]) C (c_X4_parts (h0 := b1) (q1 := c1) (f := f) (σ := σ) (hR := hR) (hW := hW)) lk_X4_parts w_3_36 [1, 2] rfl dX5_partsChanged_9 rfl rfl rfl rfl ⟨by decide, by decide⟩ (Nat.le_of_ble_eq_true rfl) (st' := [.int (nI (sP σ)), .int (nI p)]) rfl ?_
      refine r_icmp_ge C (c9 := sP σ ≤ p) 46 dX5_partsChanged_12 (by decide) (c_leNN (by omega) (by omega)) (fun h12_3 => ?_) (fun h12_3 => ?_)
      · refine r_iload_n C (i := 1) 1 dX5_partsChanged_46 rfl rfl ?_
        exact RT.1 _ _ _ _ _ dX5_partsChanged_47 rfl rfl (rd_i (congrArg nI (by rw [hx, (by omega : p = sP σ)]; rfl))) rfl
      · have hT1 := T_le hW (show p < sP σ by omega) hn
        have hT2 := T_le hW2 (show p < sP sg2 by omega) hn
        have hA2 := hW2.A
        refine r_aload_n C (i := 0) 2 dX5_partsChanged_15 rfl rfl ?_
        refine r_get C 0 6 uX5 rfl rfl (by decide) w_1_134 rfl dX5_partsChanged_16 ?_
        refine r_iload_n C (i := 2) 0 dX5_partsChanged_19 rfl rfl ?_
        refine r_readV (rest := []) C (c_X0_takenFor (hE := b7) (e1 := e1) (e2 := e2) (e3 := e3) (par := par) (fre := fre) (pri := pri) (sls := sls) (drk := drk) (pla := pla) (tks := tks) (t1 := t1) (t2 := t2) (t3 := t3) (σ := σ) (n := n) (p := p) (hEv := hEv) (hW := hW) (hp := (by omega))) lk_X0_takenFor w_3_198 [3, 4, 5, 6] rfl dX5_partsChanged_20 rfl rfl rfl rfl ⟨by decide, by decide⟩ (Nat.le_of_ble_eq_true rfl) (st' := [.int (mI (T σ n p))]) rfl ?_
        refine r_aload_n C (i := 0) 2 dX5_partsChanged_23 rfl rfl ?_
        refine r_get C 0 7 uX5 rfl rfl (by decide) w_1_135 rfl dX5_partsChanged_24 ?_
        refine r_iload_n C (i := 2) 0 dX5_partsChanged_27 rfl rfl ?_
        refine r_readV (rest := [.int (mI (T σ n p))]) C (c_X0_takenFor (hE := b8) (e1 := g1) (e2 := g2) (e3 := g3) (par := par1) (fre := fre1) (pri := pri1) (sls := sls1) (drk := drk1) (pla := pla1) (tks := tks1) (t1 := r1) (t2 := r2) (t3 := r3) (σ := sg2) (n := n) (p := p) (hEv := hEv2) (hW := hW2) (hp := (by omega))) lk_X0_takenFor w_3_198 [7, 8, 9, 10] rfl dX5_partsChanged_28 rfl rfl rfl rfl ⟨by decide, by decide⟩ (Nat.le_of_ble_eq_true rfl) (st' := [.int (mI (T sg2 n p)), .int (mI (T σ n p))]) rfl ?_
        refine r_icmp_eq C (c9 := T σ n p = T sg2 n p) 40 dX5_partsChanged_31 (by decide) (c_eqMM (by omega) (by omega)) (fun h31_4 => ?_) (fun h31_4 => ?_)
        · refine r_iinc C (lv' := [(2, .int (nI (p + 1))), (1, .int (nI x)), (0, .ref hB)]) (v := nI (p + 1)) 0 dX5_partsChanged_40 rfl (v_inc _) (by decide) rfl ?_
          refine r_goto C 4 dX5_partsChanged_43 (by decide) ?_
          exact ih2 (p + 1) x (by omega) (by omega) (by rw [hx]; exact bm_no (if_pos (by omega)))
        · refine r_iload_n C (i := 1) 1 dX5_partsChanged_34 rfl rfl ?_
          refine r_iconst C dX5_partsChanged_35 ki_1 ?_
          refine r_iload_n C (i := 2) 0 dX5_partsChanged_36 rfl rfl ?_
          refine r_ishl (v := nI (2 ^ p)) C dX5_partsChanged_37 (v_shl (by omega)) ?_
          refine r_ior (v := nI (x ||| (2 ^ p))) C dX5_partsChanged_38 (v_or _ _) ?_
          refine r_istore_n C (lv' := [(1, .int (nI (x ||| (2 ^ p)))), (2, .int (nI p)), (0, .ref hB)]) dX5_partsChanged_39 rfl (by decide) rfl ?_
          refine r_iinc C (lv' := [(2, .int (nI (p + 1))), (1, .int (nI (x ||| (2 ^ p)))), (0, .ref hB)]) (v := nI (p + 1)) 1 dX5_partsChanged_40 rfl (v_inc _) (by decide) rfl ?_
          refine r_goto C 4 dX5_partsChanged_43 (by decide) ?_
          exact ih2 (p + 1) (x ||| (2 ^ p)) (by omega) (by omega) (by rw [hx]; exact bm_or (fun k => by show (if _ then 0 else 1) ≤ 1; split <;> omega) (if_neg (by omega)))
  exact loop4_1 _ 0 0 (Nat.lt_succ_self _) (by omega) rfl
set_option maxRecDepth 100000 in
set_option maxHeartbeats 1000000 in
theorem c_X5_ifIll__0 {l : Launch} {E : Ev} {hB b1 b2 b3 b4 b5 b6 b7 b8 b9 b10 : Nat} {c1 : Nat} {f : Nat → Int32} {σ : Sg} (hR : RepC σ f) (hW : Wf σ) {c2 : Nat} {f2 : Nat → Int32} {e1 e2 e3 par fre pri sls drk pla tks : Nat} {t1 t2 t3 : Nat → Int32} {g1 g2 g3 par1 fre1 pri1 sls1 drk1 pla1 tks1 : Nat} {r1 r2 r3 : Nat → Int32} {a n : Nat} (ha : a < sA σ) (hn : n < 20) : Ct l E yX5_ifIll cX5_ifIll 4 (some FieldType.int) 7 111 [.ref hB, .int (nI a), .int (nI n), .int (nI 0)] [(hB, .inr (5, [.ref b1, .ref b2, .ref b3, .ref b4, .ref b5, .ref b6, .ref b7, .ref b8, .ref b9, .ref b10])), (b1, .inr (4, [.ref c1])), (c1, .inl (eI E, 265, .inl f)), (b2, .inr (4, [.ref c2])), (c2, .inl (eI E, 265, .inl f2)), (b7, .inr (0, [.ref e1, .ref e2, .ref e3, .int (nI par), .int (nI fre), .int (nI pri), .int (nI sls), .int (nI drk), .int (nI pla), .int (nI tks)])), (e1, .inl (eI E, 6, .inl t1)), (e2, .inl (eI E, 6, .inl t2)), (e3, .inl (eI E, 6, .inl t3)), (b8, .inr (0, [.ref g1, .ref g2, .ref g3, .int (nI par1), .int (nI fre1), .int (nI pri1), .int (nI sls1), .int (nI drk1), .int (nI pla1), .int (nI tks1)])), (g1, .inl (eI E, 6, .inl r1)), (g2, .inl (eI E, 6, .inl r2)), (g3, .inl (eI E, 6, .inl r3))] (fun v9 w9 => ∃ (fx : Nat → Int32) (par2 fre2 pri2 sls2 drk2 pla2 tks2 par12 fre12 pri12 sls12 drk12 pla12 tks12 : Nat) (ta tb tc ua ub uc : Nat → Int32), v9 = some (.int (nI (chg σ (oFl σ a n) n))) ∧ w9 = [(hB, .inr (5, [.ref b1, .ref b2, .ref b3, .ref b4, .ref b5, .ref b6, .ref b7, .ref b8, .ref b9, .ref b10])), (b1, .inr (4, [.ref c1])), (c1, .inl (eI E, 265, .inl f)), (b2, .inr (4, [.ref c2])), (c2, .inl (eI E, 265, .inl fx)), (b7, .inr (0, [.ref e1, .ref e2, .ref e3, .int (nI par2), .int (nI fre2), .int (nI pri2), .int (nI sls2), .int (nI drk2), .int (nI pla2), .int (nI tks2)])), (e1, .inl (eI E, 6, .inl ta)), (e2, .inl (eI E, 6, .inl tb)), (e3, .inl (eI E, 6, .inl tc)), (b8, .inr (0, [.ref g1, .ref g2, .ref g3, .int (nI par12), .int (nI fre12), .int (nI pri12), .int (nI sls12), .int (nI drk12), .int (nI pla12), .int (nI tks12)])), (g1, .inl (eI E, 6, .inl ua)), (g2, .inl (eI E, 6, .inl ub)), (g3, .inl (eI E, 6, .inl uc))]) := by
  have hwP := hW.P
  have hwA := hW.A
  have hwS := hW.S
  have hI1 := hW.I a n
  have hbb : bm (fun a => sI σ a n) 10 / 2 ^ a % 2 = sI σ a n := bm_bit (fun a => hW.I a n) (by omega)
  have hbl := bm_lt (fun a => hW.I a n) 10
  refine ct_of (by decide +kernel) (Nat.le_of_ble_eq_true rfl) (fun ω C RT => ?_)
  show ω [(hB, .inr (5, [.ref b1, .ref b2, .ref b3, .ref b4, .ref b5, .ref b6, .ref b7, .ref b8, .ref b9, .ref b10])), (b1, .inr (4, [.ref c1])), (c1, .inl (eI E, 265, .inl f)), (b2, .inr (4, [.ref c2])), (c2, .inl (eI E, 265, .inl f2)), (b7, .inr (0, [.ref e1, .ref e2, .ref e3, .int (nI par), .int (nI fre), .int (nI pri), .int (nI sls), .int (nI drk), .int (nI pla), .int (nI tks)])), (e1, .inl (eI E, 6, .inl t1)), (e2, .inl (eI E, 6, .inl t2)), (e3, .inl (eI E, 6, .inl t3)), (b8, .inr (0, [.ref g1, .ref g2, .ref g3, .int (nI par1), .int (nI fre1), .int (nI pri1), .int (nI sls1), .int (nI drk1), .int (nI pla1), .int (nI tks1)])), (g1, .inl (eI E, 6, .inl r1)), (g2, .inl (eI E, 6, .inl r2)), (g3, .inl (eI E, 6, .inl r3))] [(0, .ref hB), (1, .int (nI a)), (2, .int (nI n)), (3, .int (nI 0))] [] 0
  refine r_aload_n C (i := 0) 0 dX5_ifIll_0 rfl rfl ?_
  refine r_iload_n C (i := 1) 1 dX5_ifIll_1 rfl rfl ?_
  refine r_readV (rest := []) C (c_X5_requireActor (hB := hB) (b1 := b1) (b2 := b2) (b3 := b3) (b4 := b4) (b5 := b5) (b6 := b6) (b7 := b7) (b8 := b8) (b9 := b9) (b10 := b10) (c1 := c1) (f := f) (σ := σ) (a := a) (hR := hR) (hW := hW) (hx := (by omega))) lk_X5_requireActor w_1_167 [0, 1, 2] rfl dX5_ifIll_2 rfl rfl rfl rfl ⟨by decide, by decide⟩ (Nat.le_of_ble_eq_true rfl) (st' := []) rfl ?_
  refine r_iload_n C (i := 2) 2 dX5_ifIll_5 rfl rfl ?_
  refine r_readS (rest := []) C (c_X5_requireNight (n := n) (hn := (by omega))) lk_X5_requireNight w_2_3 [] dX5_ifIll_6 rfl rfl rfl ⟨by decide, by decide⟩ (Nat.le_of_ble_eq_true rfl) (st' := []) rfl ?_
  refine r_iload_n C (i := 3) 3 dX5_ifIll_9 rfl rfl ?_
  refine r_if_eqT C (y := 0) 29 dX5_ifIll_10 (by decide) ((z_eqN (by omega)).mpr (by decide)) ?_
  refine r_aload_n C (i := 0) 0 dX5_ifIll_29 rfl rfl ?_
  refine r_get C 0 1 uX5 rfl rfl (by decide) w_1_129 rfl dX5_ifIll_30 ?_
  refine r_aload_n C (i := 0) 0 dX5_ifIll_33 rfl rfl ?_
  refine r_get C 0 0 uX5 rfl rfl (by decide) w_1_128 rfl dX5_ifIll_34 ?_
  refine r_callV (rest := []) C (c_X4_copyOf (h0 := b2) (q1 := c2) (h2 := b1) (q3 := c1) (f := f2) (g := f) (σ := σ) (hR := hR) (hW := hW)) lk_X4_copyOf w_4_191 [3, 4, 1, 2] rfl dX5_ifIll_37 rfl rfl rfl rfl ⟨by decide, by decide⟩ (Nat.le_of_ble_eq_true rfl) ?_
  rintro _ _ ⟨f_1, rfl, rfl, hR_2⟩
  show ω [(hB, .inr (5, [.ref b1, .ref b2, .ref b3, .ref b4, .ref b5, .ref b6, .ref b7, .ref b8, .ref b9, .ref b10])), (b1, .inr (4, [.ref c1])), (c1, .inl (eI E, 265, .inl f)), (b2, .inr (4, [.ref c2])), (c2, .inl (eI E, 265, .inl f_1)), (b7, .inr (0, [.ref e1, .ref e2, .ref e3, .int (nI par), .int (nI fre), .int (nI pri), .int (nI sls), .int (nI drk), .int (nI pla), .int (nI tks)])), (e1, .inl (eI E, 6, .inl t1)), (e2, .inl (eI E, 6, .inl t2)), (e3, .inl (eI E, 6, .inl t3)), (b8, .inr (0, [.ref g1, .ref g2, .ref g3, .int (nI par1), .int (nI fre1), .int (nI pri1), .int (nI sls1), .int (nI drk1), .int (nI pla1), .int (nI tks1)])), (g1, .inl (eI E, 6, .inl r1)), (g2, .inl (eI E, 6, .inl r2)), (g3, .inl (eI E, 6, .inl r3))] [(0, .ref hB), (1, .int (nI a)), (2, .int (nI n)), (3, .int (nI 0))] [] 40
  refine r_aload_n C (i := 0) 0 dX5_ifIll_40 rfl rfl ?_
  refine r_get C 0 1 uX5 rfl rfl (by decide) w_1_129 rfl dX5_ifIll_41 ?_
  refine r_iload_n C (i := 1) 1 dX5_ifIll_44 rfl rfl ?_
  refine r_iload_n C (i := 2) 2 dX5_ifIll_45 rfl rfl ?_
  refine r_aload_n C (i := 0) 0 dX5_ifIll_46 rfl rfl ?_
  refine r_get C 0 0 uX5 rfl rfl (by decide) w_1_128 rfl dX5_ifIll_47 ?_
  refine r_iload_n C (i := 2) 2 dX5_ifIll_50 rfl rfl ?_
  have join66_3 : ∀ (b : Nat), (b = 1 - sI σ a n) → ω [(hB, .inr (5, [.ref b1, .ref b2, .ref b3, .ref b4, .ref b5, .ref b6, .ref b7, .ref b8, .ref b9, .ref b10])), (b1, .inr (4, [.ref c1])), (c1, .inl (eI E, 265, .inl f)), (b2, .inr (4, [.ref c2])), (c2, .inl (eI E, 265, .inl f_1)), (b7, .inr (0, [.ref e1, .ref e2, .ref e3, .int (nI par), .int (nI fre), .int (nI pri), .int (nI sls), .int (nI drk), .int (nI pla), .int (nI tks)])), (e1, .inl (eI E, 6, .inl t1)), (e2, .inl (eI E, 6, .inl t2)), (e3, .inl (eI E, 6, .inl t3)), (b8, .inr (0, [.ref g1, .ref g2, .ref g3, .int (nI par1), .int (nI fre1), .int (nI pri1), .int (nI sls1), .int (nI drk1), .int (nI pla1), .int (nI tks1)])), (g1, .inl (eI E, 6, .inl r1)), (g2, .inl (eI E, 6, .inl r2)), (g3, .inl (eI E, 6, .inl r3))] [(0, .ref hB), (1, .int (nI a)), (2, .int (nI n)), (3, .int (nI 0))] [.int (nI b), .int (nI n), .int (nI a), .ref b2] 66 := by
    intro b hb
    refine r_callV (rest := []) C (c_X4_changeIllness (h0 := b2) (q1 := c2) (f := f_1) (σ := σ) (a := a) (n := n) (b := b) (hR := hR_2) (hW := hW) (ha := (by omega)) (hn := (by omega)) (hb := (by omega))) lk_X4_changeIllness w_2_27 [3, 4] rfl dX5_ifIll_66 rfl rfl rfl rfl ⟨by decide, by decide⟩ (Nat.le_of_ble_eq_true rfl) ?_
    rintro _ _ ⟨f_4, rfl, rfl, hR_5⟩
    have hW_6 : Wf (tIll σ a n b) := tIll_wf hW (by omega)
    show ω [(hB, .inr (5, [.ref b1, .ref b2, .ref b3, .ref b4, .ref b5, .ref b6, .ref b7, .ref b8, .ref b9, .ref b10])), (b1, .inr (4, [.ref c1])), (c1, .inl (eI E, 265, .inl f)), (b2, .inr (4, [.ref c2])), (c2, .inl (eI E, 265, .inl f_4)), (b7, .inr (0, [.ref e1, .ref e2, .ref e3, .int (nI par), .int (nI fre), .int (nI pri), .int (nI sls), .int (nI drk), .int (nI pla), .int (nI tks)])), (e1, .inl (eI E, 6, .inl t1)), (e2, .inl (eI E, 6, .inl t2)), (e3, .inl (eI E, 6, .inl t3)), (b8, .inr (0, [.ref g1, .ref g2, .ref g3, .int (nI par1), .int (nI fre1), .int (nI pri1), .int (nI sls1), .int (nI drk1), .int (nI pla1), .int (nI tks1)])), (g1, .inl (eI E, 6, .inl r1)), (g2, .inl (eI E, 6, .inl r2)), (g3, .inl (eI E, 6, .inl r3))] [(0, .ref hB), (1, .int (nI a)), (2, .int (nI n)), (3, .int (nI 0))] [.int (bP (a < sA σ ∧ n < 20))] 69
    refine r_pop C dX5_ifIll_69 rfl ?_
    have hrc7 : RepC (oIll σ a n b) f_4 := (show tIll σ a n b = oIll σ a n b from if_pos ⟨ha, hn⟩) ▸ hR_5
    have hwc8 : Wf (oIll σ a n b) := oIll_wf hW (by omega) ha
    refine r_aload_n C (i := 0) 0 dX5_ifIll_70 rfl rfl ?_
    refine r_get C 0 6 uX5 rfl rfl (by decide) w_1_134 rfl dX5_ifIll_71 ?_
    refine r_aload_n C (i := 0) 0 dX5_ifIll_74 rfl rfl ?_
    refine r_get C 0 0 uX5 rfl rfl (by decide) w_1_128 rfl dX5_ifIll_75 ?_
    refine r_iload_n C (i := 2) 2 dX5_ifIll_78 rfl rfl ?_
    refine r_callV (rest := []) C (c_X0_workOut (hE := b7) (e1 := e1) (e2 := e2) (e3 := e3) (par := par) (fre := fre) (pri := pri) (sls := sls) (drk := drk) (pla := pla) (tks := tks) (t1 := t1) (t2 := t2) (t3 := t3) (h0 := b1) (q1 := c1) (f := f) (σ := σ) (n := n) (hR := hR) (hW := hW) (hn := (by omega))) lk_X0_workOut w_3_145 [5, 6, 7, 8, 1, 2] rfl dX5_ifIll_79 rfl rfl rfl rfl ⟨by decide, by decide⟩ (Nat.le_of_ble_eq_true rfl) ?_
    rintro _ _ ⟨par_9, fre_10, pri_11, sls_12, drk_13, pla_14, tks_15, ta_16, tb_17, tc_18, rfl, rfl, hEv_19⟩
    show ω [(hB, .inr (5, [.ref b1, .ref b2, .ref b3, .ref b4, .ref b5, .ref b6, .ref b7, .ref b8, .ref b9, .ref b10])), (b1, .inr (4, [.ref c1])), (c1, .inl (eI E, 265, .inl f)), (b2, .inr (4, [.ref c2])), (c2, .inl (eI E, 265, .inl f_4)), (b7, .inr (0, [.ref e1, .ref e2, .ref e3, .int (nI par_9), .int (nI fre_10), .int (nI pri_11), .int (nI sls_12), .int (nI drk_13), .int (nI pla_14), .int (nI tks_15)])), (e1, .inl (eI E, 6, .inl ta_16)), (e2, .inl (eI E, 6, .inl tb_17)), (e3, .inl (eI E, 6, .inl tc_18)), (b8, .inr (0, [.ref g1, .ref g2, .ref g3, .int (nI par1), .int (nI fre1), .int (nI pri1), .int (nI sls1), .int (nI drk1), .int (nI pla1), .int (nI tks1)])), (g1, .inl (eI E, 6, .inl r1)), (g2, .inl (eI E, 6, .inl r2)), (g3, .inl (eI E, 6, .inl r3))] [(0, .ref hB), (1, .int (nI a)), (2, .int (nI n)), (3, .int (nI 0))] [] 82
    refine r_aload_n C (i := 0) 0 dX5_ifIll_82 rfl rfl ?_
    refine r_get C 0 7 uX5 rfl rfl (by decide) w_1_135 rfl dX5_ifIll_83 ?_
    refine r_aload_n C (i := 0) 0 dX5_ifIll_86 rfl rfl ?_
    refine r_get C 0 1 uX5 rfl rfl (by decide) w_1_129 rfl dX5_ifIll_87 ?_
    refine r_iload_n C (i := 2) 2 dX5_ifIll_90 rfl rfl ?_
    refine r_callV (rest := []) C (c_X0_workOut (hE := b8) (e1 := g1) (e2 := g2) (e3 := g3) (par := par1) (fre := fre1) (pri := pri1) (sls := sls1) (drk := drk1) (pla := pla1) (tks := tks1) (t1 := r1) (t2 := r2) (t3 := r3) (h0 := b2) (q1 := c2) (f := f_4) (σ := (oIll σ a n b)) (n := n) (hR := hrc7) (hW := hwc8) (hn := (by omega))) lk_X0_workOut w_3_145 [9, 10, 11, 12, 3, 4] rfl dX5_ifIll_91 rfl rfl rfl rfl ⟨by decide, by decide⟩ (Nat.le_of_ble_eq_true rfl) ?_
    rintro _ _ ⟨par_20, fre_21, pri_22, sls_23, drk_24, pla_25, tks_26, ta_27, tb_28, tc_29, rfl, rfl, hEv_30⟩
    show ω [(hB, .inr (5, [.ref b1, .ref b2, .ref b3, .ref b4, .ref b5, .ref b6, .ref b7, .ref b8, .ref b9, .ref b10])), (b1, .inr (4, [.ref c1])), (c1, .inl (eI E, 265, .inl f)), (b2, .inr (4, [.ref c2])), (c2, .inl (eI E, 265, .inl f_4)), (b7, .inr (0, [.ref e1, .ref e2, .ref e3, .int (nI par_9), .int (nI fre_10), .int (nI pri_11), .int (nI sls_12), .int (nI drk_13), .int (nI pla_14), .int (nI tks_15)])), (e1, .inl (eI E, 6, .inl ta_16)), (e2, .inl (eI E, 6, .inl tb_17)), (e3, .inl (eI E, 6, .inl tc_18)), (b8, .inr (0, [.ref g1, .ref g2, .ref g3, .int (nI par_20), .int (nI fre_21), .int (nI pri_22), .int (nI sls_23), .int (nI drk_24), .int (nI pla_25), .int (nI tks_26)])), (g1, .inl (eI E, 6, .inl ta_27)), (g2, .inl (eI E, 6, .inl tb_28)), (g3, .inl (eI E, 6, .inl tc_29))] [(0, .ref hB), (1, .int (nI a)), (2, .int (nI n)), (3, .int (nI 0))] [] 94
    refine r_iload_n C (i := 3) 3 dX5_ifIll_94 rfl rfl ?_
    refine r_if_neF C (y := 0) (tgt := 105) dX5_ifIll_95 (by decide) (fun z => ((by decide) : ¬ (0 ≠ 0)) ((z_neN (by omega)).mp z)) ?_
    refine r_aload_n C (i := 0) 0 dX5_ifIll_98 rfl rfl ?_
    refine r_readV (rest := []) C (c_X5_partsChanged (hB := hB) (b1 := b1) (b2 := b2) (b3 := b3) (b4 := b4) (b5 := b5) (b6 := b6) (b7 := b7) (b8 := b8) (b9 := b9) (b10 := b10) (c1 := c1) (f := f) (σ := σ) (e1 := e1) (e2 := e2) (e3 := e3) (par := par_9) (fre := fre_10) (pri := pri_11) (sls := sls_12) (drk := drk_13) (pla := pla_14) (tks := tks_15) (t1 := ta_16) (t2 := tb_17) (t3 := tc_18) (g1 := g1) (g2 := g2) (g3 := g3) (par1 := par_20) (fre1 := fre_21) (pri1 := pri_22) (sls1 := sls_23) (drk1 := drk_24) (pla1 := pla_25) (tks1 := tks_26) (r1 := ta_27) (r2 := tb_28) (r3 := tc_29) (sg2 := (oIll σ a n b)) (n := n) (hR := hR) (hW := hW) (hn := (by omega)) (hEv := hEv_19) (hEv2 := hEv_30) (hW2 := hwc8) (hPP := (show sP (oIll σ a n b) = sP σ from rfl))) lk_X5_partsChanged w_4_195 [0, 1, 2, 5, 6, 7, 8, 9, 10, 11, 12] rfl dX5_ifIll_99 rfl rfl rfl rfl ⟨by decide, by decide⟩ (Nat.le_of_ble_eq_true rfl) (st' := [.int (nI (chg σ (oIll σ a n b) n))]) rfl ?_
    refine r_goto C 120 dX5_ifIll_102 (by decide) ?_
    exact RT.1 _ _ _ _ _ dX5_ifIll_120 rfl rfl (⟨_, _, _, _, _, _, _, _, _, _, _, _, _, _, _, _, _, _, _, _, _, sv (congrArg nI (show chg σ (oIll σ a n b) n = chg σ (oFl σ a n) n from by rw [hb]; rfl)), rfl⟩) rfl
  refine r_readV (rest := [.int (nI n), .int (nI a), .ref b2]) C (c_X4_illOn (h0 := b1) (q1 := c1) (f := f) (σ := σ) (n := n) (hR := hR) (hW := hW) (hn := (by omega))) lk_X4_illOn w_3_217 [1, 2] rfl dX5_ifIll_51 rfl rfl rfl rfl ⟨by decide, by decide⟩ (Nat.le_of_ble_eq_true rfl) (st' := [.int (nI (bm (fun a => sI σ a n) 10)), .int (nI n), .int (nI a), .ref b2]) rfl ?_
  refine r_iload_n C (i := 1) 1 dX5_ifIll_54 rfl rfl ?_
  refine r_readS (rest := [.int (nI n), .int (nI a), .ref b2]) C (c_X5_holds (s := bm (fun a => sI σ a n) 10) (e := a) (hs := (by omega)) (he := (by omega))) lk_X5_holds w_3_239 [] dX5_ifIll_55 rfl rfl rfl ⟨by decide, by decide⟩ (Nat.le_of_ble_eq_true rfl) (st' := [.int (bP ((bm (fun a => sI σ a n) 10) / 2 ^ a % 2 = 1)), .int (nI n), .int (nI a), .ref b2]) rfl ?_
  refine r_if_ne C (y := 0) (c9 := (bm (fun a => sI σ a n) 10) / 2 ^ a % 2 = 1) 65 dX5_ifIll_58 (by decide) z_neB (fun h58_31 => ?_) (fun h58_31 => ?_)
  · refine r_iconst C dX5_ifIll_65 ki_0 ?_
    exact join66_3 0 (by omega)
  · refine r_iconst C dX5_ifIll_61 ki_1 ?_
    refine r_goto C 66 dX5_ifIll_62 (by decide) ?_
    exact join66_3 1 (by omega)
set_option maxRecDepth 100000 in
set_option maxHeartbeats 1000000 in
theorem c_X5_ifIll__1 {l : Launch} {E : Ev} {hB b1 b2 b3 b4 b5 b6 b7 b8 b9 b10 : Nat} {c1 : Nat} {f : Nat → Int32} {σ : Sg} (hR : RepC σ f) (hW : Wf σ) {c2 : Nat} {f2 : Nat → Int32} {e1 e2 e3 par fre pri sls drk pla tks : Nat} {t1 t2 t3 : Nat → Int32} {g1 g2 g3 par1 fre1 pri1 sls1 drk1 pla1 tks1 : Nat} {r1 r2 r3 : Nat → Int32} {a n : Nat} (ha : a < sA σ) (hn : n < 20) : Ct l E yX5_ifIll cX5_ifIll 4 (some FieldType.int) 7 111 [.ref hB, .int (nI a), .int (nI n), .int (nI 1)] [(hB, .inr (5, [.ref b1, .ref b2, .ref b3, .ref b4, .ref b5, .ref b6, .ref b7, .ref b8, .ref b9, .ref b10])), (b1, .inr (4, [.ref c1])), (c1, .inl (eI E, 265, .inl f)), (b2, .inr (4, [.ref c2])), (c2, .inl (eI E, 265, .inl f2)), (b7, .inr (0, [.ref e1, .ref e2, .ref e3, .int (nI par), .int (nI fre), .int (nI pri), .int (nI sls), .int (nI drk), .int (nI pla), .int (nI tks)])), (e1, .inl (eI E, 6, .inl t1)), (e2, .inl (eI E, 6, .inl t2)), (e3, .inl (eI E, 6, .inl t3)), (b8, .inr (0, [.ref g1, .ref g2, .ref g3, .int (nI par1), .int (nI fre1), .int (nI pri1), .int (nI sls1), .int (nI drk1), .int (nI pla1), .int (nI tks1)])), (g1, .inl (eI E, 6, .inl r1)), (g2, .inl (eI E, 6, .inl r2)), (g3, .inl (eI E, 6, .inl r3))] (fun v9 w9 => ∃ (fx : Nat → Int32) (par2 fre2 pri2 sls2 drk2 pla2 tks2 par12 fre12 pri12 sls12 drk12 pla12 tks12 : Nat) (ta tb tc ua ub uc : Nat → Int32), v9 = some (.int (nI (tak (oFl σ a n) n) - nI (tak σ n))) ∧ w9 = [(hB, .inr (5, [.ref b1, .ref b2, .ref b3, .ref b4, .ref b5, .ref b6, .ref b7, .ref b8, .ref b9, .ref b10])), (b1, .inr (4, [.ref c1])), (c1, .inl (eI E, 265, .inl f)), (b2, .inr (4, [.ref c2])), (c2, .inl (eI E, 265, .inl fx)), (b7, .inr (0, [.ref e1, .ref e2, .ref e3, .int (nI par2), .int (nI fre2), .int (nI pri2), .int (nI sls2), .int (nI drk2), .int (nI pla2), .int (nI tks2)])), (e1, .inl (eI E, 6, .inl ta)), (e2, .inl (eI E, 6, .inl tb)), (e3, .inl (eI E, 6, .inl tc)), (b8, .inr (0, [.ref g1, .ref g2, .ref g3, .int (nI par12), .int (nI fre12), .int (nI pri12), .int (nI sls12), .int (nI drk12), .int (nI pla12), .int (nI tks12)])), (g1, .inl (eI E, 6, .inl ua)), (g2, .inl (eI E, 6, .inl ub)), (g3, .inl (eI E, 6, .inl uc))]) := by
  have hwP := hW.P
  have hwA := hW.A
  have hwS := hW.S
  have hI1 := hW.I a n
  have hbb : bm (fun a => sI σ a n) 10 / 2 ^ a % 2 = sI σ a n := bm_bit (fun a => hW.I a n) (by omega)
  have hbl := bm_lt (fun a => hW.I a n) 10
  refine ct_of (by decide +kernel) (Nat.le_of_ble_eq_true rfl) (fun ω C RT => ?_)
  show ω [(hB, .inr (5, [.ref b1, .ref b2, .ref b3, .ref b4, .ref b5, .ref b6, .ref b7, .ref b8, .ref b9, .ref b10])), (b1, .inr (4, [.ref c1])), (c1, .inl (eI E, 265, .inl f)), (b2, .inr (4, [.ref c2])), (c2, .inl (eI E, 265, .inl f2)), (b7, .inr (0, [.ref e1, .ref e2, .ref e3, .int (nI par), .int (nI fre), .int (nI pri), .int (nI sls), .int (nI drk), .int (nI pla), .int (nI tks)])), (e1, .inl (eI E, 6, .inl t1)), (e2, .inl (eI E, 6, .inl t2)), (e3, .inl (eI E, 6, .inl t3)), (b8, .inr (0, [.ref g1, .ref g2, .ref g3, .int (nI par1), .int (nI fre1), .int (nI pri1), .int (nI sls1), .int (nI drk1), .int (nI pla1), .int (nI tks1)])), (g1, .inl (eI E, 6, .inl r1)), (g2, .inl (eI E, 6, .inl r2)), (g3, .inl (eI E, 6, .inl r3))] [(0, .ref hB), (1, .int (nI a)), (2, .int (nI n)), (3, .int (nI 1))] [] 0
  refine r_aload_n C (i := 0) 0 dX5_ifIll_0 rfl rfl ?_
  refine r_iload_n C (i := 1) 1 dX5_ifIll_1 rfl rfl ?_
  refine r_readV (rest := []) C (c_X5_requireActor (hB := hB) (b1 := b1) (b2 := b2) (b3 := b3) (b4 := b4) (b5 := b5) (b6 := b6) (b7 := b7) (b8 := b8) (b9 := b9) (b10 := b10) (c1 := c1) (f := f) (σ := σ) (a := a) (hR := hR) (hW := hW) (hx := (by omega))) lk_X5_requireActor w_1_167 [0, 1, 2] rfl dX5_ifIll_2 rfl rfl rfl rfl ⟨by decide, by decide⟩ (Nat.le_of_ble_eq_true rfl) (st' := []) rfl ?_
  refine r_iload_n C (i := 2) 2 dX5_ifIll_5 rfl rfl ?_
  refine r_readS (rest := []) C (c_X5_requireNight (n := n) (hn := (by omega))) lk_X5_requireNight w_2_3 [] dX5_ifIll_6 rfl rfl rfl ⟨by decide, by decide⟩ (Nat.le_of_ble_eq_true rfl) (st' := []) rfl ?_
  refine r_iload_n C (i := 3) 3 dX5_ifIll_9 rfl rfl ?_
  refine r_if_eqF C (y := 0) (tgt := 29) dX5_ifIll_10 (by decide) (fun z => ((by decide) : ¬ (1 = 0)) ((z_eqN (by omega)).mp z)) ?_
  refine r_iload_n C (i := 3) 3 dX5_ifIll_13 rfl rfl ?_
  refine r_iconst C dX5_ifIll_14 ki_1 ?_
  refine r_icmp_eqT C 29 dX5_ifIll_15 (by decide) ((c_eqNN (by omega) (by omega)).mpr (by decide)) ?_
  refine r_aload_n C (i := 0) 0 dX5_ifIll_29 rfl rfl ?_
  refine r_get C 0 1 uX5 rfl rfl (by decide) w_1_129 rfl dX5_ifIll_30 ?_
  refine r_aload_n C (i := 0) 0 dX5_ifIll_33 rfl rfl ?_
  refine r_get C 0 0 uX5 rfl rfl (by decide) w_1_128 rfl dX5_ifIll_34 ?_
  refine r_callV (rest := []) C (c_X4_copyOf (h0 := b2) (q1 := c2) (h2 := b1) (q3 := c1) (f := f2) (g := f) (σ := σ) (hR := hR) (hW := hW)) lk_X4_copyOf w_4_191 [3, 4, 1, 2] rfl dX5_ifIll_37 rfl rfl rfl rfl ⟨by decide, by decide⟩ (Nat.le_of_ble_eq_true rfl) ?_
  rintro _ _ ⟨f_1, rfl, rfl, hR_2⟩
  show ω [(hB, .inr (5, [.ref b1, .ref b2, .ref b3, .ref b4, .ref b5, .ref b6, .ref b7, .ref b8, .ref b9, .ref b10])), (b1, .inr (4, [.ref c1])), (c1, .inl (eI E, 265, .inl f)), (b2, .inr (4, [.ref c2])), (c2, .inl (eI E, 265, .inl f_1)), (b7, .inr (0, [.ref e1, .ref e2, .ref e3, .int (nI par), .int (nI fre), .int (nI pri), .int (nI sls), .int (nI drk), .int (nI pla), .int (nI tks)])), (e1, .inl (eI E, 6, .inl t1)), (e2, .inl (eI E, 6, .inl t2)), (e3, .inl (eI E, 6, .inl t3)), (b8, .inr (0, [.ref g1, .ref g2, .ref g3, .int (nI par1), .int (nI fre1), .int (nI pri1), .int (nI sls1), .int (nI drk1), .int (nI pla1), .int (nI tks1)])), (g1, .inl (eI E, 6, .inl r1)), (g2, .inl (eI E, 6, .inl r2)), (g3, .inl (eI E, 6, .inl r3))] [(0, .ref hB), (1, .int (nI a)), (2, .int (nI n)), (3, .int (nI 1))] [] 40
  refine r_aload_n C (i := 0) 0 dX5_ifIll_40 rfl rfl ?_
  refine r_get C 0 1 uX5 rfl rfl (by decide) w_1_129 rfl dX5_ifIll_41 ?_
  refine r_iload_n C (i := 1) 1 dX5_ifIll_44 rfl rfl ?_
  refine r_iload_n C (i := 2) 2 dX5_ifIll_45 rfl rfl ?_
  refine r_aload_n C (i := 0) 0 dX5_ifIll_46 rfl rfl ?_
  refine r_get C 0 0 uX5 rfl rfl (by decide) w_1_128 rfl dX5_ifIll_47 ?_
  refine r_iload_n C (i := 2) 2 dX5_ifIll_50 rfl rfl ?_
  have join66_3 : ∀ (b : Nat), (b = 1 - sI σ a n) → ω [(hB, .inr (5, [.ref b1, .ref b2, .ref b3, .ref b4, .ref b5, .ref b6, .ref b7, .ref b8, .ref b9, .ref b10])), (b1, .inr (4, [.ref c1])), (c1, .inl (eI E, 265, .inl f)), (b2, .inr (4, [.ref c2])), (c2, .inl (eI E, 265, .inl f_1)), (b7, .inr (0, [.ref e1, .ref e2, .ref e3, .int (nI par), .int (nI fre), .int (nI pri), .int (nI sls), .int (nI drk), .int (nI pla), .int (nI tks)])), (e1, .inl (eI E, 6, .inl t1)), (e2, .inl (eI E, 6, .inl t2)), (e3, .inl (eI E, 6, .inl t3)), (b8, .inr (0, [.ref g1, .ref g2, .ref g3, .int (nI par1), .int (nI fre1), .int (nI pri1), .int (nI sls1), .int (nI drk1), .int (nI pla1), .int (nI tks1)])), (g1, .inl (eI E, 6, .inl r1)), (g2, .inl (eI E, 6, .inl r2)), (g3, .inl (eI E, 6, .inl r3))] [(0, .ref hB), (1, .int (nI a)), (2, .int (nI n)), (3, .int (nI 1))] [.int (nI b), .int (nI n), .int (nI a), .ref b2] 66 := by
    intro b hb
    refine r_callV (rest := []) C (c_X4_changeIllness (h0 := b2) (q1 := c2) (f := f_1) (σ := σ) (a := a) (n := n) (b := b) (hR := hR_2) (hW := hW) (ha := (by omega)) (hn := (by omega)) (hb := (by omega))) lk_X4_changeIllness w_2_27 [3, 4] rfl dX5_ifIll_66 rfl rfl rfl rfl ⟨by decide, by decide⟩ (Nat.le_of_ble_eq_true rfl) ?_
    rintro _ _ ⟨f_4, rfl, rfl, hR_5⟩
    have hW_6 : Wf (tIll σ a n b) := tIll_wf hW (by omega)
    show ω [(hB, .inr (5, [.ref b1, .ref b2, .ref b3, .ref b4, .ref b5, .ref b6, .ref b7, .ref b8, .ref b9, .ref b10])), (b1, .inr (4, [.ref c1])), (c1, .inl (eI E, 265, .inl f)), (b2, .inr (4, [.ref c2])), (c2, .inl (eI E, 265, .inl f_4)), (b7, .inr (0, [.ref e1, .ref e2, .ref e3, .int (nI par), .int (nI fre), .int (nI pri), .int (nI sls), .int (nI drk), .int (nI pla), .int (nI tks)])), (e1, .inl (eI E, 6, .inl t1)), (e2, .inl (eI E, 6, .inl t2)), (e3, .inl (eI E, 6, .inl t3)), (b8, .inr (0, [.ref g1, .ref g2, .ref g3, .int (nI par1), .int (nI fre1), .int (nI pri1), .int (nI sls1), .int (nI drk1), .int (nI pla1), .int (nI tks1)])), (g1, .inl (eI E, 6, .inl r1)), (g2, .inl (eI E, 6, .inl r2)), (g3, .inl (eI E, 6, .inl r3))] [(0, .ref hB), (1, .int (nI a)), (2, .int (nI n)), (3, .int (nI 1))] [.int (bP (a < sA σ ∧ n < 20))] 69
    refine r_pop C dX5_ifIll_69 rfl ?_
    have hrc7 : RepC (oIll σ a n b) f_4 := (show tIll σ a n b = oIll σ a n b from if_pos ⟨ha, hn⟩) ▸ hR_5
    have hwc8 : Wf (oIll σ a n b) := oIll_wf hW (by omega) ha
    refine r_aload_n C (i := 0) 0 dX5_ifIll_70 rfl rfl ?_
    refine r_get C 0 6 uX5 rfl rfl (by decide) w_1_134 rfl dX5_ifIll_71 ?_
    refine r_aload_n C (i := 0) 0 dX5_ifIll_74 rfl rfl ?_
    refine r_get C 0 0 uX5 rfl rfl (by decide) w_1_128 rfl dX5_ifIll_75 ?_
    refine r_iload_n C (i := 2) 2 dX5_ifIll_78 rfl rfl ?_
    refine r_callV (rest := []) C (c_X0_workOut (hE := b7) (e1 := e1) (e2 := e2) (e3 := e3) (par := par) (fre := fre) (pri := pri) (sls := sls) (drk := drk) (pla := pla) (tks := tks) (t1 := t1) (t2 := t2) (t3 := t3) (h0 := b1) (q1 := c1) (f := f) (σ := σ) (n := n) (hR := hR) (hW := hW) (hn := (by omega))) lk_X0_workOut w_3_145 [5, 6, 7, 8, 1, 2] rfl dX5_ifIll_79 rfl rfl rfl rfl ⟨by decide, by decide⟩ (Nat.le_of_ble_eq_true rfl) ?_
    rintro _ _ ⟨par_9, fre_10, pri_11, sls_12, drk_13, pla_14, tks_15, ta_16, tb_17, tc_18, rfl, rfl, hEv_19⟩
    show ω [(hB, .inr (5, [.ref b1, .ref b2, .ref b3, .ref b4, .ref b5, .ref b6, .ref b7, .ref b8, .ref b9, .ref b10])), (b1, .inr (4, [.ref c1])), (c1, .inl (eI E, 265, .inl f)), (b2, .inr (4, [.ref c2])), (c2, .inl (eI E, 265, .inl f_4)), (b7, .inr (0, [.ref e1, .ref e2, .ref e3, .int (nI par_9), .int (nI fre_10), .int (nI pri_11), .int (nI sls_12), .int (nI drk_13), .int (nI pla_14), .int (nI tks_15)])), (e1, .inl (eI E, 6, .inl ta_16)), (e2, .inl (eI E, 6, .inl tb_17)), (e3, .inl (eI E, 6, .inl tc_18)), (b8, .inr (0, [.ref g1, .ref g2, .ref g3, .int (nI par1), .int (nI fre1), .int (nI pri1), .int (nI sls1), .int (nI drk1), .int (nI pla1), .int (nI tks1)])), (g1, .inl (eI E, 6, .inl r1)), (g2, .inl (eI E, 6, .inl r2)), (g3, .inl (eI E, 6, .inl r3))] [(0, .ref hB), (1, .int (nI a)), (2, .int (nI n)), (3, .int (nI 1))] [] 82
    refine r_aload_n C (i := 0) 0 dX5_ifIll_82 rfl rfl ?_
    refine r_get C 0 7 uX5 rfl rfl (by decide) w_1_135 rfl dX5_ifIll_83 ?_
    refine r_aload_n C (i := 0) 0 dX5_ifIll_86 rfl rfl ?_
    refine r_get C 0 1 uX5 rfl rfl (by decide) w_1_129 rfl dX5_ifIll_87 ?_
    refine r_iload_n C (i := 2) 2 dX5_ifIll_90 rfl rfl ?_
    refine r_callV (rest := []) C (c_X0_workOut (hE := b8) (e1 := g1) (e2 := g2) (e3 := g3) (par := par1) (fre := fre1) (pri := pri1) (sls := sls1) (drk := drk1) (pla := pla1) (tks := tks1) (t1 := r1) (t2 := r2) (t3 := r3) (h0 := b2) (q1 := c2) (f := f_4) (σ := (oIll σ a n b)) (n := n) (hR := hrc7) (hW := hwc8) (hn := (by omega))) lk_X0_workOut w_3_145 [9, 10, 11, 12, 3, 4] rfl dX5_ifIll_91 rfl rfl rfl rfl ⟨by decide, by decide⟩ (Nat.le_of_ble_eq_true rfl) ?_
    rintro _ _ ⟨par_20, fre_21, pri_22, sls_23, drk_24, pla_25, tks_26, ta_27, tb_28, tc_29, rfl, rfl, hEv_30⟩
    show ω [(hB, .inr (5, [.ref b1, .ref b2, .ref b3, .ref b4, .ref b5, .ref b6, .ref b7, .ref b8, .ref b9, .ref b10])), (b1, .inr (4, [.ref c1])), (c1, .inl (eI E, 265, .inl f)), (b2, .inr (4, [.ref c2])), (c2, .inl (eI E, 265, .inl f_4)), (b7, .inr (0, [.ref e1, .ref e2, .ref e3, .int (nI par_9), .int (nI fre_10), .int (nI pri_11), .int (nI sls_12), .int (nI drk_13), .int (nI pla_14), .int (nI tks_15)])), (e1, .inl (eI E, 6, .inl ta_16)), (e2, .inl (eI E, 6, .inl tb_17)), (e3, .inl (eI E, 6, .inl tc_18)), (b8, .inr (0, [.ref g1, .ref g2, .ref g3, .int (nI par_20), .int (nI fre_21), .int (nI pri_22), .int (nI sls_23), .int (nI drk_24), .int (nI pla_25), .int (nI tks_26)])), (g1, .inl (eI E, 6, .inl ta_27)), (g2, .inl (eI E, 6, .inl tb_28)), (g3, .inl (eI E, 6, .inl tc_29))] [(0, .ref hB), (1, .int (nI a)), (2, .int (nI n)), (3, .int (nI 1))] [] 94
    refine r_iload_n C (i := 3) 3 dX5_ifIll_94 rfl rfl ?_
    refine r_if_neT C (y := 0) 105 dX5_ifIll_95 (by decide) ((z_neN (by omega)).mpr (by decide)) ?_
    refine r_aload_n C (i := 0) 0 dX5_ifIll_105 rfl rfl ?_
    refine r_get C 0 7 uX5 rfl rfl (by decide) w_1_135 rfl dX5_ifIll_106 ?_
    refine r_readV (rest := []) C (c_X0_takings (hE := b8) (e1 := g1) (e2 := g2) (e3 := g3) (par := par_20) (fre := fre_21) (pri := pri_22) (sls := sls_23) (drk := drk_24) (pla := pla_25) (tks := tks_26) (t1 := ta_27) (t2 := tb_28) (t3 := tc_29) (σ := (oIll σ a n b)) (n := n) (hEv := hEv_30) (hW := hwc8)) lk_X0_takings w_3_216 [9, 10, 11, 12] rfl dX5_ifIll_109 rfl rfl rfl rfl ⟨by decide, by decide⟩ (Nat.le_of_ble_eq_true rfl) (st' := [.int (nI (tak (oIll σ a n b) n))]) rfl ?_
    refine r_aload_n C (i := 0) 0 dX5_ifIll_112 rfl rfl ?_
    refine r_get C 0 6 uX5 rfl rfl (by decide) w_1_134 rfl dX5_ifIll_113 ?_
    refine r_readV (rest := [.int (nI (tak (oIll σ a n b) n))]) C (c_X0_takings (hE := b7) (e1 := e1) (e2 := e2) (e3 := e3) (par := par_9) (fre := fre_10) (pri := pri_11) (sls := sls_12) (drk := drk_13) (pla := pla_14) (tks := tks_15) (t1 := ta_16) (t2 := tb_17) (t3 := tc_18) (σ := σ) (n := n) (hEv := hEv_19) (hW := hW)) lk_X0_takings w_3_216 [5, 6, 7, 8] rfl dX5_ifIll_116 rfl rfl rfl rfl ⟨by decide, by decide⟩ (Nat.le_of_ble_eq_true rfl) (st' := [.int (nI (tak σ n)), .int (nI (tak (oIll σ a n b) n))]) rfl ?_
    refine r_isub (v := (nI (tak (oIll σ a n b) n) - nI (tak σ n))) C dX5_ifIll_119 rfl ?_
    exact RT.1 _ _ _ _ _ dX5_ifIll_120 rfl rfl (⟨_, _, _, _, _, _, _, _, _, _, _, _, _, _, _, _, _, _, _, _, _, sv (by rw [hb]; rfl), rfl⟩) rfl
  refine r_readV (rest := [.int (nI n), .int (nI a), .ref b2]) C (c_X4_illOn (h0 := b1) (q1 := c1) (f := f) (σ := σ) (n := n) (hR := hR) (hW := hW) (hn := (by omega))) lk_X4_illOn w_3_217 [1, 2] rfl dX5_ifIll_51 rfl rfl rfl rfl ⟨by decide, by decide⟩ (Nat.le_of_ble_eq_true rfl) (st' := [.int (nI (bm (fun a => sI σ a n) 10)), .int (nI n), .int (nI a), .ref b2]) rfl ?_
  refine r_iload_n C (i := 1) 1 dX5_ifIll_54 rfl rfl ?_
  refine r_readS (rest := [.int (nI n), .int (nI a), .ref b2]) C (c_X5_holds (s := bm (fun a => sI σ a n) 10) (e := a) (hs := (by omega)) (he := (by omega))) lk_X5_holds w_3_239 [] dX5_ifIll_55 rfl rfl rfl ⟨by decide, by decide⟩ (Nat.le_of_ble_eq_true rfl) (st' := [.int (bP ((bm (fun a => sI σ a n) 10) / 2 ^ a % 2 = 1)), .int (nI n), .int (nI a), .ref b2]) rfl ?_
  refine r_if_ne C (y := 0) (c9 := (bm (fun a => sI σ a n) 10) / 2 ^ a % 2 = 1) 65 dX5_ifIll_58 (by decide) z_neB (fun h58_31 => ?_) (fun h58_31 => ?_)
  · refine r_iconst C dX5_ifIll_65 ki_0 ?_
    exact join66_3 0 (by omega)
  · refine r_iconst C dX5_ifIll_61 ki_1 ?_
    refine r_goto C 66 dX5_ifIll_62 (by decide) ?_
    exact join66_3 1 (by omega)
