set_option maxRecDepth 100000 in
set_option maxHeartbeats 1000000 in
theorem c_X5_partsOfOthers {l : Launch} {E : Ev} {hB b1 b2 b3 b4 b5 b6 b7 b8 b9 b10 : Nat} {c1 : Nat} {f : Nat → Int32} {σ : Sg} (hR : RepC σ f) (hW : Wf σ) {e1 e2 e3 par fre pri sls drk pla tks : Nat} {t1 t2 t3 : Nat → Int32} {n : Nat} (hEv : EvI σ n par drk pla tks t1 t2 t3) (hn : n < 20) : Cr l E yX5_partsOfOthers cX5_partsOfOthers 4 (some FieldType.int) 2 42 [.ref hB, .int (nI n)] [(hB, .inr (5, [.ref b1, .ref b2, .ref b3, .ref b4, .ref b5, .ref b6, .ref b7, .ref b8, .ref b9, .ref b10])), (b1, .inr (4, [.ref c1])), (c1, .inl (eI E, 265, .inl f)), (b7, .inr (0, [.ref e1, .ref e2, .ref e3, .int (nI par), .int (nI fre), .int (nI pri), .int (nI sls), .int (nI drk), .int (nI pla), .int (nI tks)])), (e1, .inl (eI E, 6, .inl t1)), (e2, .inl (eI E, 6, .inl t2)), (e3, .inl (eI E, 6, .inl t3))] (some (.int (nI (otk σ n)))) := by
  have hwP := hW.P
  have hwA := hW.A
  have hwS := hW.S
  have hdl := dk_le σ n
  refine ct_of (by decide +kernel) (Nat.le_of_ble_eq_true rfl) (fun ω C RT => ?_)
  show ω [(hB, .inr (5, [.ref b1, .ref b2, .ref b3, .ref b4, .ref b5, .ref b6, .ref b7, .ref b8, .ref b9, .ref b10])), (b1, .inr (4, [.ref c1])), (c1, .inl (eI E, 265, .inl f)), (b7, .inr (0, [.ref e1, .ref e2, .ref e3, .int (nI par), .int (nI fre), .int (nI pri), .int (nI sls), .int (nI drk), .int (nI pla), .int (nI tks)])), (e1, .inl (eI E, 6, .inl t1)), (e2, .inl (eI E, 6, .inl t2)), (e3, .inl (eI E, 6, .inl t3))] [(0, .ref hB), (1, .int (nI n))] [] 0
  refine r_iconst C dX5_partsOfOthers_0 ki_0 ?_
  refine r_istore_n C (lv' := [(2, .int (nI 0)), (0, .ref hB), (1, .int (nI n))]) dX5_partsOfOthers_1 rfl (by decide) rfl ?_
  refine r_iconst C dX5_partsOfOthers_2 ki_0 ?_
  refine r_istore_n C (lv' := [(3, .int (nI 0)), (2, .int (nI 0)), (0, .ref hB), (1, .int (nI n))]) dX5_partsOfOthers_3 rfl (by decide) rfl ?_
  have loop4_1 : ∀ (dd9 : Nat) (p : Nat) (m : Nat), sP σ - p < dd9 → (p ≤ sP σ) → (m = if dk σ n = 0 then otN σ n p else 0) → ω [(hB, .inr (5, [.ref b1, .ref b2, .ref b3, .ref b4, .ref b5, .ref b6, .ref b7, .ref b8, .ref b9, .ref b10])), (b1, .inr (4, [.ref c1])), (c1, .inl (eI E, 265, .inl f)), (b7, .inr (0, [.ref e1, .ref e2, .ref e3, .int (nI par), .int (nI fre), .int (nI pri), .int (nI sls), .int (nI drk), .int (nI pla), .int (nI tks)])), (e1, .inl (eI E, 6, .inl t1)), (e2, .inl (eI E, 6, .inl t2)), (e3, .inl (eI E, 6, .inl t3))] [(3, .int (nI p)), (2, .int (nI m)), (0, .ref hB), (1, .int (nI n))] [] 4 := by
    intro dd9
    induction dd9 with
    | zero => intro p m hd; exact absurd hd (Nat.not_lt_zero _)
    | succ dd9 ih2 =>
      intro p m hd hp hm
      have hol := otN_le σ n p
      have hml : m ≤ p := by rw [hm]; split <;> omega
      refine r_iload_n C (i := 3) 0 dX5_partsOfOthers_4 rfl rfl ?_
      refine r_aload_n C (i := 0) 2 dX5_partsOfOthers_5 rfl rfl ?_
      refine r_get C 0 0 uX5 rfl rfl (by decide) w_1_128 rfl dX5_partsOfOthers_6 ?_
      refine r_readV (rest := [.int (nI p)]) C (c_X4_parts (h0 := b1) (q1 := c1) (f := f) (σ := σ) (hR := hR) (hW := hW)) lk_X4_parts w_3_36 [1, 2] rfl dX5_partsOfOthers_9 rfl rfl rfl rfl ⟨by decide, by decide⟩ (Nat.le_of_ble_eq_true rfl) (st' := [.int (nI (sP σ)), .int (nI p)]) rfl ?_
      refine r_icmp_ge C (c9 := sP σ ≤ p) 54 dX5_partsOfOthers_12 (by decide) (c_leNN (by omega) (by omega)) (fun h12_3 => ?_) (fun h12_3 => ?_)
      · refine r_iload_n C (i := 2) 1 dX5_partsOfOthers_54 rfl rfl ?_
        exact RT.1 _ _ _ _ _ dX5_partsOfOthers_55 rfl rfl (rd_i (congrArg nI (by rw [hm, otk, (by omega : p = sP σ)]))) rfl
      · refine r_aload_n C (i := 0) 2 dX5_partsOfOthers_15 rfl rfl ?_
        refine r_get C 0 6 uX5 rfl rfl (by decide) w_1_134 rfl dX5_partsOfOthers_16 ?_
        refine r_readV (rest := []) C (c_X0_isDark (hE := b7) (e1 := e1) (e2 := e2) (e3 := e3) (par := par) (fre := fre) (pri := pri) (sls := sls) (drk := drk) (pla := pla) (tks := tks) (t1 := t1) (t2 := t2) (t3 := t3) (σ := σ) (n := n) (hEv := hEv) (hW := hW)) lk_X0_isDark w_3_146 [3, 4, 5, 6] rfl dX5_partsOfOthers_19 rfl rfl rfl rfl ⟨by decide, by decide⟩ (Nat.le_of_ble_eq_true rfl) (st' := [.int (nI (dk σ n))]) rfl ?_
        refine r_if_ne C (y := 0) (c9 := dk σ n ≠ 0) 48 dX5_partsOfOthers_22 (by decide) (z_neN (by omega)) (fun h22_4 => ?_) (fun h22_4 => ?_)
        · refine r_iinc C (lv' := [(3, .int (nI (p + 1))), (2, .int (nI m)), (0, .ref hB), (1, .int (nI n))]) (v := nI (p + 1)) 0 dX5_partsOfOthers_48 rfl (v_inc _) (by decide) rfl ?_
          refine r_goto C 4 dX5_partsOfOthers_51 (by decide) ?_
          exact ih2 (p + 1) m (by omega) (by omega) (by rw [hm, if_neg (by omega), if_neg (by omega)])
        · have hpl := pT_le hW (show p < sP σ by omega) hn
          have hRl := hW.R (show p < sP σ by omega) hn
          have hpt : pT σ n p = T σ n p := by unfold pT; exact if_pos (by omega)
          refine r_aload_n C (i := 0) 2 dX5_partsOfOthers_25 rfl rfl ?_
          refine r_get C 0 6 uX5 rfl rfl (by decide) w_1_134 rfl dX5_partsOfOthers_26 ?_
          refine r_iload_n C (i := 3) 0 dX5_partsOfOthers_29 rfl rfl ?_
          refine r_readV (rest := []) C (c_X0_player (hE := b7) (e1 := e1) (e2 := e2) (e3 := e3) (par := par) (fre := fre) (pri := pri) (sls := sls) (drk := drk) (pla := pla) (tks := tks) (t1 := t1) (t2 := t2) (t3 := t3) (σ := σ) (n := n) (p := p) (hEv := hEv) (hW := hW) (hp := (by omega))) lk_X0_player w_3_189 [3, 4, 5, 6] rfl dX5_partsOfOthers_30 rfl rfl rfl rfl ⟨by decide, by decide⟩ (Nat.le_of_ble_eq_true rfl) (st' := [.int (mI (pT σ n p))]) rfl ?_
          refine r_aload_n C (i := 0) 2 dX5_partsOfOthers_33 rfl rfl ?_
          refine r_get C 0 0 uX5 rfl rfl (by decide) w_1_128 rfl dX5_partsOfOthers_34 ?_
          refine r_iload_n C (i := 3) 0 dX5_partsOfOthers_37 rfl rfl ?_
          refine r_iload_n C (i := 1) 3 dX5_partsOfOthers_38 rfl rfl ?_
          refine r_readV (rest := [.int (mI (pT σ n p))]) C (c_X4_principal (h0 := b1) (q1 := c1) (f := f) (σ := σ) (p := p) (n := n) (hR := hR) (hW := hW) (hp := (by omega)) (hn := (by omega))) lk_X4_principal w_3_197 [1, 2] rfl dX5_partsOfOthers_39 rfl rfl rfl rfl ⟨by decide, by decide⟩ (Nat.le_of_ble_eq_true rfl) (st' := [.int (mI (sR σ p n)), .int (mI (pT σ n p))]) rfl ?_
          refine r_icmp_eq C (c9 := pT σ n p = sR σ p n) 48 dX5_partsOfOthers_42 (by decide) (c_eqMM (by omega) (by omega)) (fun h42_5 => ?_) (fun h42_5 => ?_)
          · refine r_iinc C (lv' := [(3, .int (nI (p + 1))), (2, .int (nI m)), (0, .ref hB), (1, .int (nI n))]) (v := nI (p + 1)) 0 dX5_partsOfOthers_48 rfl (v_inc _) (by decide) rfl ?_
            refine r_goto C 4 dX5_partsOfOthers_51 (by decide) ?_
            exact ih2 (p + 1) m (by omega) (by omega) (by rw [if_pos (by omega)] at hm ⊢; rw [otN, if_pos (by omega), hm, Nat.add_zero])
          · refine r_iinc C (lv' := [(2, .int (nI (m + 1))), (3, .int (nI p)), (0, .ref hB), (1, .int (nI n))]) (v := nI (m + 1)) 1 dX5_partsOfOthers_45 rfl (v_inc _) (by decide) rfl ?_
            refine r_iinc C (lv' := [(3, .int (nI (p + 1))), (2, .int (nI (m + 1))), (0, .ref hB), (1, .int (nI n))]) (v := nI (p + 1)) 1 dX5_partsOfOthers_48 rfl (v_inc _) (by decide) rfl ?_
            refine r_goto C 4 dX5_partsOfOthers_51 (by decide) ?_
            exact ih2 (p + 1) (m + 1) (by omega) (by omega) (by rw [if_pos (by omega)] at hm ⊢; rw [otN, if_neg (by omega), hm])
  exact loop4_1 _ 0 0 (Nat.lt_succ_self _) (by omega) (by split <;> rfl)
set_option maxRecDepth 100000 in
set_option maxHeartbeats 1000000 in
theorem c_X5_night__4 {l : Launch} {E : Ev} {hB b1 b2 b3 b4 b5 b6 b7 b8 b9 b10 : Nat} {c1 : Nat} {f : Nat → Int32} {σ : Sg} (hR : RepC σ f) (hW : Wf σ) {e1 e2 e3 par fre pri sls drk pla tks : Nat} {t1 t2 t3 : Nat → Int32} {n : Nat} (hn : n < 20) : Ct l E yX5_night cX5_night 3 (some FieldType.int) 7 110 [.ref hB, .int (nI n), .int (nI 4)] [(hB, .inr (5, [.ref b1, .ref b2, .ref b3, .ref b4, .ref b5, .ref b6, .ref b7, .ref b8, .ref b9, .ref b10])), (b1, .inr (4, [.ref c1])), (c1, .inl (eI E, 265, .inl f)), (b7, .inr (0, [.ref e1, .ref e2, .ref e3, .int (nI par), .int (nI fre), .int (nI pri), .int (nI sls), .int (nI drk), .int (nI pla), .int (nI tks)])), (e1, .inl (eI E, 6, .inl t1)), (e2, .inl (eI E, 6, .inl t2)), (e3, .inl (eI E, 6, .inl t3))] (fun v9 w9 => ∃ (par2 fre2 pri2 sls2 drk2 pla2 tks2 : Nat) (ta tb tc : Nat → Int32), v9 = some (.int (nI (otk σ n))) ∧ w9 = [(hB, .inr (5, [.ref b1, .ref b2, .ref b3, .ref b4, .ref b5, .ref b6, .ref b7, .ref b8, .ref b9, .ref b10])), (b1, .inr (4, [.ref c1])), (c1, .inl (eI E, 265, .inl f)), (b7, .inr (0, [.ref e1, .ref e2, .ref e3, .int (nI par2), .int (nI fre2), .int (nI pri2), .int (nI sls2), .int (nI drk2), .int (nI pla2), .int (nI tks2)])), (e1, .inl (eI E, 6, .inl ta)), (e2, .inl (eI E, 6, .inl tb)), (e3, .inl (eI E, 6, .inl tc))]) := by
  have hwP := hW.P
  have hwA := hW.A
  have hwS := hW.S
  refine ct_of (by decide +kernel) (Nat.le_of_ble_eq_true rfl) (fun ω C RT => ?_)
  show ω [(hB, .inr (5, [.ref b1, .ref b2, .ref b3, .ref b4, .ref b5, .ref b6, .ref b7, .ref b8, .ref b9, .ref b10])), (b1, .inr (4, [.ref c1])), (c1, .inl (eI E, 265, .inl f)), (b7, .inr (0, [.ref e1, .ref e2, .ref e3, .int (nI par), .int (nI fre), .int (nI pri), .int (nI sls), .int (nI drk), .int (nI pla), .int (nI tks)])), (e1, .inl (eI E, 6, .inl t1)), (e2, .inl (eI E, 6, .inl t2)), (e3, .inl (eI E, 6, .inl t3))] [(0, .ref hB), (1, .int (nI n)), (2, .int (nI 4))] [] 0
  refine r_iload_n C (i := 1) 1 dX5_night_0 rfl rfl ?_
  refine r_readS (rest := []) C (c_X5_requireNight (n := n) (hn := (by omega))) lk_X5_requireNight w_2_3 [] dX5_night_1 rfl rfl rfl ⟨by decide, by decide⟩ (Nat.le_of_ble_eq_true rfl) (st' := []) rfl ?_
  refine r_aload_n C (i := 0) 0 dX5_night_4 rfl rfl ?_
  refine r_get C 0 6 uX5 rfl rfl (by decide) w_1_134 rfl dX5_night_5 ?_
  refine r_aload_n C (i := 0) 0 dX5_night_8 rfl rfl ?_
  refine r_get C 0 0 uX5 rfl rfl (by decide) w_1_128 rfl dX5_night_9 ?_
  refine r_iload_n C (i := 1) 1 dX5_night_12 rfl rfl ?_
  refine r_callV (rest := []) C (c_X0_workOut (hE := b7) (e1 := e1) (e2 := e2) (e3 := e3) (par := par) (fre := fre) (pri := pri) (sls := sls) (drk := drk) (pla := pla) (tks := tks) (t1 := t1) (t2 := t2) (t3 := t3) (h0 := b1) (q1 := c1) (f := f) (σ := σ) (n := n) (hR := hR) (hW := hW) (hn := (by omega))) lk_X0_workOut w_3_145 [3, 4, 5, 6, 1, 2] rfl dX5_night_13 rfl rfl rfl rfl ⟨by decide, by decide⟩ (Nat.le_of_ble_eq_true rfl) ?_
  rintro _ _ ⟨par_1, fre_2, pri_3, sls_4, drk_5, pla_6, tks_7, ta_8, tb_9, tc_10, rfl, rfl, hEv_11⟩
  show ω [(hB, .inr (5, [.ref b1, .ref b2, .ref b3, .ref b4, .ref b5, .ref b6, .ref b7, .ref b8, .ref b9, .ref b10])), (b1, .inr (4, [.ref c1])), (c1, .inl (eI E, 265, .inl f)), (b7, .inr (0, [.ref e1, .ref e2, .ref e3, .int (nI par_1), .int (nI fre_2), .int (nI pri_3), .int (nI sls_4), .int (nI drk_5), .int (nI pla_6), .int (nI tks_7)])), (e1, .inl (eI E, 6, .inl ta_8)), (e2, .inl (eI E, 6, .inl tb_9)), (e3, .inl (eI E, 6, .inl tc_10))] [(0, .ref hB), (1, .int (nI n)), (2, .int (nI 4))] [] 16
  refine r_iload_n C (i := 2) 2 dX5_night_16 rfl rfl ?_
  refine r_tabIn (off := 76) C 93 dX5_night_17 (by decide) (by decide) (by decide) (by decide) ?_
  refine r_aload_n C (i := 0) 0 dX5_night_93 rfl rfl ?_
  refine r_iload_n C (i := 1) 1 dX5_night_94 rfl rfl ?_
  refine r_readV (rest := []) C (c_X5_partsOfOthers (hB := hB) (b1 := b1) (b2 := b2) (b3 := b3) (b4 := b4) (b5 := b5) (b6 := b6) (b7 := b7) (b8 := b8) (b9 := b9) (b10 := b10) (c1 := c1) (f := f) (σ := σ) (e1 := e1) (e2 := e2) (e3 := e3) (par := par_1) (fre := fre_2) (pri := pri_3) (sls := sls_4) (drk := drk_5) (pla := pla_6) (tks := tks_7) (t1 := ta_8) (t2 := tb_9) (t3 := tc_10) (n := n) (hR := hR) (hW := hW) (hEv := hEv_11) (hn := (by omega))) lk_X5_partsOfOthers w_3_222 [0, 1, 2, 3, 4, 5, 6] rfl dX5_night_95 rfl rfl rfl rfl ⟨by decide, by decide⟩ (Nat.le_of_ble_eq_true rfl) (st' := [.int (nI (otk σ n))]) rfl ?_
  exact RT.1 _ _ _ _ _ dX5_night_98 rfl rfl (⟨_, _, _, _, _, _, _, _, _, _, rfl, rfl⟩) rfl
set_option maxRecDepth 100000 in
set_option maxHeartbeats 1000000 in
theorem c_X5_found__4 {l : Launch} {E : Ev} {hB b1 b2 b3 b4 b5 b6 b7 b8 b9 b10 : Nat} {c1 : Nat} {f : Nat → Int32} {σ : Sg} (hR : RepC σ f) (hW : Wf σ) {e1 e2 e3 par fre pri sls drk pla tks : Nat} {t1 t2 t3 : Nat → Int32} {k : Nat} (hk : k < sS σ) : Ct l E yX5_found cX5_found 3 (some FieldType.int) 7 111 [.ref hB, .int (nI k), .int (nI 4)] [(hB, .inr (5, [.ref b1, .ref b2, .ref b3, .ref b4, .ref b5, .ref b6, .ref b7, .ref b8, .ref b9, .ref b10])), (b1, .inr (4, [.ref c1])), (c1, .inl (eI E, 265, .inl f)), (b7, .inr (0, [.ref e1, .ref e2, .ref e3, .int (nI par), .int (nI fre), .int (nI pri), .int (nI sls), .int (nI drk), .int (nI pla), .int (nI tks)])), (e1, .inl (eI E, 6, .inl t1)), (e2, .inl (eI E, 6, .inl t2)), (e3, .inl (eI E, 6, .inl t3))] (fun v9 w9 => ∃ (par2 fre2 pri2 sls2 drk2 pla2 tks2 : Nat) (ta tb tc : Nat → Int32), v9 = some (.int (nI (if usd σ k then 1 else 0))) ∧ w9 = [(hB, .inr (5, [.ref b1, .ref b2, .ref b3, .ref b4, .ref b5, .ref b6, .ref b7, .ref b8, .ref b9, .ref b10])), (b1, .inr (4, [.ref c1])), (c1, .inl (eI E, 265, .inl f)), (b7, .inr (0, [.ref e1, .ref e2, .ref e3, .int (nI par2), .int (nI fre2), .int (nI pri2), .int (nI sls2), .int (nI drk2), .int (nI pla2), .int (nI tks2)])), (e1, .inl (eI E, 6, .inl ta)), (e2, .inl (eI E, 6, .inl tb)), (e3, .inl (eI E, 6, .inl tc))]) := by
  have hwP := hW.P
  have hwA := hW.A
  have hwS := hW.S
  have hL := hW.L hk
  have hdl := dk_le σ (sL σ k 0)
  have hBl := Bs_le σ (sL σ k 0) (sL σ k 1)
  refine ct_of (by decide +kernel) (Nat.le_of_ble_eq_true rfl) (fun ω C RT => ?_)
  show ω [(hB, .inr (5, [.ref b1, .ref b2, .ref b3, .ref b4, .ref b5, .ref b6, .ref b7, .ref b8, .ref b9, .ref b10])), (b1, .inr (4, [.ref c1])), (c1, .inl (eI E, 265, .inl f)), (b7, .inr (0, [.ref e1, .ref e2, .ref e3, .int (nI par), .int (nI fre), .int (nI pri), .int (nI sls), .int (nI drk), .int (nI pla), .int (nI tks)])), (e1, .inl (eI E, 6, .inl t1)), (e2, .inl (eI E, 6, .inl t2)), (e3, .inl (eI E, 6, .inl t3))] [(0, .ref hB), (1, .int (nI k)), (2, .int (nI 4))] [] 0
  refine r_aload_n C (i := 0) 0 dX5_found_0 rfl rfl ?_
  refine r_iload_n C (i := 1) 1 dX5_found_1 rfl rfl ?_
  refine r_readV (rest := []) C (c_X5_requireSlip (hB := hB) (b1 := b1) (b2 := b2) (b3 := b3) (b4 := b4) (b5 := b5) (b6 := b6) (b7 := b7) (b8 := b8) (b9 := b9) (b10 := b10) (c1 := c1) (f := f) (σ := σ) (k := k) (hR := hR) (hW := hW) (hx := (by omega))) lk_X5_requireSlip w_4_33 [0, 1, 2] rfl dX5_found_2 rfl rfl rfl rfl ⟨by decide, by decide⟩ (Nat.le_of_ble_eq_true rfl) (st' := []) rfl ?_
  refine r_iload_n C (i := 2) 2 dX5_found_5 rfl rfl ?_
  refine r_tabIn (off := 70) C 76 dX5_found_6 (by decide) (by decide) (by decide) (by decide) ?_
  refine r_aload_n C (i := 0) 0 dX5_found_76 rfl rfl ?_
  refine r_get C 0 6 uX5 rfl rfl (by decide) w_1_134 rfl dX5_found_77 ?_
  refine r_aload_n C (i := 0) 0 dX5_found_80 rfl rfl ?_
  refine r_get C 0 0 uX5 rfl rfl (by decide) w_1_128 rfl dX5_found_81 ?_
  refine r_aload_n C (i := 0) 0 dX5_found_84 rfl rfl ?_
  refine r_get C 0 0 uX5 rfl rfl (by decide) w_1_128 rfl dX5_found_85 ?_
  refine r_iload_n C (i := 1) 1 dX5_found_88 rfl rfl ?_
  refine r_readV (rest := [.ref b1, .ref b7]) C (c_X4_slipNight (h0 := b1) (q1 := c1) (f := f) (σ := σ) (k := k) (hR := hR) (hW := hW) (hk := (by omega))) lk_X4_slipNight w_4_42 [1, 2] rfl dX5_found_89 rfl rfl rfl rfl ⟨by decide, by decide⟩ (Nat.le_of_ble_eq_true rfl) (st' := [.int (nI (sL σ k 0)), .ref b1, .ref b7]) rfl ?_
  refine r_callV (rest := []) C (c_X0_workOut (hE := b7) (e1 := e1) (e2 := e2) (e3 := e3) (par := par) (fre := fre) (pri := pri) (sls := sls) (drk := drk) (pla := pla) (tks := tks) (t1 := t1) (t2 := t2) (t3 := t3) (h0 := b1) (q1 := c1) (f := f) (σ := σ) (n := sL σ k 0) (hR := hR) (hW := hW) (hn := (by omega))) lk_X0_workOut w_3_145 [3, 4, 5, 6, 1, 2] rfl dX5_found_92 rfl rfl rfl rfl ⟨by decide, by decide⟩ (Nat.le_of_ble_eq_true rfl) ?_
  rintro _ _ ⟨par_1, fre_2, pri_3, sls_4, drk_5, pla_6, tks_7, ta_8, tb_9, tc_10, rfl, rfl, hEv_11⟩
  show ω [(hB, .inr (5, [.ref b1, .ref b2, .ref b3, .ref b4, .ref b5, .ref b6, .ref b7, .ref b8, .ref b9, .ref b10])), (b1, .inr (4, [.ref c1])), (c1, .inl (eI E, 265, .inl f)), (b7, .inr (0, [.ref e1, .ref e2, .ref e3, .int (nI par_1), .int (nI fre_2), .int (nI pri_3), .int (nI sls_4), .int (nI drk_5), .int (nI pla_6), .int (nI tks_7)])), (e1, .inl (eI E, 6, .inl ta_8)), (e2, .inl (eI E, 6, .inl tb_9)), (e3, .inl (eI E, 6, .inl tc_10))] [(0, .ref hB), (1, .int (nI k)), (2, .int (nI 4))] [] 95
  refine r_aload_n C (i := 0) 0 dX5_found_95 rfl rfl ?_
  refine r_get C 0 6 uX5 rfl rfl (by decide) w_1_134 rfl dX5_found_96 ?_
  refine r_readV (rest := []) C (c_X0_isDark (hE := b7) (e1 := e1) (e2 := e2) (e3 := e3) (par := par_1) (fre := fre_2) (pri := pri_3) (sls := sls_4) (drk := drk_5) (pla := pla_6) (tks := tks_7) (t1 := ta_8) (t2 := tb_9) (t3 := tc_10) (σ := σ) (n := (sL σ k 0)) (hEv := hEv_11) (hW := hW)) lk_X0_isDark w_3_146 [3, 4, 5, 6] rfl dX5_found_99 rfl rfl rfl rfl ⟨by decide, by decide⟩ (Nat.le_of_ble_eq_true rfl) (st' := [.int (nI (dk σ (sL σ k 0)))]) rfl ?_
  refine r_if_ne C (y := 0) (c9 := dk σ (sL σ k 0) ≠ 0) 128 dX5_found_102 (by decide) (z_neN (by omega)) (fun h102_12 => ?_) (fun h102_12 => ?_)
  · refine r_iconst C dX5_found_128 ki_0 ?_
    exact RT.1 _ _ _ _ _ dX5_found_129 rfl rfl (⟨_, _, _, _, _, _, _, _, _, _, sv (congrArg nI (if_neg (fun z => by have := z.1; have := z.2; omega)).symm), rfl⟩) rfl
  · refine r_aload_n C (i := 0) 0 dX5_found_105 rfl rfl ?_
    refine r_get C 0 6 uX5 rfl rfl (by decide) w_1_134 rfl dX5_found_106 ?_
    refine r_aload_n C (i := 0) 0 dX5_found_109 rfl rfl ?_
    refine r_get C 0 0 uX5 rfl rfl (by decide) w_1_128 rfl dX5_found_110 ?_
    refine r_iload_n C (i := 1) 1 dX5_found_113 rfl rfl ?_
    refine r_readV (rest := [.ref b7]) C (c_X4_slipPart (h0 := b1) (q1 := c1) (f := f) (σ := σ) (k := k) (hR := hR) (hW := hW) (hk := (by omega))) lk_X4_slipPart w_4_43 [1, 2] rfl dX5_found_114 rfl rfl rfl rfl ⟨by decide, by decide⟩ (Nat.le_of_ble_eq_true rfl) (st' := [.int (nI (sL σ k 1)), .ref b7]) rfl ?_
    refine r_readV (rest := []) C (c_X0_slipOf (hE := b7) (e1 := e1) (e2 := e2) (e3 := e3) (par := par_1) (fre := fre_2) (pri := pri_3) (sls := sls_4) (drk := drk_5) (pla := pla_6) (tks := tks_7) (t1 := ta_8) (t2 := tb_9) (t3 := tc_10) (σ := σ) (n := (sL σ k 0)) (p := sL σ k 1) (hEv := hEv_11) (hW := hW) (hp := (by omega))) lk_X0_slipOf w_4_46 [3, 4, 5, 6] rfl dX5_found_117 rfl rfl rfl rfl ⟨by decide, by decide⟩ (Nat.le_of_ble_eq_true rfl) (st' := [.int (mI (Bs σ (sL σ k 0) (sL σ k 1)))]) rfl ?_
    refine r_iload_n C (i := 1) 1 dX5_found_120 rfl rfl ?_
    refine r_icmp_ne C (c9 := Bs σ (sL σ k 0) (sL σ k 1) ≠ k + 1) 128 dX5_found_121 (by decide) (c_neMN (by omega) (by omega)) (fun h121_13 => ?_) (fun h121_13 => ?_)
    · refine r_iconst C dX5_found_128 ki_0 ?_
      exact RT.1 _ _ _ _ _ dX5_found_129 rfl rfl (⟨_, _, _, _, _, _, _, _, _, _, sv (congrArg nI (if_neg (fun z => by have := z.1; have := z.2; omega)).symm), rfl⟩) rfl
    · refine r_iconst C dX5_found_124 ki_1 ?_
      refine r_goto C 129 dX5_found_125 (by decide) ?_
      exact RT.1 _ _ _ _ _ dX5_found_129 rfl rfl (⟨_, _, _, _, _, _, _, _, _, _, sv (congrArg nI (if_pos ⟨by omega, by omega⟩).symm), rfl⟩) rfl
set_option maxRecDepth 100000 in
set_option maxHeartbeats 1000000 in
theorem c_X5_about__3 {l : Launch} {E : Ev} {hB b1 b2 b3 b4 b5 b6 b7 b8 b9 b10 : Nat} {c1 : Nat} {f : Nat → Int32} {σ : Sg} (hR : RepC σ f) (hW : Wf σ) {b11 sd st : Nat} {e1 e2 e3 par fre pri sls drk pla tks : Nat} {t1 t2 t3 : Nat → Int32} : Ct l E yX5_about cX5_about 2 (some FieldType.int) 6 117 [.ref hB, .int (nI 3)] [(hB, .inr (5, [.ref b1, .ref b2, .ref b3, .ref b4, .ref b5, .ref b6, .ref b7, .ref b8, .ref b9, .ref b10])), (b1, .inr (4, [.ref c1])), (c1, .inl (eI E, 265, .inl f)), (b9, .inr (3, [.ref b11, .int (nI sd), .int (nI st)])), (b11, .inr (0, [.ref e1, .ref e2, .ref e3, .int (nI par), .int (nI fre), .int (nI pri), .int (nI sls), .int (nI drk), .int (nI pla), .int (nI tks)])), (e1, .inl (eI E, 6, .inl t1)), (e2, .inl (eI E, 6, .inl t2)), (e3, .inl (eI E, 6, .inl t3))] (fun v9 w9 => ∃ (sd2 st2 par2 fre2 pri2 sls2 drk2 pla2 tks2 : Nat) (ta tb tc : Nat → Int32), v9 = some (.int (nI (dkS σ 20))) ∧ w9 = [(hB, .inr (5, [.ref b1, .ref b2, .ref b3, .ref b4, .ref b5, .ref b6, .ref b7, .ref b8, .ref b9, .ref b10])), (b1, .inr (4, [.ref c1])), (c1, .inl (eI E, 265, .inl f)), (b9, .inr (3, [.ref b11, .int (nI sd2), .int (nI st2)])), (b11, .inr (0, [.ref e1, .ref e2, .ref e3, .int (nI par2), .int (nI fre2), .int (nI pri2), .int (nI sls2), .int (nI drk2), .int (nI pla2), .int (nI tks2)])), (e1, .inl (eI E, 6, .inl ta)), (e2, .inl (eI E, 6, .inl tb)), (e3, .inl (eI E, 6, .inl tc))]) := by
  have hwP := hW.P
  have hwA := hW.A
  have hwS := hW.S
  refine ct_of (by decide +kernel) (Nat.le_of_ble_eq_true rfl) (fun ω C RT => ?_)
  show ω [(hB, .inr (5, [.ref b1, .ref b2, .ref b3, .ref b4, .ref b5, .ref b6, .ref b7, .ref b8, .ref b9, .ref b10])), (b1, .inr (4, [.ref c1])), (c1, .inl (eI E, 265, .inl f)), (b9, .inr (3, [.ref b11, .int (nI sd), .int (nI st)])), (b11, .inr (0, [.ref e1, .ref e2, .ref e3, .int (nI par), .int (nI fre), .int (nI pri), .int (nI sls), .int (nI drk), .int (nI pla), .int (nI tks)])), (e1, .inl (eI E, 6, .inl t1)), (e2, .inl (eI E, 6, .inl t2)), (e3, .inl (eI E, 6, .inl t3))] [(0, .ref hB), (1, .int (nI 3))] [] 0
  refine r_iload_n C (i := 1) 1 dX5_about_0 rfl rfl ?_
  refine r_tabIn (off := 67) C 68 dX5_about_1 (by decide) (by decide) (by decide) (by decide) ?_
  refine r_aload_n C (i := 0) 0 dX5_about_68 rfl rfl ?_
  refine r_get C 0 8 uX5 rfl rfl (by decide) w_1_136 rfl dX5_about_69 ?_
  refine r_aload_n C (i := 0) 0 dX5_about_72 rfl rfl ?_
  refine r_get C 0 0 uX5 rfl rfl (by decide) w_1_128 rfl dX5_about_73 ?_
  refine r_callV (rest := []) C (c_X3_tally (hZ := b9) (sd := sd) (st := st) (hE := b11) (e1 := e1) (e2 := e2) (e3 := e3) (par := par) (fre := fre) (pri := pri) (sls := sls) (drk := drk) (pla := pla) (tks := tks) (t1 := t1) (t2 := t2) (t3 := t3) (h0 := b1) (q1 := c1) (f := f) (σ := σ) (hR := hR) (hW := hW)) lk_X3_tally w_3_48 [3, 4, 5, 6, 7, 1, 2] rfl dX5_about_76 rfl rfl rfl rfl ⟨by decide, by decide⟩ (Nat.le_of_ble_eq_true rfl) ?_
  rintro _ _ ⟨par_1, fre_2, pri_3, sls_4, drk_5, pla_6, tks_7, ta_8, tb_9, tc_10, rfl, rfl⟩
  show ω [(hB, .inr (5, [.ref b1, .ref b2, .ref b3, .ref b4, .ref b5, .ref b6, .ref b7, .ref b8, .ref b9, .ref b10])), (b1, .inr (4, [.ref c1])), (c1, .inl (eI E, 265, .inl f)), (b9, .inr (3, [.ref b11, .int (nI (dkS σ 20)), .int (nI (tkS σ 20))])), (b11, .inr (0, [.ref e1, .ref e2, .ref e3, .int (nI par_1), .int (nI fre_2), .int (nI pri_3), .int (nI sls_4), .int (nI drk_5), .int (nI pla_6), .int (nI tks_7)])), (e1, .inl (eI E, 6, .inl ta_8)), (e2, .inl (eI E, 6, .inl tb_9)), (e3, .inl (eI E, 6, .inl tc_10))] [(0, .ref hB), (1, .int (nI 3))] [] 79
  refine r_aload_n C (i := 0) 0 dX5_about_79 rfl rfl ?_
  refine r_get C 0 8 uX5 rfl rfl (by decide) w_1_136 rfl dX5_about_80 ?_
  refine r_readV (rest := []) C (c_X3_dark (hZ := b9) (hE := b11) (sd := dkS σ 20) (st := tkS σ 20) ) lk_X3_dark w_3_133 [3] rfl dX5_about_83 rfl rfl rfl rfl ⟨by decide, by decide⟩ (Nat.le_of_ble_eq_true rfl) (st' := [.int (nI (dkS σ 20))]) rfl ?_
  exact RT.1 _ _ _ _ _ dX5_about_86 rfl rfl (⟨_, _, _, _, _, _, _, _, _, _, _, _, rfl, rfl⟩) rfl
set_option maxRecDepth 100000 in
set_option maxHeartbeats 1000000 in
theorem c_X5_about__4 {l : Launch} {E : Ev} {hB b1 b2 b3 b4 b5 b6 b7 b8 b9 b10 : Nat} {c1 : Nat} {f : Nat → Int32} {σ : Sg} (hR : RepC σ f) (hW : Wf σ) {b11 sd st : Nat} {e1 e2 e3 par fre pri sls drk pla tks : Nat} {t1 t2 t3 : Nat → Int32} : Ct l E yX5_about cX5_about 2 (some FieldType.int) 6 117 [.ref hB, .int (nI 4)] [(hB, .inr (5, [.ref b1, .ref b2, .ref b3, .ref b4, .ref b5, .ref b6, .ref b7, .ref b8, .ref b9, .ref b10])), (b1, .inr (4, [.ref c1])), (c1, .inl (eI E, 265, .inl f)), (b9, .inr (3, [.ref b11, .int (nI sd), .int (nI st)])), (b11, .inr (0, [.ref e1, .ref e2, .ref e3, .int (nI par), .int (nI fre), .int (nI pri), .int (nI sls), .int (nI drk), .int (nI pla), .int (nI tks)])), (e1, .inl (eI E, 6, .inl t1)), (e2, .inl (eI E, 6, .inl t2)), (e3, .inl (eI E, 6, .inl t3))] (fun v9 w9 => ∃ (sd2 st2 par2 fre2 pri2 sls2 drk2 pla2 tks2 : Nat) (ta tb tc : Nat → Int32), v9 = some (.int (nI (tkS σ 20))) ∧ w9 = [(hB, .inr (5, [.ref b1, .ref b2, .ref b3, .ref b4, .ref b5, .ref b6, .ref b7, .ref b8, .ref b9, .ref b10])), (b1, .inr (4, [.ref c1])), (c1, .inl (eI E, 265, .inl f)), (b9, .inr (3, [.ref b11, .int (nI sd2), .int (nI st2)])), (b11, .inr (0, [.ref e1, .ref e2, .ref e3, .int (nI par2), .int (nI fre2), .int (nI pri2), .int (nI sls2), .int (nI drk2), .int (nI pla2), .int (nI tks2)])), (e1, .inl (eI E, 6, .inl ta)), (e2, .inl (eI E, 6, .inl tb)), (e3, .inl (eI E, 6, .inl tc))]) := by
  have hwP := hW.P
  have hwA := hW.A
  have hwS := hW.S
  refine ct_of (by decide +kernel) (Nat.le_of_ble_eq_true rfl) (fun ω C RT => ?_)
  show ω [(hB, .inr (5, [.ref b1, .ref b2, .ref b3, .ref b4, .ref b5, .ref b6, .ref b7, .ref b8, .ref b9, .ref b10])), (b1, .inr (4, [.ref c1])), (c1, .inl (eI E, 265, .inl f)), (b9, .inr (3, [.ref b11, .int (nI sd), .int (nI st)])), (b11, .inr (0, [.ref e1, .ref e2, .ref e3, .int (nI par), .int (nI fre), .int (nI pri), .int (nI sls), .int (nI drk), .int (nI pla), .int (nI tks)])), (e1, .inl (eI E, 6, .inl t1)), (e2, .inl (eI E, 6, .inl t2)), (e3, .inl (eI E, 6, .inl t3))] [(0, .ref hB), (1, .int (nI 4))] [] 0
  refine r_iload_n C (i := 1) 1 dX5_about_0 rfl rfl ?_
  refine r_tabIn (off := 86) C 87 dX5_about_1 (by decide) (by decide) (by decide) (by decide) ?_
  refine r_aload_n C (i := 0) 0 dX5_about_87 rfl rfl ?_
  refine r_get C 0 8 uX5 rfl rfl (by decide) w_1_136 rfl dX5_about_88 ?_
  refine r_aload_n C (i := 0) 0 dX5_about_91 rfl rfl ?_
  refine r_get C 0 0 uX5 rfl rfl (by decide) w_1_128 rfl dX5_about_92 ?_
  refine r_callV (rest := []) C (c_X3_tally (hZ := b9) (sd := sd) (st := st) (hE := b11) (e1 := e1) (e2 := e2) (e3 := e3) (par := par) (fre := fre) (pri := pri) (sls := sls) (drk := drk) (pla := pla) (tks := tks) (t1 := t1) (t2 := t2) (t3 := t3) (h0 := b1) (q1 := c1) (f := f) (σ := σ) (hR := hR) (hW := hW)) lk_X3_tally w_3_48 [3, 4, 5, 6, 7, 1, 2] rfl dX5_about_95 rfl rfl rfl rfl ⟨by decide, by decide⟩ (Nat.le_of_ble_eq_true rfl) ?_
  rintro _ _ ⟨par_1, fre_2, pri_3, sls_4, drk_5, pla_6, tks_7, ta_8, tb_9, tc_10, rfl, rfl⟩
  show ω [(hB, .inr (5, [.ref b1, .ref b2, .ref b3, .ref b4, .ref b5, .ref b6, .ref b7, .ref b8, .ref b9, .ref b10])), (b1, .inr (4, [.ref c1])), (c1, .inl (eI E, 265, .inl f)), (b9, .inr (3, [.ref b11, .int (nI (dkS σ 20)), .int (nI (tkS σ 20))])), (b11, .inr (0, [.ref e1, .ref e2, .ref e3, .int (nI par_1), .int (nI fre_2), .int (nI pri_3), .int (nI sls_4), .int (nI drk_5), .int (nI pla_6), .int (nI tks_7)])), (e1, .inl (eI E, 6, .inl ta_8)), (e2, .inl (eI E, 6, .inl tb_9)), (e3, .inl (eI E, 6, .inl tc_10))] [(0, .ref hB), (1, .int (nI 4))] [] 98
  refine r_aload_n C (i := 0) 0 dX5_about_98 rfl rfl ?_
  refine r_get C 0 8 uX5 rfl rfl (by decide) w_1_136 rfl dX5_about_99 ?_
  refine r_readV (rest := []) C (c_X3_takings (hZ := b9) (hE := b11) (sd := dkS σ 20) (st := tkS σ 20) ) lk_X3_takings w_3_137 [3] rfl dX5_about_102 rfl rfl rfl rfl ⟨by decide, by decide⟩ (Nat.le_of_ble_eq_true rfl) (st' := [.int (nI (tkS σ 20))]) rfl ?_
  exact RT.1 _ _ _ _ _ dX5_about_105 rfl rfl (⟨_, _, _, _, _, _, _, _, _, _, _, _, rfl, rfl⟩) rfl
set_option maxRecDepth 100000 in
set_option maxHeartbeats 1000000 in
theorem c_X5_find {l : Launch} {E : Ev} {hB b1 b2 b3 b4 b5 b6 b7 b8 b9 b10 : Nat} {c1 : Nat} {f : Nat → Int32} {σ : Sg} (hR : RepC σ f) (hW : Wf σ) {e1 e2 e3 par fre pri sls drk pla tks : Nat} {t1 t2 t3 : Nat → Int32} {p a k : Nat} (hp : p < sP σ) (ha : a < sA σ) (hk : k < 2147483648) : Ct l E yX5_find cX5_find 7 (some FieldType.int) 7 119 [.ref hB, .int (nI p), .int (nI a), .int (nI k)] [(hB, .inr (5, [.ref b1, .ref b2, .ref b3, .ref b4, .ref b5, .ref b6, .ref b7, .ref b8, .ref b9, .ref b10])), (b1, .inr (4, [.ref c1])), (c1, .inl (eI E, 265, .inl f)), (b7, .inr (0, [.ref e1, .ref e2, .ref e3, .int (nI par), .int (nI fre), .int (nI pri), .int (nI sls), .int (nI drk), .int (nI pla), .int (nI tks)])), (e1, .inl (eI E, 6, .inl t1)), (e2, .inl (eI E, 6, .inl t2)), (e3, .inl (eI E, 6, .inl t3))] (fun v9 w9 => ∃ (par2 fre2 pri2 sls2 drk2 pla2 tks2 : Nat) (ta tb tc : Nat → Int32), v9 = some (.int (mI (fnd σ p a k))) ∧ w9 = [(hB, .inr (5, [.ref b1, .ref b2, .ref b3, .ref b4, .ref b5, .ref b6, .ref b7, .ref b8, .ref b9, .ref b10])), (b1, .inr (4, [.ref c1])), (c1, .inl (eI E, 265, .inl f)), (b7, .inr (0, [.ref e1, .ref e2, .ref e3, .int (nI par2), .int (nI fre2), .int (nI pri2), .int (nI sls2), .int (nI drk2), .int (nI pla2), .int (nI tks2)])), (e1, .inl (eI E, 6, .inl ta)), (e2, .inl (eI E, 6, .inl tb)), (e3, .inl (eI E, 6, .inl tc))]) := by
  have hwP := hW.P
  have hwA := hW.A
  have hwS := hW.S
  have hbl := bm_lt (pbP_le σ p a) 20
  have hbi : ∀ n, n < 20 → (bm (pbP σ p a) 20 / 2 ^ n % 2 = 1 ↔ isPl σ p a n) := fun n hn => by
    rw [bm_bit (pbP_le σ p a) hn]; unfold pbP
    split
    · rename_i z; exact ⟨fun _ => z, fun _ => rfl⟩
    · rename_i z; exact ⟨fun e => absurd e (by decide), fun e => absurd e z⟩
  refine ct_of (by decide +kernel) (Nat.le_of_ble_eq_true rfl) (fun ω C RT => ?_)
  show ω [(hB, .inr (5, [.ref b1, .ref b2, .ref b3, .ref b4, .ref b5, .ref b6, .ref b7, .ref b8, .ref b9, .ref b10])), (b1, .inr (4, [.ref c1])), (c1, .inl (eI E, 265, .inl f)), (b7, .inr (0, [.ref e1, .ref e2, .ref e3, .int (nI par), .int (nI fre), .int (nI pri), .int (nI sls), .int (nI drk), .int (nI pla), .int (nI tks)])), (e1, .inl (eI E, 6, .inl t1)), (e2, .inl (eI E, 6, .inl t2)), (e3, .inl (eI E, 6, .inl t3))] [(0, .ref hB), (1, .int (nI p)), (2, .int (nI a)), (3, .int (nI k))] [] 0
  refine r_aload_n C (i := 0) 0 dX5_find_0 rfl rfl ?_
  refine r_iload_n C (i := 1) 1 dX5_find_1 rfl rfl ?_
  refine r_readV (rest := []) C (c_X5_requirePart (hB := hB) (b1 := b1) (b2 := b2) (b3 := b3) (b4 := b4) (b5 := b5) (b6 := b6) (b7 := b7) (b8 := b8) (b9 := b9) (b10 := b10) (c1 := c1) (f := f) (σ := σ) (p := p) (hR := hR) (hW := hW) (hx := (by omega))) lk_X5_requirePart w_3_183 [0, 1, 2] rfl dX5_find_2 rfl rfl rfl rfl ⟨by decide, by decide⟩ (Nat.le_of_ble_eq_true rfl) (st' := []) rfl ?_
  refine r_aload_n C (i := 0) 0 dX5_find_5 rfl rfl ?_
  refine r_iload_n C (i := 2) 2 dX5_find_6 rfl rfl ?_
  refine r_readV (rest := []) C (c_X5_requireActor (hB := hB) (b1 := b1) (b2 := b2) (b3 := b3) (b4 := b4) (b5 := b5) (b6 := b6) (b7 := b7) (b8 := b8) (b9 := b9) (b10 := b10) (c1 := c1) (f := f) (σ := σ) (a := a) (hR := hR) (hW := hW) (hx := (by omega))) lk_X5_requireActor w_1_167 [0, 1, 2] rfl dX5_find_7 rfl rfl rfl rfl ⟨by decide, by decide⟩ (Nat.le_of_ble_eq_true rfl) (st' := []) rfl ?_
  refine r_iload_n C (i := 3) 3 dX5_find_10 rfl rfl ?_
  refine r_if_geT C (y := 0) 25 dX5_find_11 (by decide) ((z_geN (by omega)).mpr (by omega)) ?_
  refine r_aload_n C (i := 0) 0 dX5_find_25 rfl rfl ?_
  refine r_iload_n C (i := 1) 1 dX5_find_26 rfl rfl ?_
  refine r_iload_n C (i := 2) 2 dX5_find_27 rfl rfl ?_
  refine r_callV (rest := []) C (c_X5_nightsOfPart (hB := hB) (b1 := b1) (b2 := b2) (b3 := b3) (b4 := b4) (b5 := b5) (b6 := b6) (b7 := b7) (b8 := b8) (b9 := b9) (b10 := b10) (c1 := c1) (f := f) (σ := σ) (e1 := e1) (e2 := e2) (e3 := e3) (par := par) (fre := fre) (pri := pri) (sls := sls) (drk := drk) (pla := pla) (tks := tks) (t1 := t1) (t2 := t2) (t3 := t3) (p := p) (a := a) (hR := hR) (hW := hW) (hp := (by omega)) (ha := (by omega))) lk_X5_nightsOfPart w_4_162 [0, 1, 2, 3, 4, 5, 6] rfl dX5_find_28 rfl rfl rfl rfl ⟨by decide, by decide⟩ (Nat.le_of_ble_eq_true rfl) ?_
  rintro _ _ ⟨par_1, fre_2, pri_3, sls_4, drk_5, pla_6, tks_7, ta_8, tb_9, tc_10, rfl, rfl⟩
  show ω [(hB, .inr (5, [.ref b1, .ref b2, .ref b3, .ref b4, .ref b5, .ref b6, .ref b7, .ref b8, .ref b9, .ref b10])), (b1, .inr (4, [.ref c1])), (c1, .inl (eI E, 265, .inl f)), (b7, .inr (0, [.ref e1, .ref e2, .ref e3, .int (nI par_1), .int (nI fre_2), .int (nI pri_3), .int (nI sls_4), .int (nI drk_5), .int (nI pla_6), .int (nI tks_7)])), (e1, .inl (eI E, 6, .inl ta_8)), (e2, .inl (eI E, 6, .inl tb_9)), (e3, .inl (eI E, 6, .inl tc_10))] [(0, .ref hB), (1, .int (nI p)), (2, .int (nI a)), (3, .int (nI k))] [.int (nI (bm (pbP σ p a) 20))] 31
  refine r_istore C (lv' := [(4, .int (nI (bm (pbP σ p a) 20))), (0, .ref hB), (1, .int (nI p)), (2, .int (nI a)), (3, .int (nI k))]) dX5_find_31 (by decide) rfl ?_
  refine r_iconst C dX5_find_33 ki_0 ?_
  refine r_istore C (lv' := [(5, .int (nI 0)), (4, .int (nI (bm (pbP σ p a) 20))), (0, .ref hB), (1, .int (nI p)), (2, .int (nI a)), (3, .int (nI k))]) dX5_find_34 (by decide) rfl ?_
  refine r_iconst C dX5_find_36 ki_0 ?_
  refine r_istore C (lv' := [(6, .int (nI 0)), (5, .int (nI 0)), (4, .int (nI (bm (pbP σ p a) 20))), (0, .ref hB), (1, .int (nI p)), (2, .int (nI a)), (3, .int (nI k))]) dX5_find_37 (by decide) rfl ?_
  have loop39_11 : ∀ (dd9 : Nat) (n : Nat) (m : Nat), 20 - n < dd9 → (n ≤ 20) → (m = fdC σ p a n) → (∀ j, j < n → fdP σ p a k j = false) → ω [(hB, .inr (5, [.ref b1, .ref b2, .ref b3, .ref b4, .ref b5, .ref b6, .ref b7, .ref b8, .ref b9, .ref b10])), (b1, .inr (4, [.ref c1])), (c1, .inl (eI E, 265, .inl f)), (b7, .inr (0, [.ref e1, .ref e2, .ref e3, .int (nI par_1), .int (nI fre_2), .int (nI pri_3), .int (nI sls_4), .int (nI drk_5), .int (nI pla_6), .int (nI tks_7)])), (e1, .inl (eI E, 6, .inl ta_8)), (e2, .inl (eI E, 6, .inl tb_9)), (e3, .inl (eI E, 6, .inl tc_10))] [(6, .int (nI n)), (5, .int (nI m)), (4, .int (nI (bm (pbP σ p a) 20))), (0, .ref hB), (1, .int (nI p)), (2, .int (nI a)), (3, .int (nI k))] [] 39 := by
    intro dd9
    induction dd9 with
    | zero => intro n m hd; exact absurd hd (Nat.not_lt_zero _)
    | succ dd9 ih12 =>
      intro n m hd hn hm hno
      have hfl := fdC_le σ p a n
      refine r_iload C (i := 6) 0 dX5_find_39 rfl ?_
      refine r_bipush C dX5_find_41 kb_20 ?_
      refine r_icmp_ge C (c9 := 20 ≤ n) 74 dX5_find_43 (by decide) (c_leNN (by omega) (by omega)) (fun h43_13 => ?_) (fun h43_13 => ?_)
      · refine r_iconst C dX5_find_74 ki_m1 ?_
        exact RT.1 _ _ _ _ _ dX5_find_75 rfl rfl (⟨_, _, _, _, _, _, _, _, _, _, sv (congrArg mI (fnd_no (fun j hj => hno j (by omega))).symm), rfl⟩) rfl
      · refine r_iload C (i := 4) 2 dX5_find_46 rfl ?_
        refine r_iload C (i := 6) 0 dX5_find_48 rfl ?_
        refine r_readS (rest := []) C (c_X5_holds (s := bm (pbP σ p a) 20) (e := n) (hs := (by omega)) (he := (by omega))) lk_X5_holds w_3_239 [] dX5_find_50 rfl rfl rfl ⟨by decide, by decide⟩ (Nat.le_of_ble_eq_true rfl) (st' := [.int (bP ((bm (pbP σ p a) 20) / 2 ^ n % 2 = 1))]) rfl ?_
        refine r_if_eq C (y := 0) (c9 := ¬ ((bm (pbP σ p a) 20) / 2 ^ n % 2 = 1)) 68 dX5_find_53 (by decide) z_eqB (fun h53_14 => ?_) (fun h53_14 => ?_)
        · refine r_iinc C (lv' := [(6, .int (nI (n + 1))), (5, .int (nI m)), (4, .int (nI (bm (pbP σ p a) 20))), (0, .ref hB), (1, .int (nI p)), (2, .int (nI a)), (3, .int (nI k))]) (v := nI (n + 1)) 0 dX5_find_68 rfl (v_inc _) (by decide) rfl ?_
          refine r_goto C 39 dX5_find_71 (by decide) ?_
          exact ih12 (n + 1) m (by omega) (by omega) (by rw [fdC, if_neg (fun z => h53_14 ((hbi n (by omega)).mpr z)), hm, Nat.add_zero]) (lt_step hno (decide_eq_false (fun z => h53_14 ((hbi n (by omega)).mpr z.1))))
        · replace h53_14 : (bm (pbP σ p a) 20) / 2 ^ n % 2 = 1 := Decidable.not_not.mp h53_14
          refine r_iload C (i := 5) 1 dX5_find_56 rfl ?_
          refine r_iload_n C (i := 3) 6 dX5_find_58 rfl rfl ?_
          refine r_icmp_ne C (c9 := m ≠ k) 65 dX5_find_59 (by decide) (c_neNN (by omega) (by omega)) (fun h59_15 => ?_) (fun h59_15 => ?_)
          · refine r_iinc C (lv' := [(5, .int (nI (m + 1))), (6, .int (nI n)), (4, .int (nI (bm (pbP σ p a) 20))), (0, .ref hB), (1, .int (nI p)), (2, .int (nI a)), (3, .int (nI k))]) (v := nI (m + 1)) 1 dX5_find_65 rfl (v_inc _) (by decide) rfl ?_
            refine r_iinc C (lv' := [(6, .int (nI (n + 1))), (5, .int (nI (m + 1))), (4, .int (nI (bm (pbP σ p a) 20))), (0, .ref hB), (1, .int (nI p)), (2, .int (nI a)), (3, .int (nI k))]) (v := nI (n + 1)) 1 dX5_find_68 rfl (v_inc _) (by decide) rfl ?_
            refine r_goto C 39 dX5_find_71 (by decide) ?_
            exact ih12 (n + 1) (m + 1) (by omega) (by omega) (by rw [fdC, if_pos ((hbi n (by omega)).mp h53_14), hm]) (lt_step hno (decide_eq_false (fun z => by have := z.2; omega)))
          · refine r_iload C (i := 6) 0 dX5_find_62 rfl ?_
            exact RT.1 _ _ _ _ _ dX5_find_64 rfl rfl (⟨_, _, _, _, _, _, _, _, _, _, sv ((mI_s _).symm.trans (congrArg mI (fnd_yes (by omega) ((hbi n (by omega)).mp h53_14) (by omega) hno).symm)), rfl⟩) rfl
  exact loop39_11 _ 0 0 (Nat.lt_succ_self _) (by omega) rfl (fun j hj => absurd hj (Nat.not_lt_zero j))
set_option maxRecDepth 100000 in
set_option maxHeartbeats 1000000 in
theorem c_X5_longest {l : Launch} {E : Ev} {hB b1 b2 b3 b4 b5 b6 b7 b8 b9 b10 : Nat} {c1 : Nat} {f : Nat → Int32} {σ : Sg} (hR : RepC σ f) (hW : Wf σ) {e1 e2 e3 par fre pri sls drk pla tks : Nat} {t1 t2 t3 : Nat → Int32} {p a : Nat} (hp : p < sP σ) (ha : a < sA σ) : Ct l E yX5_longest cX5_longest 7 (some FieldType.int) 7 119 [.ref hB, .int (nI p), .int (nI a)] [(hB, .inr (5, [.ref b1, .ref b2, .ref b3, .ref b4, .ref b5, .ref b6, .ref b7, .ref b8, .ref b9, .ref b10])), (b1, .inr (4, [.ref c1])), (c1, .inl (eI E, 265, .inl f)), (b7, .inr (0, [.ref e1, .ref e2, .ref e3, .int (nI par), .int (nI fre), .int (nI pri), .int (nI sls), .int (nI drk), .int (nI pla), .int (nI tks)])), (e1, .inl (eI E, 6, .inl t1)), (e2, .inl (eI E, 6, .inl t2)), (e3, .inl (eI E, 6, .inl t3))] (fun v9 w9 => ∃ (par2 fre2 pri2 sls2 drk2 pla2 tks2 : Nat) (ta tb tc : Nat → Int32), v9 = some (.int (nI (lgB σ p a 20))) ∧ w9 = [(hB, .inr (5, [.ref b1, .ref b2, .ref b3, .ref b4, .ref b5, .ref b6, .ref b7, .ref b8, .ref b9, .ref b10])), (b1, .inr (4, [.ref c1])), (c1, .inl (eI E, 265, .inl f)), (b7, .inr (0, [.ref e1, .ref e2, .ref e3, .int (nI par2), .int (nI fre2), .int (nI pri2), .int (nI sls2), .int (nI drk2), .int (nI pla2), .int (nI tks2)])), (e1, .inl (eI E, 6, .inl ta)), (e2, .inl (eI E, 6, .inl tb)), (e3, .inl (eI E, 6, .inl tc))]) := by
  have hwP := hW.P
  have hwA := hW.A
  have hwS := hW.S
  have hbl := bm_lt (pbP_le σ p a) 20
  have hbi : ∀ n, n < 20 → (bm (pbP σ p a) 20 / 2 ^ n % 2 = 1 ↔ isPl σ p a n) := fun n hn => by
    rw [bm_bit (pbP_le σ p a) hn]; unfold pbP
    split
    · rename_i z; exact ⟨fun _ => z, fun _ => rfl⟩
    · rename_i z; exact ⟨fun e => absurd e (by decide), fun e => absurd e z⟩
  refine ct_of (by decide +kernel) (Nat.le_of_ble_eq_true rfl) (fun ω C RT => ?_)
  show ω [(hB, .inr (5, [.ref b1, .ref b2, .ref b3, .ref b4, .ref b5, .ref b6, .ref b7, .ref b8, .ref b9, .ref b10])), (b1, .inr (4, [.ref c1])), (c1, .inl (eI E, 265, .inl f)), (b7, .inr (0, [.ref e1, .ref e2, .ref e3, .int (nI par), .int (nI fre), .int (nI pri), .int (nI sls), .int (nI drk), .int (nI pla), .int (nI tks)])), (e1, .inl (eI E, 6, .inl t1)), (e2, .inl (eI E, 6, .inl t2)), (e3, .inl (eI E, 6, .inl t3))] [(0, .ref hB), (1, .int (nI p)), (2, .int (nI a))] [] 0
  refine r_aload_n C (i := 0) 0 dX5_longest_0 rfl rfl ?_
  refine r_iload_n C (i := 1) 1 dX5_longest_1 rfl rfl ?_
  refine r_readV (rest := []) C (c_X5_requirePart (hB := hB) (b1 := b1) (b2 := b2) (b3 := b3) (b4 := b4) (b5 := b5) (b6 := b6) (b7 := b7) (b8 := b8) (b9 := b9) (b10 := b10) (c1 := c1) (f := f) (σ := σ) (p := p) (hR := hR) (hW := hW) (hx := (by omega))) lk_X5_requirePart w_3_183 [0, 1, 2] rfl dX5_longest_2 rfl rfl rfl rfl ⟨by decide, by decide⟩ (Nat.le_of_ble_eq_true rfl) (st' := []) rfl ?_
  refine r_aload_n C (i := 0) 0 dX5_longest_5 rfl rfl ?_
  refine r_iload_n C (i := 2) 2 dX5_longest_6 rfl rfl ?_
  refine r_readV (rest := []) C (c_X5_requireActor (hB := hB) (b1 := b1) (b2 := b2) (b3 := b3) (b4 := b4) (b5 := b5) (b6 := b6) (b7 := b7) (b8 := b8) (b9 := b9) (b10 := b10) (c1 := c1) (f := f) (σ := σ) (a := a) (hR := hR) (hW := hW) (hx := (by omega))) lk_X5_requireActor w_1_167 [0, 1, 2] rfl dX5_longest_7 rfl rfl rfl rfl ⟨by decide, by decide⟩ (Nat.le_of_ble_eq_true rfl) (st' := []) rfl ?_
  refine r_aload_n C (i := 0) 0 dX5_longest_10 rfl rfl ?_
  refine r_iload_n C (i := 1) 1 dX5_longest_11 rfl rfl ?_
  refine r_iload_n C (i := 2) 2 dX5_longest_12 rfl rfl ?_
  refine r_callV (rest := []) C (c_X5_nightsOfPart (hB := hB) (b1 := b1) (b2 := b2) (b3 := b3) (b4 := b4) (b5 := b5) (b6 := b6) (b7 := b7) (b8 := b8) (b9 := b9) (b10 := b10) (c1 := c1) (f := f) (σ := σ) (e1 := e1) (e2 := e2) (e3 := e3) (par := par) (fre := fre) (pri := pri) (sls := sls) (drk := drk) (pla := pla) (tks := tks) (t1 := t1) (t2 := t2) (t3 := t3) (p := p) (a := a) (hR := hR) (hW := hW) (hp := (by omega)) (ha := (by omega))) lk_X5_nightsOfPart w_4_162 [0, 1, 2, 3, 4, 5, 6] rfl dX5_longest_13 rfl rfl rfl rfl ⟨by decide, by decide⟩ (Nat.le_of_ble_eq_true rfl) ?_
  rintro _ _ ⟨par_1, fre_2, pri_3, sls_4, drk_5, pla_6, tks_7, ta_8, tb_9, tc_10, rfl, rfl⟩
  show ω [(hB, .inr (5, [.ref b1, .ref b2, .ref b3, .ref b4, .ref b5, .ref b6, .ref b7, .ref b8, .ref b9, .ref b10])), (b1, .inr (4, [.ref c1])), (c1, .inl (eI E, 265, .inl f)), (b7, .inr (0, [.ref e1, .ref e2, .ref e3, .int (nI par_1), .int (nI fre_2), .int (nI pri_3), .int (nI sls_4), .int (nI drk_5), .int (nI pla_6), .int (nI tks_7)])), (e1, .inl (eI E, 6, .inl ta_8)), (e2, .inl (eI E, 6, .inl tb_9)), (e3, .inl (eI E, 6, .inl tc_10))] [(0, .ref hB), (1, .int (nI p)), (2, .int (nI a))] [.int (nI (bm (pbP σ p a) 20))] 16
  refine r_istore_n C (lv' := [(3, .int (nI (bm (pbP σ p a) 20))), (0, .ref hB), (1, .int (nI p)), (2, .int (nI a))]) dX5_longest_16 rfl (by decide) rfl ?_
  refine r_iconst C dX5_longest_17 ki_0 ?_
  refine r_istore C (lv' := [(4, .int (nI 0)), (3, .int (nI (bm (pbP σ p a) 20))), (0, .ref hB), (1, .int (nI p)), (2, .int (nI a))]) dX5_longest_18 (by decide) rfl ?_
  refine r_iconst C dX5_longest_20 ki_0 ?_
  refine r_istore C (lv' := [(5, .int (nI 0)), (4, .int (nI 0)), (3, .int (nI (bm (pbP σ p a) 20))), (0, .ref hB), (1, .int (nI p)), (2, .int (nI a))]) dX5_longest_21 (by decide) rfl ?_
  refine r_iconst C dX5_longest_23 ki_0 ?_
  refine r_istore C (lv' := [(6, .int (nI 0)), (5, .int (nI 0)), (4, .int (nI 0)), (3, .int (nI (bm (pbP σ p a) 20))), (0, .ref hB), (1, .int (nI p)), (2, .int (nI a))]) dX5_longest_24 (by decide) rfl ?_
  have loop26_11 : ∀ (dd9 : Nat) (n : Nat) (r : Nat) (m : Nat), 20 - n < dd9 → (n ≤ 20) → (r = lgR σ p a n) → (m = lgB σ p a n) → ω [(hB, .inr (5, [.ref b1, .ref b2, .ref b3, .ref b4, .ref b5, .ref b6, .ref b7, .ref b8, .ref b9, .ref b10])), (b1, .inr (4, [.ref c1])), (c1, .inl (eI E, 265, .inl f)), (b7, .inr (0, [.ref e1, .ref e2, .ref e3, .int (nI par_1), .int (nI fre_2), .int (nI pri_3), .int (nI sls_4), .int (nI drk_5), .int (nI pla_6), .int (nI tks_7)])), (e1, .inl (eI E, 6, .inl ta_8)), (e2, .inl (eI E, 6, .inl tb_9)), (e3, .inl (eI E, 6, .inl tc_10))] [(6, .int (nI n)), (5, .int (nI r)), (4, .int (nI m)), (3, .int (nI (bm (pbP σ p a) 20))), (0, .ref hB), (1, .int (nI p)), (2, .int (nI a))] [] 26 := by
    intro dd9
    induction dd9 with
    | zero => intro n r m hd; exact absurd hd (Nat.not_lt_zero _)
    | succ dd9 ih12 =>
      intro n r m hd hn hr hm
      have hml := lgB_le σ p a n
      have hrl := lgR_le σ p a n
      refine r_iload C (i := 6) 0 dX5_longest_26 rfl ?_
      refine r_bipush C dX5_longest_28 kb_20 ?_
      refine r_icmp_ge C (c9 := 20 ≤ n) 67 dX5_longest_30 (by decide) (c_leNN (by omega) (by omega)) (fun h30_13 => ?_) (fun h30_13 => ?_)
      · refine r_iload C (i := 4) 2 dX5_longest_67 rfl ?_
        exact RT.1 _ _ _ _ _ dX5_longest_69 rfl rfl (⟨_, _, _, _, _, _, _, _, _, _, sv (congrArg nI (by rw [hm, (by omega : n = 20)])), rfl⟩) rfl
      · refine r_iload_n C (i := 3) 3 dX5_longest_33 rfl rfl ?_
        refine r_iload C (i := 6) 0 dX5_longest_34 rfl ?_
        refine r_readS (rest := []) C (c_X5_holds (s := bm (pbP σ p a) 20) (e := n) (hs := (by omega)) (he := (by omega))) lk_X5_holds w_3_239 [] dX5_longest_36 rfl rfl rfl ⟨by decide, by decide⟩ (Nat.le_of_ble_eq_true rfl) (st' := [.int (bP ((bm (pbP σ p a) 20) / 2 ^ n % 2 = 1))]) rfl ?_
        refine r_if_eq C (y := 0) (c9 := ¬ ((bm (pbP σ p a) 20) / 2 ^ n % 2 = 1)) 49 dX5_longest_39 (by decide) z_eqB (fun h39_14 => ?_) (fun h39_14 => ?_)
        · refine r_iconst C dX5_longest_49 ki_0 ?_
          refine r_istore C (lv' := [(5, .int (nI 0)), (6, .int (nI n)), (4, .int (nI m)), (3, .int (nI (bm (pbP σ p a) 20))), (0, .ref hB), (1, .int (nI p)), (2, .int (nI a))]) dX5_longest_50 (by decide) rfl ?_
          refine r_iload C (i := 4) 2 dX5_longest_52 rfl ?_
          refine r_iload C (i := 5) 0 dX5_longest_54 rfl ?_
          refine r_mmax (v := nI (if m < 0 then 0 else m)) C w_4_180 dX5_longest_56 (by decide) (by decide) (v_max (by omega) (by omega)) (Nat.le_of_ble_eq_true rfl) ?_
          refine r_istore C (lv' := [(4, .int (nI (if m < 0 then 0 else m))), (5, .int (nI 0)), (6, .int (nI n)), (3, .int (nI (bm (pbP σ p a) 20))), (0, .ref hB), (1, .int (nI p)), (2, .int (nI a))]) dX5_longest_59 (by decide) rfl ?_
          refine r_iinc C (lv' := [(6, .int (nI (n + 1))), (4, .int (nI (if m < 0 then 0 else m))), (5, .int (nI 0)), (3, .int (nI (bm (pbP σ p a) 20))), (0, .ref hB), (1, .int (nI p)), (2, .int (nI a))]) (v := nI (n + 1)) 2 dX5_longest_61 rfl (v_inc _) (by decide) rfl ?_
          refine r_goto C 26 dX5_longest_64 (by decide) ?_
          refine r_lv (lv' := [(6, .int (nI (n + 1))), (5, .int (nI 0)), (4, .int (nI (if m < 0 then 0 else m))), (3, .int (nI (bm (pbP σ p a) 20))), (0, .ref hB), (1, .int (nI p)), (2, .int (nI a))]) C [0, 2, 1, 3, 4, 5, 6] rfl ?_
          exact ih12 (n + 1) 0 (if m < 0 then 0 else m) (by omega) (by omega) (by rw [lgR, if_neg (fun z => h39_14 ((hbi n (by omega)).mpr z))]) (by rw [lgB, ← ((by rw [lgR, if_neg (fun z => h39_14 ((hbi n (by omega)).mpr z))]) : 0 = lgR σ p a (n + 1)), ← hm])
        · replace h39_14 : (bm (pbP σ p a) 20) / 2 ^ n % 2 = 1 := Decidable.not_not.mp h39_14
          refine r_iload C (i := 5) 1 dX5_longest_42 rfl ?_
          refine r_iconst C dX5_longest_44 ki_1 ?_
          refine r_iadd (v := nI (r + 1)) C dX5_longest_45 (nI_add _ _) ?_
          refine r_goto C 50 dX5_longest_46 (by decide) ?_
          refine r_istore C (lv' := [(5, .int (nI (r + 1))), (6, .int (nI n)), (4, .int (nI m)), (3, .int (nI (bm (pbP σ p a) 20))), (0, .ref hB), (1, .int (nI p)), (2, .int (nI a))]) dX5_longest_50 (by decide) rfl ?_
          refine r_iload C (i := 4) 2 dX5_longest_52 rfl ?_
          refine r_iload C (i := 5) 0 dX5_longest_54 rfl ?_
          refine r_mmax (v := nI (if m < r + 1 then r + 1 else m)) C w_4_180 dX5_longest_56 (by decide) (by decide) (v_max (by omega) (by omega)) (Nat.le_of_ble_eq_true rfl) ?_
          refine r_istore C (lv' := [(4, .int (nI (if m < r + 1 then r + 1 else m))), (5, .int (nI (r + 1))), (6, .int (nI n)), (3, .int (nI (bm (pbP σ p a) 20))), (0, .ref hB), (1, .int (nI p)), (2, .int (nI a))]) dX5_longest_59 (by decide) rfl ?_
          refine r_iinc C (lv' := [(6, .int (nI (n + 1))), (4, .int (nI (if m < r + 1 then r + 1 else m))), (5, .int (nI (r + 1))), (3, .int (nI (bm (pbP σ p a) 20))), (0, .ref hB), (1, .int (nI p)), (2, .int (nI a))]) (v := nI (n + 1)) 2 dX5_longest_61 rfl (v_inc _) (by decide) rfl ?_
          refine r_goto C 26 dX5_longest_64 (by decide) ?_
          refine r_lv (lv' := [(6, .int (nI (n + 1))), (5, .int (nI (r + 1))), (4, .int (nI (if m < r + 1 then r + 1 else m))), (3, .int (nI (bm (pbP σ p a) 20))), (0, .ref hB), (1, .int (nI p)), (2, .int (nI a))]) C [0, 2, 1, 3, 4, 5, 6] rfl ?_
          exact ih12 (n + 1) (r + 1) (if m < r + 1 then r + 1 else m) (by omega) (by omega) (by rw [lgR, if_pos ((hbi n (by omega)).mp h39_14), hr]) (by rw [lgB, ← ((by rw [lgR, if_pos ((hbi n (by omega)).mp h39_14), hr]) : r + 1 = lgR σ p a (n + 1)), ← hm])
  exact loop26_11 _ 0 0 0 (Nat.lt_succ_self _) (by omega) rfl rfl
theorem oAll_0 (σ : Sg) (a : Nat) : oAll σ a 0 = σ := by
  funext t i j; unfold oAll; exact if_neg (fun z => Nat.not_lt_zero j z.2.2)
theorem oAll_s (σ : Sg) (a n : Nat) : oIll (oAll σ a n) a n 1 = oAll σ a (n + 1) := by
  funext t i j
  unfold oIll oAll
  by_cases h : t = 5 ∧ i = a ∧ j < n + 1
  · rw [if_pos h]
    by_cases e : j = n
    · rw [if_pos ⟨h.1, h.2.1, e⟩]
    · rw [if_neg (fun z => e z.2.2), if_pos ⟨h.1, h.2.1, by omega⟩]
  · rw [if_neg h, if_neg (fun z => h ⟨z.1, z.2.1, by omega⟩), if_neg (fun z => h ⟨z.1, z.2.1, by omega⟩)]
set_option maxRecDepth 100000 in
set_option maxHeartbeats 1000000 in
theorem c_X5_bestUnderstudy {l : Launch} {E : Ev} {hB b1 b2 b3 b4 b5 b6 b7 b8 b9 b10 : Nat} {c1 : Nat} {f : Nat → Int32} {σ : Sg} (hR : RepC σ f) (hW : Wf σ) {c2 : Nat} {f2 : Nat → Int32} {b11 sd st : Nat} {e1 e2 e3 par fre pri sls drk pla tks : Nat} {t1 t2 t3 : Nat → Int32} {p : Nat} (hp : p < sP σ) : Ct l E yX5_bestUnderstudy cX5_bestUnderstudy 6 (some FieldType.int) 7 117 [.ref hB, .int (nI p)] [(hB, .inr (5, [.ref b1, .ref b2, .ref b3, .ref b4, .ref b5, .ref b6, .ref b7, .ref b8, .ref b9, .ref b10])), (b1, .inr (4, [.ref c1])), (c1, .inl (eI E, 265, .inl f)), (b2, .inr (4, [.ref c2])), (c2, .inl (eI E, 265, .inl f2)), (b9, .inr (3, [.ref b11, .int (nI sd), .int (nI st)])), (b11, .inr (0, [.ref e1, .ref e2, .ref e3, .int (nI par), .int (nI fre), .int (nI pri), .int (nI sls), .int (nI drk), .int (nI pla), .int (nI tks)])), (e1, .inl (eI E, 6, .inl t1)), (e2, .inl (eI E, 6, .inl t2)), (e3, .inl (eI E, 6, .inl t3))] (fun v9 w9 => ∃ (sd2 st2 par2 fre2 pri2 sls2 drk2 pla2 tks2 : Nat) (ta tb tc fx : Nat → Int32), v9 = some (.int (mI ((bu σ p (sA σ)).1))) ∧ w9 = [(hB, .inr (5, [.ref b1, .ref b2, .ref b3, .ref b4, .ref b5, .ref b6, .ref b7, .ref b8, .ref b9, .ref b10])), (b1, .inr (4, [.ref c1])), (c1, .inl (eI E, 265, .inl f)), (b2, .inr (4, [.ref c2])), (c2, .inl (eI E, 265, .inl fx)), (b9, .inr (3, [.ref b11, .int (nI sd2), .int (nI st2)])), (b11, .inr (0, [.ref e1, .ref e2, .ref e3, .int (nI par2), .int (nI fre2), .int (nI pri2), .int (nI sls2), .int (nI drk2), .int (nI pla2), .int (nI tks2)])), (e1, .inl (eI E, 6, .inl ta)), (e2, .inl (eI E, 6, .inl tb)), (e3, .inl (eI E, 6, .inl tc))]) := by
  have hwP := hW.P
  have hwA := hW.A
  have hwS := hW.S
  refine ct_of (by decide +kernel) (Nat.le_of_ble_eq_true rfl) (fun ω C RT => ?_)
  show ω [(hB, .inr (5, [.ref b1, .ref b2, .ref b3, .ref b4, .ref b5, .ref b6, .ref b7, .ref b8, .ref b9, .ref b10])), (b1, .inr (4, [.ref c1])), (c1, .inl (eI E, 265, .inl f)), (b2, .inr (4, [.ref c2])), (c2, .inl (eI E, 265, .inl f2)), (b9, .inr (3, [.ref b11, .int (nI sd), .int (nI st)])), (b11, .inr (0, [.ref e1, .ref e2, .ref e3, .int (nI par), .int (nI fre), .int (nI pri), .int (nI sls), .int (nI drk), .int (nI pla), .int (nI tks)])), (e1, .inl (eI E, 6, .inl t1)), (e2, .inl (eI E, 6, .inl t2)), (e3, .inl (eI E, 6, .inl t3))] [(0, .ref hB), (1, .int (nI p))] [] 0
  refine r_aload_n C (i := 0) 0 dX5_bestUnderstudy_0 rfl rfl ?_
  refine r_iload_n C (i := 1) 1 dX5_bestUnderstudy_1 rfl rfl ?_
  refine r_readV (rest := []) C (c_X5_requirePart (hB := hB) (b1 := b1) (b2 := b2) (b3 := b3) (b4 := b4) (b5 := b5) (b6 := b6) (b7 := b7) (b8 := b8) (b9 := b9) (b10 := b10) (c1 := c1) (f := f) (σ := σ) (p := p) (hR := hR) (hW := hW) (hx := (by omega))) lk_X5_requirePart w_3_183 [0, 1, 2] rfl dX5_bestUnderstudy_2 rfl rfl rfl rfl ⟨by decide, by decide⟩ (Nat.le_of_ble_eq_true rfl) (st' := []) rfl ?_
  refine r_iconst C dX5_bestUnderstudy_5 ki_m1 ?_
  refine r_istore_n C (lv' := [(2, .int (mI 0)), (0, .ref hB), (1, .int (nI p))]) dX5_bestUnderstudy_6 rfl (by decide) rfl ?_
  refine r_iconst C dX5_bestUnderstudy_7 ki_0 ?_
  refine r_istore_n C (lv' := [(3, .int (nI 0)), (2, .int (mI 0)), (0, .ref hB), (1, .int (nI p))]) dX5_bestUnderstudy_8 rfl (by decide) rfl ?_
  refine r_iconst C dX5_bestUnderstudy_9 ki_0 ?_
  refine r_istore C (lv' := [(4, .int (nI 0)), (3, .int (nI 0)), (2, .int (mI 0)), (0, .ref hB), (1, .int (nI p))]) dX5_bestUnderstudy_10 (by decide) rfl ?_
  refine r_iconst C dX5_bestUnderstudy_12 ki_0 ?_
  refine r_istore C (lv' := [(5, .int (nI 0)), (4, .int (nI 0)), (3, .int (nI 0)), (2, .int (mI 0)), (0, .ref hB), (1, .int (nI p))]) dX5_bestUnderstudy_13 (by decide) rfl ?_
  have loop15_1 : ∀ (dd9 : Nat) (a : Nat) (b : Nat) (fw : Nat) (m : Nat) (fx1 : Nat → Int32) (u1 : Nat) (u2 : Nat) (u3 : Nat) (u4 : Nat) (u5 : Nat) (u6 : Nat) (u7 : Nat) (w1 : Nat → Int32) (w2 : Nat → Int32) (w3 : Nat → Int32) (sd1 : Nat) (st1 : Nat), sA σ - a < dd9 → (a ≤ sA σ) → ((b, fw, m) = bu σ p a) → (fw ≤ 20 ∧ m ≤ 20000 ∧ b ≤ a) → ω [(hB, .inr (5, [.ref b1, .ref b2, .ref b3, .ref b4, .ref b5, .ref b6, .ref b7, .ref b8, .ref b9, .ref b10])), (b1, .inr (4, [.ref c1])), (c1, .inl (eI E, 265, .inl f)), (b2, .inr (4, [.ref c2])), (c2, .inl (eI E, 265, .inl fx1)), (b9, .inr (3, [.ref b11, .int (nI sd1), .int (nI st1)])), (b11, .inr (0, [.ref e1, .ref e2, .ref e3, .int (nI u1), .int (nI u2), .int (nI u3), .int (nI u4), .int (nI u5), .int (nI u6), .int (nI u7)])), (e1, .inl (eI E, 6, .inl w1)), (e2, .inl (eI E, 6, .inl w2)), (e3, .inl (eI E, 6, .inl w3))] [(5, .int (nI a)), (4, .int (nI m)), (3, .int (nI fw)), (2, .int (mI b)), (0, .ref hB), (1, .int (nI p))] [] 15 := by
    intro dd9
    induction dd9 with
    | zero => intro a b fw m fx1 u1 u2 u3 u4 u5 u6 u7 w1 w2 w3 sd1 st1 hd; exact absurd hd (Nat.not_lt_zero _)
    | succ dd9 ih2 =>
      intro a b fw m fx1 u1 u2 u3 u4 u5 u6 u7 w1 w2 w3 sd1 st1 hd ha hbu hfm
      refine r_iload C (i := 5) 0 dX5_bestUnderstudy_15 rfl ?_
      refine r_aload_n C (i := 0) 4 dX5_bestUnderstudy_17 rfl rfl ?_
      refine r_get C 0 0 uX5 rfl rfl (by decide) w_1_128 rfl dX5_bestUnderstudy_18 ?_
      refine r_readV (rest := [.int (nI a)]) C (c_X4_actors (h0 := b1) (q1 := c1) (f := f) (σ := σ) (hR := hR) (hW := hW)) lk_X4_actors w_3_40 [1, 2] rfl dX5_bestUnderstudy_21 rfl rfl rfl rfl ⟨by decide, by decide⟩ (Nat.le_of_ble_eq_true rfl) (st' := [.int (nI (sA σ)), .int (nI a)]) rfl ?_
      refine r_icmp_ge C (c9 := sA σ ≤ a) 106 dX5_bestUnderstudy_24 (by decide) (c_leNN (by omega) (by omega)) (fun h24_3 => ?_) (fun h24_3 => ?_)
      · refine r_iload_n C (i := 2) 3 dX5_bestUnderstudy_106 rfl rfl ?_
        exact RT.1 _ _ _ _ _ dX5_bestUnderstudy_107 rfl rfl (⟨_, _, _, _, _, _, _, _, _, _, _, _, _, sv (congrArg mI (by rw [← (by omega : a = sA σ), ← hbu])), rfl⟩) rfl
      · refine r_aload_n C (i := 0) 4 dX5_bestUnderstudy_27 rfl rfl ?_
        refine r_get C 0 1 uX5 rfl rfl (by decide) w_1_129 rfl dX5_bestUnderstudy_28 ?_
        refine r_aload_n C (i := 0) 4 dX5_bestUnderstudy_31 rfl rfl ?_
        refine r_get C 0 0 uX5 rfl rfl (by decide) w_1_128 rfl dX5_bestUnderstudy_32 ?_
        refine r_callV (rest := []) C (c_X4_copyOf (h0 := b2) (q1 := c2) (h2 := b1) (q3 := c1) (f := fx1) (g := f) (σ := σ) (hR := hR) (hW := hW)) lk_X4_copyOf w_4_191 [3, 4, 1, 2] rfl dX5_bestUnderstudy_35 rfl rfl rfl rfl ⟨by decide, by decide⟩ (Nat.le_of_ble_eq_true rfl) ?_
        rintro _ _ ⟨f_4, rfl, rfl, hR_5⟩
        show ω [(hB, .inr (5, [.ref b1, .ref b2, .ref b3, .ref b4, .ref b5, .ref b6, .ref b7, .ref b8, .ref b9, .ref b10])), (b1, .inr (4, [.ref c1])), (c1, .inl (eI E, 265, .inl f)), (b2, .inr (4, [.ref c2])), (c2, .inl (eI E, 265, .inl f_4)), (b9, .inr (3, [.ref b11, .int (nI sd1), .int (nI st1)])), (b11, .inr (0, [.ref e1, .ref e2, .ref e3, .int (nI u1), .int (nI u2), .int (nI u3), .int (nI u4), .int (nI u5), .int (nI u6), .int (nI u7)])), (e1, .inl (eI E, 6, .inl w1)), (e2, .inl (eI E, 6, .inl w2)), (e3, .inl (eI E, 6, .inl w3))] [(5, .int (nI a)), (4, .int (nI m)), (3, .int (nI fw)), (2, .int (mI b)), (0, .ref hB), (1, .int (nI p))] [] 38
        refine r_aload_n C (i := 0) 4 dX5_bestUnderstudy_38 rfl rfl ?_
        refine r_get C 0 1 uX5 rfl rfl (by decide) w_1_129 rfl dX5_bestUnderstudy_39 ?_
        refine r_iload_n C (i := 1) 5 dX5_bestUnderstudy_42 rfl rfl ?_
        refine r_iload C (i := 5) 0 dX5_bestUnderstudy_43 rfl ?_
        refine r_callV (rest := []) C (c_X4_addUnderstudy (h0 := b2) (q1 := c2) (f := f_4) (σ := σ) (p := p) (a := a) (hR := hR_5) (hW := hW) (hp := (by omega)) (ha := (by omega))) lk_X4_addUnderstudy w_3_0 [3, 4] rfl dX5_bestUnderstudy_45 rfl rfl rfl rfl ⟨by decide, by decide⟩ (Nat.le_of_ble_eq_true rfl) ?_
        rintro _ _ ⟨f_6, rfl, rfl, hR_7⟩
        have hW_8 : Wf (tStudy σ p a) := tStudy_wf hW
        show ω [(hB, .inr (5, [.ref b1, .ref b2, .ref b3, .ref b4, .ref b5, .ref b6, .ref b7, .ref b8, .ref b9, .ref b10])), (b1, .inr (4, [.ref c1])), (c1, .inl (eI E, 265, .inl f)), (b2, .inr (4, [.ref c2])), (c2, .inl (eI E, 265, .inl f_6)), (b9, .inr (3, [.ref b11, .int (nI sd1), .int (nI st1)])), (b11, .inr (0, [.ref e1, .ref e2, .ref e3, .int (nI u1), .int (nI u2), .int (nI u3), .int (nI u4), .int (nI u5), .int (nI u6), .int (nI u7)])), (e1, .inl (eI E, 6, .inl w1)), (e2, .inl (eI E, 6, .inl w2)), (e3, .inl (eI E, 6, .inl w3))] [(5, .int (nI a)), (4, .int (nI m)), (3, .int (nI fw)), (2, .int (mI b)), (0, .ref hB), (1, .int (nI p))] [.int (bP (p < sP σ ∧ a < sA σ ∧ sC σ p < 4 ∧ rk σ p a = 0))] 48
        refine r_if_eq C (y := 0) (c9 := ¬ (p < sP σ ∧ a < sA σ ∧ sC σ p < 4 ∧ rk σ p a = 0)) 100 dX5_bestUnderstudy_48 (by decide) z_eqB (fun h48_9 => ?_) (fun h48_9 => ?_)
        · refine r_iinc C (lv' := [(5, .int (nI (a + 1))), (4, .int (nI m)), (3, .int (nI fw)), (2, .int (mI b)), (0, .ref hB), (1, .int (nI p))]) (v := nI (a + 1)) 0 dX5_bestUnderstudy_100 rfl (v_inc _) (by decide) rfl ?_
          refine r_goto C 15 dX5_bestUnderstudy_103 (by decide) ?_
          exact ih2 (a + 1) b fw m f_6 u1 u2 u3 u4 u5 u6 u7 w1 w2 w3 sd1 st1 (by omega) (by omega) (bu_n hbu (fun z => h48_9 z.1)) (⟨by omega, by omega, by omega⟩)
        · replace h48_9 : p < sP σ ∧ a < sA σ ∧ sC σ p < 4 ∧ rk σ p a = 0 := Decidable.not_not.mp h48_9
          have hrc10 : RepC (oStudy σ p a) f_6 := (show tStudy σ p a = oStudy σ p a from if_pos h48_9) ▸ hR_7
          have hwc11 : Wf (oStudy σ p a) := oStudy_wf hW h48_9.2.1 h48_9.2.2.1
          have hdl := dkS_le (oStudy σ p a) 20
          have htl := tkS_le (oStudy_wf hW h48_9.2.1 h48_9.2.2.1) (Nat.le_refl 20)
          refine r_aload_n C (i := 0) 4 dX5_bestUnderstudy_51 rfl rfl ?_
          refine r_get C 0 8 uX5 rfl rfl (by decide) w_1_136 rfl dX5_bestUnderstudy_52 ?_
          refine r_aload_n C (i := 0) 4 dX5_bestUnderstudy_55 rfl rfl ?_
          refine r_get C 0 1 uX5 rfl rfl (by decide) w_1_129 rfl dX5_bestUnderstudy_56 ?_
          refine r_callV (rest := []) C (c_X3_tally (hZ := b9) (sd := sd1) (st := st1) (hE := b11) (e1 := e1) (e2 := e2) (e3 := e3) (par := u1) (fre := u2) (pri := u3) (sls := u4) (drk := u5) (pla := u6) (tks := u7) (t1 := w1) (t2 := w2) (t3 := w3) (h0 := b2) (q1 := c2) (f := f_6) (σ := (oStudy σ p a)) (hR := hrc10) (hW := hwc11)) lk_X3_tally w_3_48 [5, 6, 7, 8, 9, 3, 4] rfl dX5_bestUnderstudy_59 rfl rfl rfl rfl ⟨by decide, by decide⟩ (Nat.le_of_ble_eq_true rfl) ?_
          rintro _ _ ⟨par_12, fre_13, pri_14, sls_15, drk_16, pla_17, tks_18, ta_19, tb_20, tc_21, rfl, rfl⟩
          show ω [(hB, .inr (5, [.ref b1, .ref b2, .ref b3, .ref b4, .ref b5, .ref b6, .ref b7, .ref b8, .ref b9, .ref b10])), (b1, .inr (4, [.ref c1])), (c1, .inl (eI E, 265, .inl f)), (b2, .inr (4, [.ref c2])), (c2, .inl (eI E, 265, .inl f_6)), (b9, .inr (3, [.ref b11, .int (nI (dkS (oStudy σ p a) 20)), .int (nI (tkS (oStudy σ p a) 20))])), (b11, .inr (0, [.ref e1, .ref e2, .ref e3, .int (nI par_12), .int (nI fre_13), .int (nI pri_14), .int (nI sls_15), .int (nI drk_16), .int (nI pla_17), .int (nI tks_18)])), (e1, .inl (eI E, 6, .inl ta_19)), (e2, .inl (eI E, 6, .inl tb_20)), (e3, .inl (eI E, 6, .inl tc_21))] [(5, .int (nI a)), (4, .int (nI m)), (3, .int (nI fw)), (2, .int (mI b)), (0, .ref hB), (1, .int (nI p))] [] 62
          refine r_iload_n C (i := 2) 3 dX5_bestUnderstudy_62 rfl rfl ?_
          refine r_iconst C dX5_bestUnderstudy_63 ki_m1 ?_
          refine r_icmp_eq C (c9 := b = 0) 80 dX5_bestUnderstudy_64 (by decide) (c_eqMM (by omega) (by omega)) (fun h64_22 => ?_) (fun h64_22 => ?_)
          · refine r_iload C (i := 5) 0 dX5_bestUnderstudy_80 rfl ?_
            refine r_istore_n C (lv' := [(2, .int (nI a)), (5, .int (nI a)), (4, .int (nI m)), (3, .int (nI fw)), (0, .ref hB), (1, .int (nI p))]) dX5_bestUnderstudy_82 rfl (by decide) rfl ?_
            refine r_aload_n C (i := 0) 4 dX5_bestUnderstudy_83 rfl rfl ?_
            refine r_get C 0 8 uX5 rfl rfl (by decide) w_1_136 rfl dX5_bestUnderstudy_84 ?_
            refine r_readV (rest := []) C (c_X3_dark (hZ := b9) (hE := b11) (sd := dkS (oStudy σ p a) 20) (st := tkS (oStudy σ p a) 20) ) lk_X3_dark w_3_133 [5] rfl dX5_bestUnderstudy_87 rfl rfl rfl rfl ⟨by decide, by decide⟩ (Nat.le_of_ble_eq_true rfl) (st' := [.int (nI (dkS (oStudy σ p a) 20))]) rfl ?_
            refine r_istore_n C (lv' := [(3, .int (nI (dkS (oStudy σ p a) 20))), (2, .int (nI a)), (5, .int (nI a)), (4, .int (nI m)), (0, .ref hB), (1, .int (nI p))]) dX5_bestUnderstudy_90 rfl (by decide) rfl ?_
            refine r_aload_n C (i := 0) 4 dX5_bestUnderstudy_91 rfl rfl ?_
            refine r_get C 0 8 uX5 rfl rfl (by decide) w_1_136 rfl dX5_bestUnderstudy_92 ?_
            refine r_readV (rest := []) C (c_X3_takings (hZ := b9) (hE := b11) (sd := dkS (oStudy σ p a) 20) (st := tkS (oStudy σ p a) 20) ) lk_X3_takings w_3_137 [5] rfl dX5_bestUnderstudy_95 rfl rfl rfl rfl ⟨by decide, by decide⟩ (Nat.le_of_ble_eq_true rfl) (st' := [.int (nI (tkS (oStudy σ p a) 20))]) rfl ?_
            refine r_istore C (lv' := [(4, .int (nI (tkS (oStudy σ p a) 20))), (3, .int (nI (dkS (oStudy σ p a) 20))), (2, .int (nI a)), (5, .int (nI a)), (0, .ref hB), (1, .int (nI p))]) dX5_bestUnderstudy_98 (by decide) rfl ?_
            refine r_iinc C (lv' := [(5, .int (nI (a + 1))), (4, .int (nI (tkS (oStudy σ p a) 20))), (3, .int (nI (dkS (oStudy σ p a) 20))), (2, .int (nI a)), (0, .ref hB), (1, .int (nI p))]) (v := nI (a + 1)) 3 dX5_bestUnderstudy_100 rfl (v_inc _) (by decide) rfl ?_
            refine r_goto C 15 dX5_bestUnderstudy_103 (by decide) ?_
            refine r_lo (lv' := [(5, .int (nI (a + 1))), (4, .int (nI (tkS (oStudy σ p a) 20))), (3, .int (nI (dkS (oStudy σ p a) 20))), (2, .int (mI (a + 1))), (0, .ref hB), (1, .int (nI p))]) (by rw [mI_s]) ?_
            exact ih2 (a + 1) (a + 1) (dkS (oStudy σ p a) 20) (tkS (oStudy σ p a) 20) f_6 par_12 fre_13 pri_14 sls_15 drk_16 pla_17 tks_18 ta_19 tb_20 tc_21 (dkS (oStudy σ p a) 20) (tkS (oStudy σ p a) 20) (by omega) (by omega) (bu_y hbu h48_9 rfl rfl (by omega)) (⟨by omega, by omega, by omega⟩)
          · refine r_aload_n C (i := 0) 4 dX5_bestUnderstudy_67 rfl rfl ?_
            refine r_get C 0 8 uX5 rfl rfl (by decide) w_1_136 rfl dX5_bestUnderstudy_68 ?_
            refine r_iload_n C (i := 3) 2 dX5_bestUnderstudy_71 rfl rfl ?_
            refine r_iload C (i := 4) 1 dX5_bestUnderstudy_72 rfl ?_
            refine r_readV (rest := []) C (c_X3_isBetter (hZ := b9) (hE := b11) (sd := dkS (oStudy σ p a) 20) (st := tkS (oStudy σ p a) 20) (x := fw) (y := m) (h1 := (by omega)) (h2 := (by omega)) (h3 := (by omega)) (h4 := (by omega))) lk_X3_isBetter w_4_206 [5] rfl dX5_bestUnderstudy_74 rfl rfl rfl rfl ⟨by decide, by decide⟩ (Nat.le_of_ble_eq_true rfl) (st' := [.int (bP ((dkS (oStudy σ p a) 20) < fw ∨ ((dkS (oStudy σ p a) 20) = fw ∧ m < (tkS (oStudy σ p a) 20))))]) rfl ?_
            refine r_if_eq C (y := 0) (c9 := ¬ ((dkS (oStudy σ p a) 20) < fw ∨ ((dkS (oStudy σ p a) 20) = fw ∧ m < (tkS (oStudy σ p a) 20)))) 100 dX5_bestUnderstudy_77 (by decide) z_eqB (fun h77_23 => ?_) (fun h77_23 => ?_)
            · refine r_iinc C (lv' := [(5, .int (nI (a + 1))), (4, .int (nI m)), (3, .int (nI fw)), (2, .int (mI b)), (0, .ref hB), (1, .int (nI p))]) (v := nI (a + 1)) 0 dX5_bestUnderstudy_100 rfl (v_inc _) (by decide) rfl ?_
              refine r_goto C 15 dX5_bestUnderstudy_103 (by decide) ?_
              exact ih2 (a + 1) b fw m f_6 par_12 fre_13 pri_14 sls_15 drk_16 pla_17 tks_18 ta_19 tb_20 tc_21 (dkS (oStudy σ p a) 20) (tkS (oStudy σ p a) 20) (by omega) (by omega) (bu_n hbu (fun z => by have := z.2; omega)) (⟨by omega, by omega, by omega⟩)
            · replace h77_23 : (dkS (oStudy σ p a) 20) < fw ∨ ((dkS (oStudy σ p a) 20) = fw ∧ m < (tkS (oStudy σ p a) 20)) := Decidable.not_not.mp h77_23
              refine r_iload C (i := 5) 0 dX5_bestUnderstudy_80 rfl ?_
              refine r_istore_n C (lv' := [(2, .int (nI a)), (5, .int (nI a)), (4, .int (nI m)), (3, .int (nI fw)), (0, .ref hB), (1, .int (nI p))]) dX5_bestUnderstudy_82 rfl (by decide) rfl ?_
              refine r_aload_n C (i := 0) 4 dX5_bestUnderstudy_83 rfl rfl ?_
              refine r_get C 0 8 uX5 rfl rfl (by decide) w_1_136 rfl dX5_bestUnderstudy_84 ?_
              refine r_readV (rest := []) C (c_X3_dark (hZ := b9) (hE := b11) (sd := dkS (oStudy σ p a) 20) (st := tkS (oStudy σ p a) 20) ) lk_X3_dark w_3_133 [5] rfl dX5_bestUnderstudy_87 rfl rfl rfl rfl ⟨by decide, by decide⟩ (Nat.le_of_ble_eq_true rfl) (st' := [.int (nI (dkS (oStudy σ p a) 20))]) rfl ?_
              refine r_istore_n C (lv' := [(3, .int (nI (dkS (oStudy σ p a) 20))), (2, .int (nI a)), (5, .int (nI a)), (4, .int (nI m)), (0, .ref hB), (1, .int (nI p))]) dX5_bestUnderstudy_90 rfl (by decide) rfl ?_
              refine r_aload_n C (i := 0) 4 dX5_bestUnderstudy_91 rfl rfl ?_
              refine r_get C 0 8 uX5 rfl rfl (by decide) w_1_136 rfl dX5_bestUnderstudy_92 ?_
              refine r_readV (rest := []) C (c_X3_takings (hZ := b9) (hE := b11) (sd := dkS (oStudy σ p a) 20) (st := tkS (oStudy σ p a) 20) ) lk_X3_takings w_3_137 [5] rfl dX5_bestUnderstudy_95 rfl rfl rfl rfl ⟨by decide, by decide⟩ (Nat.le_of_ble_eq_true rfl) (st' := [.int (nI (tkS (oStudy σ p a) 20))]) rfl ?_
              refine r_istore C (lv' := [(4, .int (nI (tkS (oStudy σ p a) 20))), (3, .int (nI (dkS (oStudy σ p a) 20))), (2, .int (nI a)), (5, .int (nI a)), (0, .ref hB), (1, .int (nI p))]) dX5_bestUnderstudy_98 (by decide) rfl ?_
              refine r_iinc C (lv' := [(5, .int (nI (a + 1))), (4, .int (nI (tkS (oStudy σ p a) 20))), (3, .int (nI (dkS (oStudy σ p a) 20))), (2, .int (nI a)), (0, .ref hB), (1, .int (nI p))]) (v := nI (a + 1)) 3 dX5_bestUnderstudy_100 rfl (v_inc _) (by decide) rfl ?_
              refine r_goto C 15 dX5_bestUnderstudy_103 (by decide) ?_
              refine r_lo (lv' := [(5, .int (nI (a + 1))), (4, .int (nI (tkS (oStudy σ p a) 20))), (3, .int (nI (dkS (oStudy σ p a) 20))), (2, .int (mI (a + 1))), (0, .ref hB), (1, .int (nI p))]) (by rw [mI_s]) ?_
              exact ih2 (a + 1) (a + 1) (dkS (oStudy σ p a) 20) (tkS (oStudy σ p a) 20) f_6 par_12 fre_13 pri_14 sls_15 drk_16 pla_17 tks_18 ta_19 tb_20 tc_21 (dkS (oStudy σ p a) 20) (tkS (oStudy σ p a) 20) (by omega) (by omega) (bu_y hbu h48_9 rfl rfl (by omega)) (⟨by omega, by omega, by omega⟩)
  exact loop15_1 _ 0 0 0 0 f2 par fre pri sls drk pla tks t1 t2 t3 sd st (Nat.lt_succ_self _) (by omega) rfl (⟨by omega, by omega, by omega⟩)
set_option maxRecDepth 100000 in
set_option maxHeartbeats 1000000 in
theorem c_X5_needed {l : Launch} {E : Ev} {hB b1 b2 b3 b4 b5 b6 b7 b8 b9 b10 : Nat} {c1 : Nat} {f : Nat → Int32} {σ : Sg} (hR : RepC σ f) (hW : Wf σ) {c2 : Nat} {f2 : Nat → Int32} {b11 sd st : Nat} {e1 e2 e3 par fre pri sls drk pla tks : Nat} {t1 t2 t3 : Nat → Int32} : Ct l E yX5_needed cX5_needed 5 (some FieldType.int) 5 117 [.ref hB] [(hB, .inr (5, [.ref b1, .ref b2, .ref b3, .ref b4, .ref b5, .ref b6, .ref b7, .ref b8, .ref b9, .ref b10])), (b1, .inr (4, [.ref c1])), (c1, .inl (eI E, 265, .inl f)), (b2, .inr (4, [.ref c2])), (c2, .inl (eI E, 265, .inl f2)), (b9, .inr (3, [.ref b11, .int (nI sd), .int (nI st)])), (b11, .inr (0, [.ref e1, .ref e2, .ref e3, .int (nI par), .int (nI fre), .int (nI pri), .int (nI sls), .int (nI drk), .int (nI pla), .int (nI tks)])), (e1, .inl (eI E, 6, .inl t1)), (e2, .inl (eI E, 6, .inl t2)), (e3, .inl (eI E, 6, .inl t3))] (fun v9 w9 => ∃ (sd2 st2 par2 fre2 pri2 sls2 drk2 pla2 tks2 : Nat) (ta tb tc fx : Nat → Int32), v9 = some (.int (mI ((nd σ (sA σ)).1))) ∧ w9 = [(hB, .inr (5, [.ref b1, .ref b2, .ref b3, .ref b4, .ref b5, .ref b6, .ref b7, .ref b8, .ref b9, .ref b10])), (b1, .inr (4, [.ref c1])), (c1, .inl (eI E, 265, .inl f)), (b2, .inr (4, [.ref c2])), (c2, .inl (eI E, 265, .inl fx)), (b9, .inr (3, [.ref b11, .int (nI sd2), .int (nI st2)])), (b11, .inr (0, [.ref e1, .ref e2, .ref e3, .int (nI par2), .int (nI fre2), .int (nI pri2), .int (nI sls2), .int (nI drk2), .int (nI pla2), .int (nI tks2)])), (e1, .inl (eI E, 6, .inl ta)), (e2, .inl (eI E, 6, .inl tb)), (e3, .inl (eI E, 6, .inl tc))]) := by
  have hwP := hW.P
  have hwA := hW.A
  have hwS := hW.S
  refine ct_of (by decide +kernel) (Nat.le_of_ble_eq_true rfl) (fun ω C RT => ?_)
  show ω [(hB, .inr (5, [.ref b1, .ref b2, .ref b3, .ref b4, .ref b5, .ref b6, .ref b7, .ref b8, .ref b9, .ref b10])), (b1, .inr (4, [.ref c1])), (c1, .inl (eI E, 265, .inl f)), (b2, .inr (4, [.ref c2])), (c2, .inl (eI E, 265, .inl f2)), (b9, .inr (3, [.ref b11, .int (nI sd), .int (nI st)])), (b11, .inr (0, [.ref e1, .ref e2, .ref e3, .int (nI par), .int (nI fre), .int (nI pri), .int (nI sls), .int (nI drk), .int (nI pla), .int (nI tks)])), (e1, .inl (eI E, 6, .inl t1)), (e2, .inl (eI E, 6, .inl t2)), (e3, .inl (eI E, 6, .inl t3))] [(0, .ref hB)] [] 0
  refine r_iconst C dX5_needed_0 ki_m1 ?_
  refine r_istore_n C (lv' := [(1, .int (mI 0)), (0, .ref hB)]) dX5_needed_1 rfl (by decide) rfl ?_
  refine r_iconst C dX5_needed_2 ki_0 ?_
  refine r_istore_n C (lv' := [(2, .int (nI 0)), (1, .int (mI 0)), (0, .ref hB)]) dX5_needed_3 rfl (by decide) rfl ?_
  refine r_iconst C dX5_needed_4 ki_0 ?_
  refine r_istore_n C (lv' := [(3, .int (nI 0)), (2, .int (nI 0)), (1, .int (mI 0)), (0, .ref hB)]) dX5_needed_5 rfl (by decide) rfl ?_
  have loop6_1 : ∀ (dd9 : Nat) (a : Nat) (b : Nat) (m : Nat) (fx1 : Nat → Int32) (u1 : Nat) (u2 : Nat) (u3 : Nat) (u4 : Nat) (u5 : Nat) (u6 : Nat) (u7 : Nat) (w1 : Nat → Int32) (w2 : Nat → Int32) (w3 : Nat → Int32) (sd1 : Nat) (st1 : Nat), sA σ - a < dd9 → (a ≤ sA σ) → ((b, m) = nd σ a) → (b ≤ a ∧ m ≤ 20) → ω [(hB, .inr (5, [.ref b1, .ref b2, .ref b3, .ref b4, .ref b5, .ref b6, .ref b7, .ref b8, .ref b9, .ref b10])), (b1, .inr (4, [.ref c1])), (c1, .inl (eI E, 265, .inl f)), (b2, .inr (4, [.ref c2])), (c2, .inl (eI E, 265, .inl fx1)), (b9, .inr (3, [.ref b11, .int (nI sd1), .int (nI st1)])), (b11, .inr (0, [.ref e1, .ref e2, .ref e3, .int (nI u1), .int (nI u2), .int (nI u3), .int (nI u4), .int (nI u5), .int (nI u6), .int (nI u7)])), (e1, .inl (eI E, 6, .inl w1)), (e2, .inl (eI E, 6, .inl w2)), (e3, .inl (eI E, 6, .inl w3))] [(3, .int (nI a)), (2, .int (nI m)), (1, .int (mI b)), (0, .ref hB)] [] 6 := by
    intro dd9
    induction dd9 with
    | zero => intro a b m fx1 u1 u2 u3 u4 u5 u6 u7 w1 w2 w3 sd1 st1 hd; exact absurd hd (Nat.not_lt_zero _)
    | succ dd9 ih2 =>
      intro a b m fx1 u1 u2 u3 u4 u5 u6 u7 w1 w2 w3 sd1 st1 hd ha hnd hbm
      refine r_iload_n C (i := 3) 0 dX5_needed_6 rfl rfl ?_
      refine r_aload_n C (i := 0) 3 dX5_needed_7 rfl rfl ?_
      refine r_get C 0 0 uX5 rfl rfl (by decide) w_1_128 rfl dX5_needed_8 ?_
      refine r_readV (rest := [.int (nI a)]) C (c_X4_actors (h0 := b1) (q1 := c1) (f := f) (σ := σ) (hR := hR) (hW := hW)) lk_X4_actors w_3_40 [1, 2] rfl dX5_needed_11 rfl rfl rfl rfl ⟨by decide, by decide⟩ (Nat.le_of_ble_eq_true rfl) (st' := [.int (nI (sA σ)), .int (nI a)]) rfl ?_
      refine r_icmp_ge C (c9 := sA σ ≤ a) 99 dX5_needed_14 (by decide) (c_leNN (by omega) (by omega)) (fun h14_3 => ?_) (fun h14_3 => ?_)
      · refine r_iload_n C (i := 1) 2 dX5_needed_99 rfl rfl ?_
        exact RT.1 _ _ _ _ _ dX5_needed_100 rfl rfl (⟨_, _, _, _, _, _, _, _, _, _, _, _, _, sv (congrArg mI (by rw [← (by omega : a = sA σ), ← hnd])), rfl⟩) rfl
      · refine r_aload_n C (i := 0) 3 dX5_needed_17 rfl rfl ?_
        refine r_get C 0 1 uX5 rfl rfl (by decide) w_1_129 rfl dX5_needed_18 ?_
        refine r_aload_n C (i := 0) 3 dX5_needed_21 rfl rfl ?_
        refine r_get C 0 0 uX5 rfl rfl (by decide) w_1_128 rfl dX5_needed_22 ?_
        refine r_callV (rest := []) C (c_X4_copyOf (h0 := b2) (q1 := c2) (h2 := b1) (q3 := c1) (f := fx1) (g := f) (σ := σ) (hR := hR) (hW := hW)) lk_X4_copyOf w_4_191 [3, 4, 1, 2] rfl dX5_needed_25 rfl rfl rfl rfl ⟨by decide, by decide⟩ (Nat.le_of_ble_eq_true rfl) ?_
        rintro _ _ ⟨f_4, rfl, rfl, hR_5⟩
        show ω [(hB, .inr (5, [.ref b1, .ref b2, .ref b3, .ref b4, .ref b5, .ref b6, .ref b7, .ref b8, .ref b9, .ref b10])), (b1, .inr (4, [.ref c1])), (c1, .inl (eI E, 265, .inl f)), (b2, .inr (4, [.ref c2])), (c2, .inl (eI E, 265, .inl f_4)), (b9, .inr (3, [.ref b11, .int (nI sd1), .int (nI st1)])), (b11, .inr (0, [.ref e1, .ref e2, .ref e3, .int (nI u1), .int (nI u2), .int (nI u3), .int (nI u4), .int (nI u5), .int (nI u6), .int (nI u7)])), (e1, .inl (eI E, 6, .inl w1)), (e2, .inl (eI E, 6, .inl w2)), (e3, .inl (eI E, 6, .inl w3))] [(3, .int (nI a)), (2, .int (nI m)), (1, .int (mI b)), (0, .ref hB)] [] 28
        have hrc6 : RepC (oAll σ a 0) f_4 := (oAll_0 σ a).symm ▸ hR_5
        refine r_iconst C dX5_needed_28 ki_0 ?_
        refine r_istore C (lv' := [(4, .int (nI 0)), (3, .int (nI a)), (2, .int (nI m)), (1, .int (mI b)), (0, .ref hB)]) dX5_needed_29 (by decide) rfl ?_
        have loop31_7 : ∀ (dd9 : Nat) (n : Nat) (fx2 : Nat → Int32), 20 - n < dd9 → (n ≤ 20) → (RepC (oAll σ a n) fx2) → (Wf (oAll σ a n)) → ω [(hB, .inr (5, [.ref b1, .ref b2, .ref b3, .ref b4, .ref b5, .ref b6, .ref b7, .ref b8, .ref b9, .ref b10])), (b1, .inr (4, [.ref c1])), (c1, .inl (eI E, 265, .inl f)), (b2, .inr (4, [.ref c2])), (c2, .inl (eI E, 265, .inl fx2)), (b9, .inr (3, [.ref b11, .int (nI sd1), .int (nI st1)])), (b11, .inr (0, [.ref e1, .ref e2, .ref e3, .int (nI u1), .int (nI u2), .int (nI u3), .int (nI u4), .int (nI u5), .int (nI u6), .int (nI u7)])), (e1, .inl (eI E, 6, .inl w1)), (e2, .inl (eI E, 6, .inl w2)), (e3, .inl (eI E, 6, .inl w3))] [(4, .int (nI n)), (3, .int (nI a)), (2, .int (nI m)), (1, .int (mI b)), (0, .ref hB)] [] 31 := by
          intro dd9
          induction dd9 with
          | zero => intro n fx2 hd; exact absurd hd (Nat.not_lt_zero _)
          | succ dd9 ih8 =>
            intro n fx2 hd hn hrx hwx
            refine r_iload C (i := 4) 0 dX5_needed_31 rfl ?_
            refine r_bipush C dX5_needed_33 kb_20 ?_
            refine r_icmp_ge C (c9 := 20 ≤ n) 56 dX5_needed_35 (by decide) (c_leNN (by omega) (by omega)) (fun h35_9 => ?_) (fun h35_9 => ?_)
            · have hrc10 : RepC (oAll σ a 20) fx2 := (by omega : n = 20) ▸ hrx
              have hwc11 : Wf (oAll σ a 20) := oAll_wf hW (by omega)
              have hdl := dkS_le (oAll σ a 20) 20
              refine r_aload_n C (i := 0) 4 dX5_needed_56 rfl rfl ?_
              refine r_get C 0 8 uX5 rfl rfl (by decide) w_1_136 rfl dX5_needed_57 ?_
              refine r_aload_n C (i := 0) 4 dX5_needed_60 rfl rfl ?_
              refine r_get C 0 1 uX5 rfl rfl (by decide) w_1_129 rfl dX5_needed_61 ?_
              refine r_callV (rest := []) C (c_X3_tally (hZ := b9) (sd := sd1) (st := st1) (hE := b11) (e1 := e1) (e2 := e2) (e3 := e3) (par := u1) (fre := u2) (pri := u3) (sls := u4) (drk := u5) (pla := u6) (tks := u7) (t1 := w1) (t2 := w2) (t3 := w3) (h0 := b2) (q1 := c2) (f := fx2) (σ := (oAll σ a 20)) (hR := hrc10) (hW := hwc11)) lk_X3_tally w_3_48 [5, 6, 7, 8, 9, 3, 4] rfl dX5_needed_64 rfl rfl rfl rfl ⟨by decide, by decide⟩ (Nat.le_of_ble_eq_true rfl) ?_
              rintro _ _ ⟨par_12, fre_13, pri_14, sls_15, drk_16, pla_17, tks_18, ta_19, tb_20, tc_21, rfl, rfl⟩
              show ω [(hB, .inr (5, [.ref b1, .ref b2, .ref b3, .ref b4, .ref b5, .ref b6, .ref b7, .ref b8, .ref b9, .ref b10])), (b1, .inr (4, [.ref c1])), (c1, .inl (eI E, 265, .inl f)), (b2, .inr (4, [.ref c2])), (c2, .inl (eI E, 265, .inl fx2)), (b9, .inr (3, [.ref b11, .int (nI (dkS (oAll σ a 20) 20)), .int (nI (tkS (oAll σ a 20) 20))])), (b11, .inr (0, [.ref e1, .ref e2, .ref e3, .int (nI par_12), .int (nI fre_13), .int (nI pri_14), .int (nI sls_15), .int (nI drk_16), .int (nI pla_17), .int (nI tks_18)])), (e1, .inl (eI E, 6, .inl ta_19)), (e2, .inl (eI E, 6, .inl tb_20)), (e3, .inl (eI E, 6, .inl tc_21))] [(4, .int (nI n)), (3, .int (nI a)), (2, .int (nI m)), (1, .int (mI b)), (0, .ref hB)] [] 67
              refine r_iload_n C (i := 1) 3 dX5_needed_67 rfl rfl ?_
              refine r_iconst C dX5_needed_68 ki_m1 ?_
              refine r_icmp_eq C (c9 := b = 0) 83 dX5_needed_69 (by decide) (c_eqMM (by omega) (by omega)) (fun h69_22 => ?_) (fun h69_22 => ?_)
              · refine r_iload_n C (i := 3) 1 dX5_needed_83 rfl rfl ?_
                refine r_istore_n C (lv' := [(1, .int (nI a)), (4, .int (nI n)), (3, .int (nI a)), (2, .int (nI m)), (0, .ref hB)]) dX5_needed_84 rfl (by decide) rfl ?_
                refine r_aload_n C (i := 0) 4 dX5_needed_85 rfl rfl ?_
                refine r_get C 0 8 uX5 rfl rfl (by decide) w_1_136 rfl dX5_needed_86 ?_
                refine r_readV (rest := []) C (c_X3_dark (hZ := b9) (hE := b11) (sd := dkS (oAll σ a 20) 20) (st := tkS (oAll σ a 20) 20) ) lk_X3_dark w_3_133 [5] rfl dX5_needed_89 rfl rfl rfl rfl ⟨by decide, by decide⟩ (Nat.le_of_ble_eq_true rfl) (st' := [.int (nI (dkS (oAll σ a 20) 20))]) rfl ?_
                refine r_istore_n C (lv' := [(2, .int (nI (dkS (oAll σ a 20) 20))), (1, .int (nI a)), (4, .int (nI n)), (3, .int (nI a)), (0, .ref hB)]) dX5_needed_92 rfl (by decide) rfl ?_
                refine r_iinc C (lv' := [(3, .int (nI (a + 1))), (2, .int (nI (dkS (oAll σ a 20) 20))), (1, .int (nI a)), (4, .int (nI n)), (0, .ref hB)]) (v := nI (a + 1)) 3 dX5_needed_93 rfl (v_inc _) (by decide) rfl ?_
                refine r_goto C 6 dX5_needed_96 (by decide) ?_
                refine r_lo (lv' := [(3, .int (nI (a + 1))), (2, .int (nI (dkS (oAll σ a 20) 20))), (1, .int (mI (a + 1))), (4, .int (nI n)), (0, .ref hB)]) (by rw [mI_s]) ?_
                refine r_lv (lv' := [(3, .int (nI (a + 1))), (2, .int (nI (dkS (oAll σ a 20) 20))), (1, .int (mI (a + 1))), (0, .ref hB)]) C [0, 1, 2, 4] rfl ?_
                exact ih2 (a + 1) (a + 1) (dkS (oAll σ a 20) 20) fx2 par_12 fre_13 pri_14 sls_15 drk_16 pla_17 tks_18 ta_19 tb_20 tc_21 (dkS (oAll σ a 20) 20) (tkS (oAll σ a 20) 20) (by omega) (by omega) (nd_y hnd (by omega)) (⟨by omega, by omega⟩)
              · refine r_aload_n C (i := 0) 4 dX5_needed_72 rfl rfl ?_
                refine r_get C 0 8 uX5 rfl rfl (by decide) w_1_136 rfl dX5_needed_73 ?_
                refine r_readV (rest := []) C (c_X3_dark (hZ := b9) (hE := b11) (sd := dkS (oAll σ a 20) 20) (st := tkS (oAll σ a 20) 20) ) lk_X3_dark w_3_133 [5] rfl dX5_needed_76 rfl rfl rfl rfl ⟨by decide, by decide⟩ (Nat.le_of_ble_eq_true rfl) (st' := [.int (nI (dkS (oAll σ a 20) 20))]) rfl ?_
                refine r_iload_n C (i := 2) 2 dX5_needed_79 rfl rfl ?_
                refine r_icmp_le C (c9 := (dkS (oAll σ a 20) 20) ≤ m) 93 dX5_needed_80 (by decide) (c_leNN (by omega) (by omega)) (fun h80_23 => ?_) (fun h80_23 => ?_)
                · refine r_iinc C (lv' := [(3, .int (nI (a + 1))), (4, .int (nI n)), (2, .int (nI m)), (1, .int (mI b)), (0, .ref hB)]) (v := nI (a + 1)) 1 dX5_needed_93 rfl (v_inc _) (by decide) rfl ?_
                  refine r_goto C 6 dX5_needed_96 (by decide) ?_
                  refine r_lv (lv' := [(3, .int (nI (a + 1))), (2, .int (nI m)), (1, .int (mI b)), (0, .ref hB)]) C [0, 2, 3, 4] rfl ?_
                  exact ih2 (a + 1) b m fx2 par_12 fre_13 pri_14 sls_15 drk_16 pla_17 tks_18 ta_19 tb_20 tc_21 (dkS (oAll σ a 20) 20) (tkS (oAll σ a 20) 20) (by omega) (by omega) (nd_n hnd (by omega)) (⟨by omega, by omega⟩)
                · refine r_iload_n C (i := 3) 1 dX5_needed_83 rfl rfl ?_
                  refine r_istore_n C (lv' := [(1, .int (nI a)), (4, .int (nI n)), (3, .int (nI a)), (2, .int (nI m)), (0, .ref hB)]) dX5_needed_84 rfl (by decide) rfl ?_
                  refine r_aload_n C (i := 0) 4 dX5_needed_85 rfl rfl ?_
                  refine r_get C 0 8 uX5 rfl rfl (by decide) w_1_136 rfl dX5_needed_86 ?_
                  refine r_readV (rest := []) C (c_X3_dark (hZ := b9) (hE := b11) (sd := dkS (oAll σ a 20) 20) (st := tkS (oAll σ a 20) 20) ) lk_X3_dark w_3_133 [5] rfl dX5_needed_89 rfl rfl rfl rfl ⟨by decide, by decide⟩ (Nat.le_of_ble_eq_true rfl) (st' := [.int (nI (dkS (oAll σ a 20) 20))]) rfl ?_
                  refine r_istore_n C (lv' := [(2, .int (nI (dkS (oAll σ a 20) 20))), (1, .int (nI a)), (4, .int (nI n)), (3, .int (nI a)), (0, .ref hB)]) dX5_needed_92 rfl (by decide) rfl ?_
                  refine r_iinc C (lv' := [(3, .int (nI (a + 1))), (2, .int (nI (dkS (oAll σ a 20) 20))), (1, .int (nI a)), (4, .int (nI n)), (0, .ref hB)]) (v := nI (a + 1)) 3 dX5_needed_93 rfl (v_inc _) (by decide) rfl ?_
                  refine r_goto C 6 dX5_needed_96 (by decide) ?_
                  refine r_lo (lv' := [(3, .int (nI (a + 1))), (2, .int (nI (dkS (oAll σ a 20) 20))), (1, .int (mI (a + 1))), (4, .int (nI n)), (0, .ref hB)]) (by rw [mI_s]) ?_
                  refine r_lv (lv' := [(3, .int (nI (a + 1))), (2, .int (nI (dkS (oAll σ a 20) 20))), (1, .int (mI (a + 1))), (0, .ref hB)]) C [0, 1, 2, 4] rfl ?_
                  exact ih2 (a + 1) (a + 1) (dkS (oAll σ a 20) 20) fx2 par_12 fre_13 pri_14 sls_15 drk_16 pla_17 tks_18 ta_19 tb_20 tc_21 (dkS (oAll σ a 20) 20) (tkS (oAll σ a 20) 20) (by omega) (by omega) (nd_y hnd (by omega)) (⟨by omega, by omega⟩)
            · refine r_aload_n C (i := 0) 4 dX5_needed_38 rfl rfl ?_
              refine r_get C 0 1 uX5 rfl rfl (by decide) w_1_129 rfl dX5_needed_39 ?_
              refine r_iload_n C (i := 3) 1 dX5_needed_42 rfl rfl ?_
              refine r_iload C (i := 4) 0 dX5_needed_43 rfl ?_
              refine r_iconst C dX5_needed_45 ki_1 ?_
              refine r_callV (rest := []) C (c_X4_changeIllness (h0 := b2) (q1 := c2) (f := fx2) (σ := (oAll σ a n)) (a := a) (n := n) (b := 1) (hR := hrx) (hW := hwx) (ha := (by omega)) (hn := (by omega)) (hb := (by omega))) lk_X4_changeIllness w_2_27 [3, 4] rfl dX5_needed_46 rfl rfl rfl rfl ⟨by decide, by decide⟩ (Nat.le_of_ble_eq_true rfl) ?_
              rintro _ _ ⟨f_24, rfl, rfl, hR_25⟩
              have hW_26 : Wf (tIll (oAll σ a n) a n 1) := tIll_wf hwx (by omega)
              show ω [(hB, .inr (5, [.ref b1, .ref b2, .ref b3, .ref b4, .ref b5, .ref b6, .ref b7, .ref b8, .ref b9, .ref b10])), (b1, .inr (4, [.ref c1])), (c1, .inl (eI E, 265, .inl f)), (b2, .inr (4, [.ref c2])), (c2, .inl (eI E, 265, .inl f_24)), (b9, .inr (3, [.ref b11, .int (nI sd1), .int (nI st1)])), (b11, .inr (0, [.ref e1, .ref e2, .ref e3, .int (nI u1), .int (nI u2), .int (nI u3), .int (nI u4), .int (nI u5), .int (nI u6), .int (nI u7)])), (e1, .inl (eI E, 6, .inl w1)), (e2, .inl (eI E, 6, .inl w2)), (e3, .inl (eI E, 6, .inl w3))] [(4, .int (nI n)), (3, .int (nI a)), (2, .int (nI m)), (1, .int (mI b)), (0, .ref hB)] [.int (bP (a < sA (oAll σ a n) ∧ n < 20))] 49
              have hrc27 : RepC (oAll σ a (n + 1)) f_24 := (show tIll (oAll σ a n) a n 1 = oAll σ a (n + 1) from (if_pos ⟨(by show a < sA σ; omega), by omega⟩).trans (oAll_s σ a n)) ▸ hR_25
              refine r_pop C dX5_needed_49 rfl ?_
              refine r_iinc C (lv' := [(4, .int (nI (n + 1))), (3, .int (nI a)), (2, .int (nI m)), (1, .int (mI b)), (0, .ref hB)]) (v := nI (n + 1)) 0 dX5_needed_50 rfl (v_inc _) (by decide) rfl ?_
              refine r_goto C 31 dX5_needed_53 (by decide) ?_
              exact ih8 (n + 1) f_24 (by omega) (by omega) hrc27 (oAll_wf hW (by omega))
        exact loop31_7 _ 0 f_4 (Nat.lt_succ_self _) (by omega) hrc6 (oAll_wf hW (by omega))
  exact loop6_1 _ 0 0 0 f2 par fre pri sls drk pla tks t1 t2 t3 sd st (Nat.lt_succ_self _) (by omega) rfl (⟨by omega, by omega⟩)
