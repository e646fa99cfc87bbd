theorem pT_ply {σ : Sg} {n p x : Nat} (hp : p < sP σ) : pT σ n p = x + 1 ↔ ply σ n x = p + 1 := by
  constructor
  · intro h
    have h2 := pT_eq.mp h
    exact ply_yes h2.1 hp h2.2 (fun j hj z => T_inj hj (by omega) (z.trans h2.2.symm))
  · intro h
    obtain ⟨hd, q, hq, e⟩ := ply_ex.mp (show ply σ n x ≠ 0 by omega)
    have h3 := ply_yes hd hq e (fun j hj z => T_inj hj (by omega) (z.trans e.symm))
    obtain rfl : q = p := by omega
    exact pT_eq.mpr ⟨hd, e⟩
theorem bP_cm {σ : Sg} {h f : Nat} {p : Prop} [Decidable p] (e : p ↔ cmP σ h f) : bP p = nI (cmN σ h f) := by
  unfold cmN
  by_cases z : p
  · rw [bP, if_pos z, if_pos (e.mp z)]
  · rw [bP, if_neg z, if_neg (fun y => z (e.mpr y))]
set_option maxRecDepth 100000 in
set_option maxHeartbeats 1000000 in
theorem c_X5_playsInTrial {l : Launch} {E : Ev} {hB b1 b2 b3 b4 b5 b6 b7 b8 b9 b10 : Nat} {c2 : Nat} {f2 : Nat → Int32} {e1 e2 e3 par fre pri sls drk pla tks : Nat} {t1 t2 t3 : Nat → Int32} {σ : Sg} (hR : RepC σ f2) (hW : Wf σ) {n : Nat} (hn : n < 2147483648) {p : Nat} (hp : p < 2147483648) {x : Nat} (hx : x < 2147483648) : Ct l E yX5_playsInTrial cX5_playsInTrial 4 (some FieldType.boolean) 4 95 [.ref hB, .int (nI n), .int (nI p), .int (nI x)] [(hB, .inr (5, [.ref b1, .ref b2, .ref b3, .ref b4, .ref b5, .ref b6, .ref b7, .ref b8, .ref b9, .ref b10])), (b2, .inr (4, [.ref c2])), (c2, .inl (eI E, 265, .inl f2)), (b7, .inr (0, [.ref e1, .ref e2, .ref e3, .int (nI par), .int (nI fre), .int (nI pri), .int (nI sls), .int (nI drk), .int (nI pla), .int (nI tks)])), (e1, .inl (eI E, 6, .inl t1)), (e2, .inl (eI E, 6, .inl t2)), (e3, .inl (eI E, 6, .inl t3))] (fun v9 w9 => ∃ (par2 fre2 pri2 sls2 drk2 pla2 tks2 : Nat) (ta tb tc : Nat → Int32), v9 = some (.int (bP (n < 20 ∧ p < sP σ ∧ x < sA σ ∧ pT σ n p = x + 1))) ∧ w9 = [(hB, .inr (5, [.ref b1, .ref b2, .ref b3, .ref b4, .ref b5, .ref b6, .ref b7, .ref b8, .ref b9, .ref b10])), (b2, .inr (4, [.ref c2])), (c2, .inl (eI E, 265, .inl f2)), (b7, .inr (0, [.ref e1, .ref e2, .ref e3, .int (nI par2), .int (nI fre2), .int (nI pri2), .int (nI sls2), .int (nI drk2), .int (nI pla2), .int (nI tks2)])), (e1, .inl (eI E, 6, .inl ta)), (e2, .inl (eI E, 6, .inl tb)), (e3, .inl (eI E, 6, .inl tc))]) := by
  have hwP := hW.P
  have hwA := hW.A
  have hwS := hW.S
  refine ct_of (by decide +kernel) (Nat.le_of_ble_eq_true rfl) (fun ω C RT => ?_)
  show ω [(hB, .inr (5, [.ref b1, .ref b2, .ref b3, .ref b4, .ref b5, .ref b6, .ref b7, .ref b8, .ref b9, .ref b10])), (b2, .inr (4, [.ref c2])), (c2, .inl (eI E, 265, .inl f2)), (b7, .inr (0, [.ref e1, .ref e2, .ref e3, .int (nI par), .int (nI fre), .int (nI pri), .int (nI sls), .int (nI drk), .int (nI pla), .int (nI tks)])), (e1, .inl (eI E, 6, .inl t1)), (e2, .inl (eI E, 6, .inl t2)), (e3, .inl (eI E, 6, .inl t3))] [(0, .ref hB), (1, .int (nI n)), (2, .int (nI p)), (3, .int (nI x))] [] 0
  refine r_iload_n C (i := 1) 1 dX5_playsInTrial_0 rfl rfl ?_
  refine r_readS (rest := []) C (c_X5_hasNight (i := n) (hi := (by omega))) lk_X5_hasNight w_3_152 [] dX5_playsInTrial_1 rfl rfl rfl ⟨by decide, by decide⟩ (Nat.le_of_ble_eq_true rfl) (st' := [.int (bP (n < 20))]) rfl ?_
  refine r_if_eq C (y := 0) (c9 := ¬ (n < 20)) 29 dX5_playsInTrial_4 (by decide) z_eqB (fun h4_1 => ?_) (fun h4_1 => ?_)
  · refine r_iconst C dX5_playsInTrial_29 ki_0 ?_
    exact RT.1 _ _ _ _ _ dX5_playsInTrial_30 rfl nar_0 (⟨_, _, _, _, _, _, _, _, _, _, sv (bP_f (by omega)), rfl⟩) rfl
  · replace h4_1 : n < 20 := Decidable.not_not.mp h4_1
    refine r_aload_n C (i := 0) 0 dX5_playsInTrial_7 rfl rfl ?_
    refine r_get C 0 1 uX5 rfl rfl (by decide) w_1_130 rfl dX5_playsInTrial_8 ?_
    refine r_iload_n C (i := 2) 2 dX5_playsInTrial_11 rfl rfl ?_
    refine r_readV (rest := []) C (c_X4_hasPart (h0 := b2) (q1 := c2) (f := f2) (σ := σ) (p := p) (hR := hR) (hW := hW) (hp := (by omega))) lk_X4_hasPart w_3_173 [1, 2] rfl dX5_playsInTrial_12 rfl rfl rfl rfl ⟨by decide, by decide⟩ (Nat.le_of_ble_eq_true rfl) (st' := [.int (bP (p < sP σ))]) rfl ?_
    refine r_if_eq C (y := 0) (c9 := ¬ (p < sP σ)) 29 dX5_playsInTrial_15 (by decide) z_eqB (fun h15_2 => ?_) (fun h15_2 => ?_)
    · refine r_iconst C dX5_playsInTrial_29 ki_0 ?_
      exact RT.1 _ _ _ _ _ dX5_playsInTrial_30 rfl nar_0 (⟨_, _, _, _, _, _, _, _, _, _, sv (bP_f (by omega)), rfl⟩) rfl
    · replace h15_2 : p < sP σ := Decidable.not_not.mp h15_2
      refine r_aload_n C (i := 0) 0 dX5_playsInTrial_18 rfl rfl ?_
      refine r_get C 0 1 uX5 rfl rfl (by decide) w_1_130 rfl dX5_playsInTrial_19 ?_
      refine r_iload_n C (i := 3) 3 dX5_playsInTrial_22 rfl rfl ?_
      refine r_readV (rest := []) C (c_X4_hasActor (h0 := b2) (q1 := c2) (f := f2) (σ := σ) (p := x) (hR := hR) (hW := hW) (hp := (by omega))) lk_X4_hasActor w_3_224 [1, 2] rfl dX5_playsInTrial_23 rfl rfl rfl rfl ⟨by decide, by decide⟩ (Nat.le_of_ble_eq_true rfl) (st' := [.int (bP (x < sA σ))]) rfl ?_
      refine r_if_ne C (y := 0) (c9 := x < sA σ) 31 dX5_playsInTrial_26 (by decide) z_neB (fun h26_3 => ?_) (fun h26_3 => ?_)
      · refine r_aload_n C (i := 0) 0 dX5_playsInTrial_31 rfl rfl ?_
        refine r_get C 0 6 uX5 rfl rfl (by decide) w_1_135 rfl dX5_playsInTrial_32 ?_
        refine r_aload_n C (i := 0) 0 dX5_playsInTrial_35 rfl rfl ?_
        refine r_get C 0 1 uX5 rfl rfl (by decide) w_1_130 rfl dX5_playsInTrial_36 ?_
        refine r_iload_n C (i := 1) 1 dX5_playsInTrial_39 rfl rfl ?_
        refine r_callV (rest := []) C (c_X0_workOut (hE := b7) (e1 := e1) (e2 := e2) (e3 := e3) (par := par) (fre := fre) (pri := pri) (sls := sls) (drk := drk) (pla := pla) (tks := tks) (t1 := t1) (t2 := t2) (t3 := t3) (h0 := b2) (q1 := c2) (f := f2) (σ := σ) (n := n) (hR := hR) (hW := hW) (hn := (by omega))) lk_X0_workOut w_3_110 [3, 4, 5, 6, 1, 2] rfl dX5_playsInTrial_40 rfl rfl rfl rfl ⟨by decide, by decide⟩ (Nat.le_of_ble_eq_true rfl) ?_
        rintro _ _ ⟨par_4, fre_5, pri_6, sls_7, drk_8, pla_9, tks_10, ta_11, tb_12, tc_13, rfl, rfl, hEv_14⟩
        show ω [(hB, .inr (5, [.ref b1, .ref b2, .ref b3, .ref b4, .ref b5, .ref b6, .ref b7, .ref b8, .ref b9, .ref b10])), (b2, .inr (4, [.ref c2])), (c2, .inl (eI E, 265, .inl f2)), (b7, .inr (0, [.ref e1, .ref e2, .ref e3, .int (nI par_4), .int (nI fre_5), .int (nI pri_6), .int (nI sls_7), .int (nI drk_8), .int (nI pla_9), .int (nI tks_10)])), (e1, .inl (eI E, 6, .inl ta_11)), (e2, .inl (eI E, 6, .inl tb_12)), (e3, .inl (eI E, 6, .inl tc_13))] [(0, .ref hB), (1, .int (nI n)), (2, .int (nI p)), (3, .int (nI x))] [] 43
        refine r_aload_n C (i := 0) 0 dX5_playsInTrial_43 rfl rfl ?_
        refine r_get C 0 6 uX5 rfl rfl (by decide) w_1_135 rfl dX5_playsInTrial_44 ?_
        refine r_iload_n C (i := 2) 2 dX5_playsInTrial_47 rfl rfl ?_
        refine r_readV (rest := []) C (c_X0_player (hE := b7) (e1 := e1) (e2 := e2) (e3 := e3) (par := par_4) (fre := fre_5) (pri := pri_6) (sls := sls_7) (drk := drk_8) (pla := pla_9) (tks := tks_10) (t1 := ta_11) (t2 := tb_12) (t3 := tc_13) (σ := σ) (n := n) (p := p) (hEv := hEv_14) (hW := hW) (hp := (by omega))) lk_X0_player w_3_175 [3, 4, 5, 6] rfl dX5_playsInTrial_48 rfl rfl rfl rfl ⟨by decide, by decide⟩ (Nat.le_of_ble_eq_true rfl) (st' := [.int (mI (pT σ n p))]) rfl ?_
        have hpl := pT_le hW (show p < sP σ by omega) (show n < 20 by omega)
        refine r_iload_n C (i := 3) 3 dX5_playsInTrial_51 rfl rfl ?_
        refine r_icmp_ne C (c9 := pT σ n p ≠ x + 1) 59 dX5_playsInTrial_52 (by decide) (c_neMN (by omega) (by omega)) (fun h52_15 => ?_) (fun h52_15 => ?_)
        · refine r_iconst C dX5_playsInTrial_59 ki_0 ?_
          exact RT.1 _ _ _ _ _ dX5_playsInTrial_60 rfl nar_0 (⟨_, _, _, _, _, _, _, _, _, _, sv (bP_f (by omega)), rfl⟩) rfl
        · refine r_iconst C dX5_playsInTrial_55 ki_1 ?_
          refine r_goto C 60 dX5_playsInTrial_56 (by decide) ?_
          exact RT.1 _ _ _ _ _ dX5_playsInTrial_60 rfl nar_1 (⟨_, _, _, _, _, _, _, _, _, _, sv (bP_t (by omega)), rfl⟩) rfl
      · refine r_iconst C dX5_playsInTrial_29 ki_0 ?_
        exact RT.1 _ _ _ _ _ dX5_playsInTrial_30 rfl nar_0 (⟨_, _, _, _, _, _, _, _, _, _, sv (bP_f (by omega)), rfl⟩) rfl
set_option maxRecDepth 100000 in
set_option maxHeartbeats 1000000 in
theorem c_X5_isDarkInTrial {l : Launch} {E : Ev} {hB b1 b2 b3 b4 b5 b6 b7 b8 b9 b10 : Nat} {c2 : Nat} {f2 : Nat → Int32} {e1 e2 e3 par fre pri sls drk pla tks : Nat} {t1 t2 t3 : Nat → Int32} {σ : Sg} (hR : RepC σ f2) (hW : Wf σ) {n d : Nat} (hn : n < 2147483648) (hd : d ≤ 1) : Ct l E yX5_isDarkInTrial cX5_isDarkInTrial 3 (some FieldType.boolean) 4 95 [.ref hB, .int (nI n), .int (nI d)] [(hB, .inr (5, [.ref b1, .ref b2, .ref b3, .ref b4, .ref b5, .ref b6, .ref b7, .ref b8, .ref b9, .ref b10])), (b2, .inr (4, [.ref c2])), (c2, .inl (eI E, 265, .inl f2)), (b7, .inr (0, [.ref e1, .ref e2, .ref e3, .int (nI par), .int (nI fre), .int (nI pri), .int (nI sls), .int (nI drk), .int (nI pla), .int (nI tks)])), (e1, .inl (eI E, 6, .inl t1)), (e2, .inl (eI E, 6, .inl t2)), (e3, .inl (eI E, 6, .inl t3))] (fun v9 w9 => ∃ (par2 fre2 pri2 sls2 drk2 pla2 tks2 : Nat) (ta tb tc : Nat → Int32), v9 = some (.int (bP (n < 20 ∧ dk σ n = d))) ∧ w9 = [(hB, .inr (5, [.ref b1, .ref b2, .ref b3, .ref b4, .ref b5, .ref b6, .ref b7, .ref b8, .ref b9, .ref b10])), (b2, .inr (4, [.ref c2])), (c2, .inl (eI E, 265, .inl f2)), (b7, .inr (0, [.ref e1, .ref e2, .ref e3, .int (nI par2), .int (nI fre2), .int (nI pri2), .int (nI sls2), .int (nI drk2), .int (nI pla2), .int (nI tks2)])), (e1, .inl (eI E, 6, .inl ta)), (e2, .inl (eI E, 6, .inl tb)), (e3, .inl (eI E, 6, .inl tc))]) := by
  have hwP := hW.P
  have hwA := hW.A
  have hwS := hW.S
  refine ct_of (by decide +kernel) (Nat.le_of_ble_eq_true rfl) (fun ω C RT => ?_)
  show ω [(hB, .inr (5, [.ref b1, .ref b2, .ref b3, .ref b4, .ref b5, .ref b6, .ref b7, .ref b8, .ref b9, .ref b10])), (b2, .inr (4, [.ref c2])), (c2, .inl (eI E, 265, .inl f2)), (b7, .inr (0, [.ref e1, .ref e2, .ref e3, .int (nI par), .int (nI fre), .int (nI pri), .int (nI sls), .int (nI drk), .int (nI pla), .int (nI tks)])), (e1, .inl (eI E, 6, .inl t1)), (e2, .inl (eI E, 6, .inl t2)), (e3, .inl (eI E, 6, .inl t3))] [(0, .ref hB), (1, .int (nI n)), (2, .int (nI d))] [] 0
  refine r_iload_n C (i := 1) 1 dX5_isDarkInTrial_0 rfl rfl ?_
  refine r_readS (rest := []) C (c_X5_hasNight (i := n) (hi := (by omega))) lk_X5_hasNight w_3_152 [] dX5_isDarkInTrial_1 rfl rfl rfl ⟨by decide, by decide⟩ (Nat.le_of_ble_eq_true rfl) (st' := [.int (bP (n < 20))]) rfl ?_
  refine r_if_ne C (y := 0) (c9 := n < 20) 9 dX5_isDarkInTrial_4 (by decide) z_neB (fun h4_1 => ?_) (fun h4_1 => ?_)
  · refine r_aload_n C (i := 0) 0 dX5_isDarkInTrial_9 rfl rfl ?_
    refine r_get C 0 6 uX5 rfl rfl (by decide) w_1_135 rfl dX5_isDarkInTrial_10 ?_
    refine r_aload_n C (i := 0) 0 dX5_isDarkInTrial_13 rfl rfl ?_
    refine r_get C 0 1 uX5 rfl rfl (by decide) w_1_130 rfl dX5_isDarkInTrial_14 ?_
    refine r_iload_n C (i := 1) 1 dX5_isDarkInTrial_17 rfl rfl ?_
    refine r_callV (rest := []) C (c_X0_workOut (hE := b7) (e1 := e1) (e2 := e2) (e3 := e3) (par := par) (fre := fre) (pri := pri) (sls := sls) (drk := drk) (pla := pla) (tks := tks) (t1 := t1) (t2 := t2) (t3 := t3) (h0 := b2) (q1 := c2) (f := f2) (σ := σ) (n := n) (hR := hR) (hW := hW) (hn := (by omega))) lk_X0_workOut w_3_110 [3, 4, 5, 6, 1, 2] rfl dX5_isDarkInTrial_18 rfl rfl rfl rfl ⟨by decide, by decide⟩ (Nat.le_of_ble_eq_true rfl) ?_
    rintro _ _ ⟨par_2, fre_3, pri_4, sls_5, drk_6, pla_7, tks_8, ta_9, tb_10, tc_11, rfl, rfl, hEv_12⟩
    show ω [(hB, .inr (5, [.ref b1, .ref b2, .ref b3, .ref b4, .ref b5, .ref b6, .ref b7, .ref b8, .ref b9, .ref b10])), (b2, .inr (4, [.ref c2])), (c2, .inl (eI E, 265, .inl f2)), (b7, .inr (0, [.ref e1, .ref e2, .ref e3, .int (nI par_2), .int (nI fre_3), .int (nI pri_4), .int (nI sls_5), .int (nI drk_6), .int (nI pla_7), .int (nI tks_8)])), (e1, .inl (eI E, 6, .inl ta_9)), (e2, .inl (eI E, 6, .inl tb_10)), (e3, .inl (eI E, 6, .inl tc_11))] [(0, .ref hB), (1, .int (nI n)), (2, .int (nI d))] [] 21
    refine r_aload_n C (i := 0) 0 dX5_isDarkInTrial_21 rfl rfl ?_
    refine r_get C 0 6 uX5 rfl rfl (by decide) w_1_135 rfl dX5_isDarkInTrial_22 ?_
    refine r_readV (rest := []) C (c_X0_isDark (hE := b7) (e1 := e1) (e2 := e2) (e3 := e3) (par := par_2) (fre := fre_3) (pri := pri_4) (sls := sls_5) (drk := drk_6) (pla := pla_7) (tks := tks_8) (t1 := ta_9) (t2 := tb_10) (t3 := tc_11) (σ := σ) (n := n) (hEv := hEv_12) (hW := hW)) lk_X0_isDark w_3_111 [3, 4, 5, 6] rfl dX5_isDarkInTrial_25 rfl rfl rfl rfl ⟨by decide, by decide⟩ (Nat.le_of_ble_eq_true rfl) (st' := [.int (nI (dk σ n))]) rfl ?_
    have hdl := dk_le σ n
    refine r_iload_n C (i := 2) 2 dX5_isDarkInTrial_28 rfl rfl ?_
    refine r_icmp_ne C (c9 := dk σ n ≠ d) 36 dX5_isDarkInTrial_29 (by decide) (c_neNN (by omega) (by omega)) (fun h29_13 => ?_) (fun h29_13 => ?_)
    · refine r_iconst C dX5_isDarkInTrial_36 ki_0 ?_
      exact RT.1 _ _ _ _ _ dX5_isDarkInTrial_37 rfl nar_0 (⟨_, _, _, _, _, _, _, _, _, _, sv (bP_f (by omega)), rfl⟩) rfl
    · refine r_iconst C dX5_isDarkInTrial_32 ki_1 ?_
      refine r_goto C 37 dX5_isDarkInTrial_33 (by decide) ?_
      exact RT.1 _ _ _ _ _ dX5_isDarkInTrial_37 rfl nar_1 (⟨_, _, _, _, _, _, _, _, _, _, sv (bP_t (by omega)), rfl⟩) rfl
  · refine r_iconst C dX5_isDarkInTrial_7 ki_0 ?_
    exact RT.1 _ _ _ _ _ dX5_isDarkInTrial_8 rfl nar_0 (⟨_, _, _, _, _, _, _, _, _, _, sv (bP_f (by omega)), rfl⟩) rfl
set_option maxRecDepth 100000 in
set_option maxHeartbeats 1000000 in
theorem c_X5_obeyGroup__0 {l : Launch} {E : Ev} {hB b1 b2 b3 b4 b5 b6 b7 b8 b9 b10 : Nat} {c2 b11 sd st : Nat} {f2 : Nat → Int32} {e1 e2 e3 par fre pri sls drk pla tks : Nat} {t1 t2 t3 : Nat → Int32} {g1 g2 g3 par1 fre1 pri1 sls1 drk1 pla1 tks1 : Nat} {r1 r2 r3 : Nat → Int32} {σ : Sg} (hR : RepC σ f2) (hW : Wf σ) {four gr : Nat} (hf : four < 10000) (hg : gr = 0 + four) : Ct l E yX5_obeyGroup cX5_obeyGroup 6 (some FieldType.boolean) 5 118 [.ref hB, .int (nI gr)] [(hB, .inr (5, [.ref b1, .ref b2, .ref b3, .ref b4, .ref b5, .ref b6, .ref b7, .ref b8, .ref b9, .ref b10])), (b2, .inr (4, [.ref c2])), (c2, .inl (eI E, 265, .inl f2)), (b7, .inr (0, [.ref e1, .ref e2, .ref e3, .int (nI par), .int (nI fre), .int (nI pri), .int (nI sls), .int (nI drk), .int (nI pla), .int (nI tks)])), (e1, .inl (eI E, 6, .inl t1)), (e2, .inl (eI E, 6, .inl t2)), (e3, .inl (eI E, 6, .inl t3)), (b9, .inr (3, [.ref b11, .int (nI sd), .int (nI st)])), (b11, .inr (0, [.ref g1, .ref g2, .ref g3, .int (nI par1), .int (nI fre1), .int (nI pri1), .int (nI sls1), .int (nI drk1), .int (nI pla1), .int (nI tks1)])), (g1, .inl (eI E, 6, .inl r1)), (g2, .inl (eI E, 6, .inl r2)), (g3, .inl (eI E, 6, .inl r3))] (fun v9 w9 => ∃ (fx : Nat → Int32) (sd2 st2 par2 fre2 pri2 sls2 drk2 pla2 tks2 par12 fre12 pri12 sls12 drk12 pla12 tks12 : Nat) (ta tb tc ua ub uc : Nat → Int32), v9 = some (.int (nI (cmN σ 0 four))) ∧ w9 = [(hB, .inr (5, [.ref b1, .ref b2, .ref b3, .ref b4, .ref b5, .ref b6, .ref b7, .ref b8, .ref b9, .ref b10])), (b2, .inr (4, [.ref c2])), (c2, .inl (eI E, 265, .inl fx)), (b7, .inr (0, [.ref e1, .ref e2, .ref e3, .int (nI par2), .int (nI fre2), .int (nI pri2), .int (nI sls2), .int (nI drk2), .int (nI pla2), .int (nI tks2)])), (e1, .inl (eI E, 6, .inl ta)), (e2, .inl (eI E, 6, .inl tb)), (e3, .inl (eI E, 6, .inl tc)), (b9, .inr (3, [.ref b11, .int (nI sd2), .int (nI st2)])), (b11, .inr (0, [.ref g1, .ref g2, .ref g3, .int (nI par12), .int (nI fre12), .int (nI pri12), .int (nI sls12), .int (nI drk12), .int (nI pla12), .int (nI tks12)])), (g1, .inl (eI E, 6, .inl ua)), (g2, .inl (eI E, 6, .inl ub)), (g3, .inl (eI E, 6, .inl uc))] ∧ RepC (cmS σ 0 four) fx) := by
  have hwP := hW.P
  have hwA := hW.A
  have hwS := hW.S
  refine ct_of (by decide +kernel) (Nat.le_of_ble_eq_true rfl) (fun ω C RT => ?_)
  show ω [(hB, .inr (5, [.ref b1, .ref b2, .ref b3, .ref b4, .ref b5, .ref b6, .ref b7, .ref b8, .ref b9, .ref b10])), (b2, .inr (4, [.ref c2])), (c2, .inl (eI E, 265, .inl f2)), (b7, .inr (0, [.ref e1, .ref e2, .ref e3, .int (nI par), .int (nI fre), .int (nI pri), .int (nI sls), .int (nI drk), .int (nI pla), .int (nI tks)])), (e1, .inl (eI E, 6, .inl t1)), (e2, .inl (eI E, 6, .inl t2)), (e3, .inl (eI E, 6, .inl t3)), (b9, .inr (3, [.ref b11, .int (nI sd), .int (nI st)])), (b11, .inr (0, [.ref g1, .ref g2, .ref g3, .int (nI par1), .int (nI fre1), .int (nI pri1), .int (nI sls1), .int (nI drk1), .int (nI pla1), .int (nI tks1)])), (g1, .inl (eI E, 6, .inl r1)), (g2, .inl (eI E, 6, .inl r2)), (g3, .inl (eI E, 6, .inl r3))] [(0, .ref hB), (1, .int (nI gr))] [] 0
  refine r_iload_n C (i := 1) 1 dX5_obeyGroup_0 rfl rfl ?_
  refine r_sipush C dX5_obeyGroup_1 ks_1000 ?_
  refine r_idiv (v := nI (gr / 1000)) C dX5_obeyGroup_4 (v_nz (by omega) (by omega)) (v_div (by omega) (by omega) (by omega)) ?_
  refine r_bipush C dX5_obeyGroup_5 kb_10 ?_
  refine r_irem (v := nI (four / 1000)) C dX5_obeyGroup_7 (v_nz (by omega) (by omega)) ((v_rem (by omega) (by omega) (by omega)).trans (congrArg nI (by omega))) ?_
  refine r_istore_n C (lv' := [(2, .int (nI (four / 1000))), (0, .ref hB), (1, .int (nI gr))]) dX5_obeyGroup_8 rfl (by decide) rfl ?_
  refine r_iload_n C (i := 1) 2 dX5_obeyGroup_9 rfl rfl ?_
  refine r_bipush C dX5_obeyGroup_10 kb_100 ?_
  refine r_idiv (v := nI (gr / 100)) C dX5_obeyGroup_12 (v_nz (by omega) (by omega)) (v_div (by omega) (by omega) (by omega)) ?_
  refine r_bipush C dX5_obeyGroup_13 kb_10 ?_
  refine r_irem (v := nI (four / 100 % 10)) C dX5_obeyGroup_15 (v_nz (by omega) (by omega)) ((v_rem (by omega) (by omega) (by omega)).trans (congrArg nI (by omega))) ?_
  refine r_istore_n C (lv' := [(3, .int (nI (four / 100 % 10))), (2, .int (nI (four / 1000))), (0, .ref hB), (1, .int (nI gr))]) dX5_obeyGroup_16 rfl (by decide) rfl ?_
  refine r_iload_n C (i := 1) 3 dX5_obeyGroup_17 rfl rfl ?_
  refine r_bipush C dX5_obeyGroup_18 kb_10 ?_
  refine r_idiv (v := nI (gr / 10)) C dX5_obeyGroup_20 (v_nz (by omega) (by omega)) (v_div (by omega) (by omega) (by omega)) ?_
  refine r_bipush C dX5_obeyGroup_21 kb_10 ?_
  refine r_irem (v := nI (four / 10 % 10)) C dX5_obeyGroup_23 (v_nz (by omega) (by omega)) ((v_rem (by omega) (by omega) (by omega)).trans (congrArg nI (by omega))) ?_
  refine r_istore C (lv' := [(4, .int (nI (four / 10 % 10))), (3, .int (nI (four / 100 % 10))), (2, .int (nI (four / 1000))), (0, .ref hB), (1, .int (nI gr))]) dX5_obeyGroup_24 (by decide) rfl ?_
  refine r_iload_n C (i := 1) 4 dX5_obeyGroup_26 rfl rfl ?_
  refine r_bipush C dX5_obeyGroup_27 kb_10 ?_
  refine r_irem (v := nI (four % 10)) C dX5_obeyGroup_29 (v_nz (by omega) (by omega)) ((v_rem (by omega) (by omega) (by omega)).trans (congrArg nI (by omega))) ?_
  refine r_istore C (lv' := [(5, .int (nI (four % 10))), (4, .int (nI (four / 10 % 10))), (3, .int (nI (four / 100 % 10))), (2, .int (nI (four / 1000))), (0, .ref hB), (1, .int (nI gr))]) dX5_obeyGroup_30 (by decide) rfl ?_
  refine r_iload_n C (i := 1) 5 dX5_obeyGroup_32 rfl rfl ?_
  refine r_sipush C dX5_obeyGroup_33 ks_10000 ?_
  refine r_idiv (v := nI 0) C dX5_obeyGroup_36 (v_nz (by omega) (by omega)) ((v_div (by omega) (by omega) (by omega)).trans (congrArg nI (by omega))) ?_
  refine r_tabOut C 354 dX5_obeyGroup_37 (by decide) (by decide) ?_
  refine r_iconst C dX5_obeyGroup_354 ki_0 ?_
  exact RT.1 _ _ _ _ _ dX5_obeyGroup_355 rfl nar_0 (⟨_, _, _, _, _, _, _, _, _, _, _, _, _, _, _, _, _, _, _, _, _, _, _, sv (cm_n (by show ¬ (False); exact not_false)), rfl, hR⟩) rfl
set_option maxRecDepth 100000 in
set_option maxHeartbeats 1000000 in
theorem c_X5_obeyGroup__1 {l : Launch} {E : Ev} {hB b1 b2 b3 b4 b5 b6 b7 b8 b9 b10 : Nat} {c2 b11 sd st : Nat} {f2 : Nat → Int32} {e1 e2 e3 par fre pri sls drk pla tks : Nat} {t1 t2 t3 : Nat → Int32} {g1 g2 g3 par1 fre1 pri1 sls1 drk1 pla1 tks1 : Nat} {r1 r2 r3 : Nat → Int32} {σ : Sg} (hR : RepC σ f2) (hW : Wf σ) {four gr : Nat} (hf : four < 10000) (hg : gr = 10000 + four) : Ct l E yX5_obeyGroup cX5_obeyGroup 6 (some FieldType.boolean) 5 118 [.ref hB, .int (nI gr)] [(hB, .inr (5, [.ref b1, .ref b2, .ref b3, .ref b4, .ref b5, .ref b6, .ref b7, .ref b8, .ref b9, .ref b10])), (b2, .inr (4, [.ref c2])), (c2, .inl (eI E, 265, .inl f2)), (b7, .inr (0, [.ref e1, .ref e2, .ref e3, .int (nI par), .int (nI fre), .int (nI pri), .int (nI sls), .int (nI drk), .int (nI pla), .int (nI tks)])), (e1, .inl (eI E, 6, .inl t1)), (e2, .inl (eI E, 6, .inl t2)), (e3, .inl (eI E, 6, .inl t3)), (b9, .inr (3, [.ref b11, .int (nI sd), .int (nI st)])), (b11, .inr (0, [.ref g1, .ref g2, .ref g3, .int (nI par1), .int (nI fre1), .int (nI pri1), .int (nI sls1), .int (nI drk1), .int (nI pla1), .int (nI tks1)])), (g1, .inl (eI E, 6, .inl r1)), (g2, .inl (eI E, 6, .inl r2)), (g3, .inl (eI E, 6, .inl r3))] (fun v9 w9 => ∃ (fx : Nat → Int32) (sd2 st2 par2 fre2 pri2 sls2 drk2 pla2 tks2 par12 fre12 pri12 sls12 drk12 pla12 tks12 : Nat) (ta tb tc ua ub uc : Nat → Int32), v9 = some (.int (nI (cmN σ 1 four))) ∧ w9 = [(hB, .inr (5, [.ref b1, .ref b2, .ref b3, .ref b4, .ref b5, .ref b6, .ref b7, .ref b8, .ref b9, .ref b10])), (b2, .inr (4, [.ref c2])), (c2, .inl (eI E, 265, .inl fx)), (b7, .inr (0, [.ref e1, .ref e2, .ref e3, .int (nI par2), .int (nI fre2), .int (nI pri2), .int (nI sls2), .int (nI drk2), .int (nI pla2), .int (nI tks2)])), (e1, .inl (eI E, 6, .inl ta)), (e2, .inl (eI E, 6, .inl tb)), (e3, .inl (eI E, 6, .inl tc)), (b9, .inr (3, [.ref b11, .int (nI sd2), .int (nI st2)])), (b11, .inr (0, [.ref g1, .ref g2, .ref g3, .int (nI par12), .int (nI fre12), .int (nI pri12), .int (nI sls12), .int (nI drk12), .int (nI pla12), .int (nI tks12)])), (g1, .inl (eI E, 6, .inl ua)), (g2, .inl (eI E, 6, .inl ub)), (g3, .inl (eI E, 6, .inl uc))] ∧ RepC (cmS σ 1 four) fx) := by
  have hwP := hW.P
  have hwA := hW.A
  have hwS := hW.S
  refine ct_of (by decide +kernel) (Nat.le_of_ble_eq_true rfl) (fun ω C RT => ?_)
  show ω [(hB, .inr (5, [.ref b1, .ref b2, .ref b3, .ref b4, .ref b5, .ref b6, .ref b7, .ref b8, .ref b9, .ref b10])), (b2, .inr (4, [.ref c2])), (c2, .inl (eI E, 265, .inl f2)), (b7, .inr (0, [.ref e1, .ref e2, .ref e3, .int (nI par), .int (nI fre), .int (nI pri), .int (nI sls), .int (nI drk), .int (nI pla), .int (nI tks)])), (e1, .inl (eI E, 6, .inl t1)), (e2, .inl (eI E, 6, .inl t2)), (e3, .inl (eI E, 6, .inl t3)), (b9, .inr (3, [.ref b11, .int (nI sd), .int (nI st)])), (b11, .inr (0, [.ref g1, .ref g2, .ref g3, .int (nI par1), .int (nI fre1), .int (nI pri1), .int (nI sls1), .int (nI drk1), .int (nI pla1), .int (nI tks1)])), (g1, .inl (eI E, 6, .inl r1)), (g2, .inl (eI E, 6, .inl r2)), (g3, .inl (eI E, 6, .inl r3))] [(0, .ref hB), (1, .int (nI gr))] [] 0
  refine r_iload_n C (i := 1) 1 dX5_obeyGroup_0 rfl rfl ?_
  refine r_sipush C dX5_obeyGroup_1 ks_1000 ?_
  refine r_idiv (v := nI (gr / 1000)) C dX5_obeyGroup_4 (v_nz (by omega) (by omega)) (v_div (by omega) (by omega) (by omega)) ?_
  refine r_bipush C dX5_obeyGroup_5 kb_10 ?_
  refine r_irem (v := nI (four / 1000)) C dX5_obeyGroup_7 (v_nz (by omega) (by omega)) ((v_rem (by omega) (by omega) (by omega)).trans (congrArg nI (by omega))) ?_
  refine r_istore_n C (lv' := [(2, .int (nI (four / 1000))), (0, .ref hB), (1, .int (nI gr))]) dX5_obeyGroup_8 rfl (by decide) rfl ?_
  refine r_iload_n C (i := 1) 2 dX5_obeyGroup_9 rfl rfl ?_
  refine r_bipush C dX5_obeyGroup_10 kb_100 ?_
  refine r_idiv (v := nI (gr / 100)) C dX5_obeyGroup_12 (v_nz (by omega) (by omega)) (v_div (by omega) (by omega) (by omega)) ?_
  refine r_bipush C dX5_obeyGroup_13 kb_10 ?_
  refine r_irem (v := nI (four / 100 % 10)) C dX5_obeyGroup_15 (v_nz (by omega) (by omega)) ((v_rem (by omega) (by omega) (by omega)).trans (congrArg nI (by omega))) ?_
  refine r_istore_n C (lv' := [(3, .int (nI (four / 100 % 10))), (2, .int (nI (four / 1000))), (0, .ref hB), (1, .int (nI gr))]) dX5_obeyGroup_16 rfl (by decide) rfl ?_
  refine r_iload_n C (i := 1) 3 dX5_obeyGroup_17 rfl rfl ?_
  refine r_bipush C dX5_obeyGroup_18 kb_10 ?_
  refine r_idiv (v := nI (gr / 10)) C dX5_obeyGroup_20 (v_nz (by omega) (by omega)) (v_div (by omega) (by omega) (by omega)) ?_
  refine r_bipush C dX5_obeyGroup_21 kb_10 ?_
  refine r_irem (v := nI (four / 10 % 10)) C dX5_obeyGroup_23 (v_nz (by omega) (by omega)) ((v_rem (by omega) (by omega) (by omega)).trans (congrArg nI (by omega))) ?_
  refine r_istore C (lv' := [(4, .int (nI (four / 10 % 10))), (3, .int (nI (four / 100 % 10))), (2, .int (nI (four / 1000))), (0, .ref hB), (1, .int (nI gr))]) dX5_obeyGroup_24 (by decide) rfl ?_
  refine r_iload_n C (i := 1) 4 dX5_obeyGroup_26 rfl rfl ?_
  refine r_bipush C dX5_obeyGroup_27 kb_10 ?_
  refine r_irem (v := nI (four % 10)) C dX5_obeyGroup_29 (v_nz (by omega) (by omega)) ((v_rem (by omega) (by omega) (by omega)).trans (congrArg nI (by omega))) ?_
  refine r_istore C (lv' := [(5, .int (nI (four % 10))), (4, .int (nI (four / 10 % 10))), (3, .int (nI (four / 100 % 10))), (2, .int (nI (four / 1000))), (0, .ref hB), (1, .int (nI gr))]) dX5_obeyGroup_30 (by decide) rfl ?_
  refine r_iload_n C (i := 1) 5 dX5_obeyGroup_32 rfl rfl ?_
  refine r_sipush C dX5_obeyGroup_33 ks_10000 ?_
  refine r_idiv (v := nI 1) C dX5_obeyGroup_36 (v_nz (by omega) (by omega)) ((v_div (by omega) (by omega) (by omega)).trans (congrArg nI (by omega))) ?_
  refine r_tabIn (off := 51) C 88 dX5_obeyGroup_37 (by decide) (by decide) (by decide) (by decide) ?_
  refine r_aload_n C (i := 0) 4 dX5_obeyGroup_88 rfl rfl ?_
  refine r_get C 0 1 uX5 rfl rfl (by decide) w_1_130 rfl dX5_obeyGroup_89 ?_
  refine r_iload_n C (i := 2) 3 dX5_obeyGroup_92 rfl rfl ?_
  refine r_iload_n C (i := 3) 2 dX5_obeyGroup_93 rfl rfl ?_
  refine r_bipush C dX5_obeyGroup_94 kb_10 ?_
  refine r_iload C (i := 4) 1 dX5_obeyGroup_96 rfl ?_
  refine r_imul (v := nI (10 * (four / 10 % 10))) C dX5_obeyGroup_98 (pk_mul _ _) ?_
  refine r_iload C (i := 5) 0 dX5_obeyGroup_99 rfl ?_
  refine r_iadd (v := nI (four % 100)) C dX5_obeyGroup_101 ((nI_add _ _).trans (congrArg nI (by omega))) ?_
  refine r_callV (rest := []) C (c_X4_recast__n (h0 := b2) (q1 := c2) (f := f2) (σ := σ) (p := four / 1000) (a := four / 100 % 10) (n := four % 100) (hR := hR) (hW := hW) (hp := (by omega)) (ha := (by omega)) (hn := (by omega))) lk_X4_recast w_3_66 [1, 2] rfl dX5_obeyGroup_102 rfl rfl rfl rfl ⟨by decide, by decide⟩ (Nat.le_of_ble_eq_true rfl) ?_
  rintro _ _ ⟨f_1, rfl, rfl, hR_2⟩
  have hW_3 : Wf (tCast σ (four / 1000) ((four / 100 % 10) + 1) (four % 100)) := tCast_wf hW
  show ω [(hB, .inr (5, [.ref b1, .ref b2, .ref b3, .ref b4, .ref b5, .ref b6, .ref b7, .ref b8, .ref b9, .ref b10])), (b2, .inr (4, [.ref c2])), (c2, .inl (eI E, 265, .inl f_1)), (b7, .inr (0, [.ref e1, .ref e2, .ref e3, .int (nI par), .int (nI fre), .int (nI pri), .int (nI sls), .int (nI drk), .int (nI pla), .int (nI tks)])), (e1, .inl (eI E, 6, .inl t1)), (e2, .inl (eI E, 6, .inl t2)), (e3, .inl (eI E, 6, .inl t3)), (b9, .inr (3, [.ref b11, .int (nI sd), .int (nI st)])), (b11, .inr (0, [.ref g1, .ref g2, .ref g3, .int (nI par1), .int (nI fre1), .int (nI pri1), .int (nI sls1), .int (nI drk1), .int (nI pla1), .int (nI tks1)])), (g1, .inl (eI E, 6, .inl r1)), (g2, .inl (eI E, 6, .inl r2)), (g3, .inl (eI E, 6, .inl r3))] [(5, .int (nI (four % 10))), (4, .int (nI (four / 10 % 10))), (3, .int (nI (four / 100 % 10))), (2, .int (nI (four / 1000))), (0, .ref hB), (1, .int (nI gr))] [.int (bP ((four / 1000) < sP σ ∧ (four % 100) < 20 ∧ (four / 100 % 10) < sA σ))] 105
  exact RT.1 _ _ _ _ _ dX5_obeyGroup_105 rfl nar_B (⟨_, _, _, _, _, _, _, _, _, _, _, _, _, _, _, _, _, _, _, _, _, _, _, sv (bP_cm (by show _ ↔ four / 1000 < sP σ ∧ four % 100 < 20 ∧ four / 100 % 10 + 1 ≤ sA σ; omega)), rfl, (by show RepC (tCast σ (four / 1000) (four / 100 % 10 + 1) (four % 100)) _; exact hR_2)⟩) rfl
set_option maxRecDepth 100000 in
set_option maxHeartbeats 1000000 in
theorem c_X5_obeyGroup__2 {l : Launch} {E : Ev} {hB b1 b2 b3 b4 b5 b6 b7 b8 b9 b10 : Nat} {c2 b11 sd st : Nat} {f2 : Nat → Int32} {e1 e2 e3 par fre pri sls drk pla tks : Nat} {t1 t2 t3 : Nat → Int32} {g1 g2 g3 par1 fre1 pri1 sls1 drk1 pla1 tks1 : Nat} {r1 r2 r3 : Nat → Int32} {σ : Sg} (hR : RepC σ f2) (hW : Wf σ) {four gr : Nat} (hf : four < 10000) (hg : gr = 20000 + four) : Ct l E yX5_obeyGroup cX5_obeyGroup 6 (some FieldType.boolean) 5 118 [.ref hB, .int (nI gr)] [(hB, .inr (5, [.ref b1, .ref b2, .ref b3, .ref b4, .ref b5, .ref b6, .ref b7, .ref b8, .ref b9, .ref b10])), (b2, .inr (4, [.ref c2])), (c2, .inl (eI E, 265, .inl f2)), (b7, .inr (0, [.ref e1, .ref e2, .ref e3, .int (nI par), .int (nI fre), .int (nI pri), .int (nI sls), .int (nI drk), .int (nI pla), .int (nI tks)])), (e1, .inl (eI E, 6, .inl t1)), (e2, .inl (eI E, 6, .inl t2)), (e3, .inl (eI E, 6, .inl t3)), (b9, .inr (3, [.ref b11, .int (nI sd), .int (nI st)])), (b11, .inr (0, [.ref g1, .ref g2, .ref g3, .int (nI par1), .int (nI fre1), .int (nI pri1), .int (nI sls1), .int (nI drk1), .int (nI pla1), .int (nI tks1)])), (g1, .inl (eI E, 6, .inl r1)), (g2, .inl (eI E, 6, .inl r2)), (g3, .inl (eI E, 6, .inl r3))] (fun v9 w9 => ∃ (fx : Nat → Int32) (sd2 st2 par2 fre2 pri2 sls2 drk2 pla2 tks2 par12 fre12 pri12 sls12 drk12 pla12 tks12 : Nat) (ta tb tc ua ub uc : Nat → Int32), v9 = some (.int (nI (cmN σ 2 four))) ∧ w9 = [(hB, .inr (5, [.ref b1, .ref b2, .ref b3, .ref b4, .ref b5, .ref b6, .ref b7, .ref b8, .ref b9, .ref b10])), (b2, .inr (4, [.ref c2])), (c2, .inl (eI E, 265, .inl fx)), (b7, .inr (0, [.ref e1, .ref e2, .ref e3, .int (nI par2), .int (nI fre2), .int (nI pri2), .int (nI sls2), .int (nI drk2), .int (nI pla2), .int (nI tks2)])), (e1, .inl (eI E, 6, .inl ta)), (e2, .inl (eI E, 6, .inl tb)), (e3, .inl (eI E, 6, .inl tc)), (b9, .inr (3, [.ref b11, .int (nI sd2), .int (nI st2)])), (b11, .inr (0, [.ref g1, .ref g2, .ref g3, .int (nI par12), .int (nI fre12), .int (nI pri12), .int (nI sls12), .int (nI drk12), .int (nI pla12), .int (nI tks12)])), (g1, .inl (eI E, 6, .inl ua)), (g2, .inl (eI E, 6, .inl ub)), (g3, .inl (eI E, 6, .inl uc))] ∧ RepC (cmS σ 2 four) fx) := by
  have hwP := hW.P
  have hwA := hW.A
  have hwS := hW.S
  refine ct_of (by decide +kernel) (Nat.le_of_ble_eq_true rfl) (fun ω C RT => ?_)
  show ω [(hB, .inr (5, [.ref b1, .ref b2, .ref b3, .ref b4, .ref b5, .ref b6, .ref b7, .ref b8, .ref b9, .ref b10])), (b2, .inr (4, [.ref c2])), (c2, .inl (eI E, 265, .inl f2)), (b7, .inr (0, [.ref e1, .ref e2, .ref e3, .int (nI par), .int (nI fre), .int (nI pri), .int (nI sls), .int (nI drk), .int (nI pla), .int (nI tks)])), (e1, .inl (eI E, 6, .inl t1)), (e2, .inl (eI E, 6, .inl t2)), (e3, .inl (eI E, 6, .inl t3)), (b9, .inr (3, [.ref b11, .int (nI sd), .int (nI st)])), (b11, .inr (0, [.ref g1, .ref g2, .ref g3, .int (nI par1), .int (nI fre1), .int (nI pri1), .int (nI sls1), .int (nI drk1), .int (nI pla1), .int (nI tks1)])), (g1, .inl (eI E, 6, .inl r1)), (g2, .inl (eI E, 6, .inl r2)), (g3, .inl (eI E, 6, .inl r3))] [(0, .ref hB), (1, .int (nI gr))] [] 0
  refine r_iload_n C (i := 1) 1 dX5_obeyGroup_0 rfl rfl ?_
  refine r_sipush C dX5_obeyGroup_1 ks_1000 ?_
  refine r_idiv (v := nI (gr / 1000)) C dX5_obeyGroup_4 (v_nz (by omega) (by omega)) (v_div (by omega) (by omega) (by omega)) ?_
  refine r_bipush C dX5_obeyGroup_5 kb_10 ?_
  refine r_irem (v := nI (four / 1000)) C dX5_obeyGroup_7 (v_nz (by omega) (by omega)) ((v_rem (by omega) (by omega) (by omega)).trans (congrArg nI (by omega))) ?_
  refine r_istore_n C (lv' := [(2, .int (nI (four / 1000))), (0, .ref hB), (1, .int (nI gr))]) dX5_obeyGroup_8 rfl (by decide) rfl ?_
  refine r_iload_n C (i := 1) 2 dX5_obeyGroup_9 rfl rfl ?_
  refine r_bipush C dX5_obeyGroup_10 kb_100 ?_
  refine r_idiv (v := nI (gr / 100)) C dX5_obeyGroup_12 (v_nz (by omega) (by omega)) (v_div (by omega) (by omega) (by omega)) ?_
  refine r_bipush C dX5_obeyGroup_13 kb_10 ?_
  refine r_irem (v := nI (four / 100 % 10)) C dX5_obeyGroup_15 (v_nz (by omega) (by omega)) ((v_rem (by omega) (by omega) (by omega)).trans (congrArg nI (by omega))) ?_
  refine r_istore_n C (lv' := [(3, .int (nI (four / 100 % 10))), (2, .int (nI (four / 1000))), (0, .ref hB), (1, .int (nI gr))]) dX5_obeyGroup_16 rfl (by decide) rfl ?_
  refine r_iload_n C (i := 1) 3 dX5_obeyGroup_17 rfl rfl ?_
  refine r_bipush C dX5_obeyGroup_18 kb_10 ?_
  refine r_idiv (v := nI (gr / 10)) C dX5_obeyGroup_20 (v_nz (by omega) (by omega)) (v_div (by omega) (by omega) (by omega)) ?_
  refine r_bipush C dX5_obeyGroup_21 kb_10 ?_
  refine r_irem (v := nI (four / 10 % 10)) C dX5_obeyGroup_23 (v_nz (by omega) (by omega)) ((v_rem (by omega) (by omega) (by omega)).trans (congrArg nI (by omega))) ?_
  refine r_istore C (lv' := [(4, .int (nI (four / 10 % 10))), (3, .int (nI (four / 100 % 10))), (2, .int (nI (four / 1000))), (0, .ref hB), (1, .int (nI gr))]) dX5_obeyGroup_24 (by decide) rfl ?_
  refine r_iload_n C (i := 1) 4 dX5_obeyGroup_26 rfl rfl ?_
  refine r_bipush C dX5_obeyGroup_27 kb_10 ?_
  refine r_irem (v := nI (four % 10)) C dX5_obeyGroup_29 (v_nz (by omega) (by omega)) ((v_rem (by omega) (by omega) (by omega)).trans (congrArg nI (by omega))) ?_
  refine r_istore C (lv' := [(5, .int (nI (four % 10))), (4, .int (nI (four / 10 % 10))), (3, .int (nI (four / 100 % 10))), (2, .int (nI (four / 1000))), (0, .ref hB), (1, .int (nI gr))]) dX5_obeyGroup_30 (by decide) rfl ?_
  refine r_iload_n C (i := 1) 5 dX5_obeyGroup_32 rfl rfl ?_
  refine r_sipush C dX5_obeyGroup_33 ks_10000 ?_
  refine r_idiv (v := nI 2) C dX5_obeyGroup_36 (v_nz (by omega) (by omega)) ((v_div (by omega) (by omega) (by omega)).trans (congrArg nI (by omega))) ?_
  refine r_tabIn (off := 69) C 106 dX5_obeyGroup_37 (by decide) (by decide) (by decide) (by decide) ?_
  refine r_iload C (i := 4) 1 dX5_obeyGroup_106 rfl ?_
  refine r_if_ne C (y := 0) (c9 := four / 10 % 10 ≠ 0) 132 dX5_obeyGroup_108 (by decide) (z_neN (by omega)) (fun h108_1 => ?_) (fun h108_1 => ?_)
  · refine r_iconst C dX5_obeyGroup_132 ki_0 ?_
    exact RT.1 _ _ _ _ _ dX5_obeyGroup_133 rfl nar_0 (⟨_, _, _, _, _, _, _, _, _, _, _, _, _, _, _, _, _, _, _, _, _, _, _, sv (cm_n (by show ¬ (four % 100 = 0 ∧ (four / 1000 < sP σ ∧ four / 100 % 10 < sA σ ∧ sC σ (four / 1000) < 4 ∧ rk σ (four / 1000) (four / 100 % 10) = 0)); omega)), rfl, (by show RepC (if four % 100 = 0 then tStudy σ (four / 1000) (four / 100 % 10) else σ) _; rw [if_neg (by omega)]; exact hR)⟩) rfl
  · refine r_iload C (i := 5) 0 dX5_obeyGroup_111 rfl ?_
    refine r_if_ne C (y := 0) (c9 := four % 10 ≠ 0) 132 dX5_obeyGroup_113 (by decide) (z_neN (by omega)) (fun h113_2 => ?_) (fun h113_2 => ?_)
    · refine r_iconst C dX5_obeyGroup_132 ki_0 ?_
      exact RT.1 _ _ _ _ _ dX5_obeyGroup_133 rfl nar_0 (⟨_, _, _, _, _, _, _, _, _, _, _, _, _, _, _, _, _, _, _, _, _, _, _, sv (cm_n (by show ¬ (four % 100 = 0 ∧ (four / 1000 < sP σ ∧ four / 100 % 10 < sA σ ∧ sC σ (four / 1000) < 4 ∧ rk σ (four / 1000) (four / 100 % 10) = 0)); omega)), rfl, (by show RepC (if four % 100 = 0 then tStudy σ (four / 1000) (four / 100 % 10) else σ) _; rw [if_neg (by omega)]; exact hR)⟩) rfl
    · refine r_aload_n C (i := 0) 4 dX5_obeyGroup_116 rfl rfl ?_
      refine r_get C 0 1 uX5 rfl rfl (by decide) w_1_130 rfl dX5_obeyGroup_117 ?_
      refine r_iload_n C (i := 2) 3 dX5_obeyGroup_120 rfl rfl ?_
      refine r_iload_n C (i := 3) 2 dX5_obeyGroup_121 rfl rfl ?_
      refine r_callV (rest := []) C (c_X4_addUnderstudy (h0 := b2) (q1 := c2) (f := f2) (σ := σ) (p := four / 1000) (a := four / 100 % 10) (hR := hR) (hW := hW) (hp := (by omega)) (ha := (by omega))) lk_X4_addUnderstudy w_3_67 [1, 2] rfl dX5_obeyGroup_122 rfl rfl rfl rfl ⟨by decide, by decide⟩ (Nat.le_of_ble_eq_true rfl) ?_
      rintro _ _ ⟨f_3, rfl, rfl, hR_4⟩
      have hW_5 : Wf (tStudy σ (four / 1000) (four / 100 % 10)) := tStudy_wf hW
      show ω [(hB, .inr (5, [.ref b1, .ref b2, .ref b3, .ref b4, .ref b5, .ref b6, .ref b7, .ref b8, .ref b9, .ref b10])), (b2, .inr (4, [.ref c2])), (c2, .inl (eI E, 265, .inl f_3)), (b7, .inr (0, [.ref e1, .ref e2, .ref e3, .int (nI par), .int (nI fre), .int (nI pri), .int (nI sls), .int (nI drk), .int (nI pla), .int (nI tks)])), (e1, .inl (eI E, 6, .inl t1)), (e2, .inl (eI E, 6, .inl t2)), (e3, .inl (eI E, 6, .inl t3)), (b9, .inr (3, [.ref b11, .int (nI sd), .int (nI st)])), (b11, .inr (0, [.ref g1, .ref g2, .ref g3, .int (nI par1), .int (nI fre1), .int (nI pri1), .int (nI sls1), .int (nI drk1), .int (nI pla1), .int (nI tks1)])), (g1, .inl (eI E, 6, .inl r1)), (g2, .inl (eI E, 6, .inl r2)), (g3, .inl (eI E, 6, .inl r3))] [(5, .int (nI (four % 10))), (4, .int (nI (four / 10 % 10))), (3, .int (nI (four / 100 % 10))), (2, .int (nI (four / 1000))), (0, .ref hB), (1, .int (nI gr))] [.int (bP ((four / 1000) < sP σ ∧ (four / 100 % 10) < sA σ ∧ sC σ (four / 1000) < 4 ∧ rk σ (four / 1000) (four / 100 % 10) = 0))] 125
      refine r_if_eq C (y := 0) (c9 := ¬ ((four / 1000) < sP σ ∧ (four / 100 % 10) < sA σ ∧ sC σ (four / 1000) < 4 ∧ rk σ (four / 1000) (four / 100 % 10) = 0)) 132 dX5_obeyGroup_125 (by decide) z_eqB (fun h125_6 => ?_) (fun h125_6 => ?_)
      · refine r_iconst C dX5_obeyGroup_132 ki_0 ?_
        exact RT.1 _ _ _ _ _ dX5_obeyGroup_133 rfl nar_0 (⟨_, _, _, _, _, _, _, _, _, _, _, _, _, _, _, _, _, _, _, _, _, _, _, sv (cm_n (by show ¬ (four % 100 = 0 ∧ (four / 1000 < sP σ ∧ four / 100 % 10 < sA σ ∧ sC σ (four / 1000) < 4 ∧ rk σ (four / 1000) (four / 100 % 10) = 0)); omega)), rfl, (by show RepC (if four % 100 = 0 then tStudy σ (four / 1000) (four / 100 % 10) else σ) _; rw [if_pos (by omega)]; exact hR_4)⟩) rfl
      · replace h125_6 : (four / 1000) < sP σ ∧ (four / 100 % 10) < sA σ ∧ sC σ (four / 1000) < 4 ∧ rk σ (four / 1000) (four / 100 % 10) = 0 := Decidable.not_not.mp h125_6
        refine r_iconst C dX5_obeyGroup_128 ki_1 ?_
        refine r_goto C 133 dX5_obeyGroup_129 (by decide) ?_
        exact RT.1 _ _ _ _ _ dX5_obeyGroup_133 rfl nar_1 (⟨_, _, _, _, _, _, _, _, _, _, _, _, _, _, _, _, _, _, _, _, _, _, _, sv (cm_y (by show four % 100 = 0 ∧ (four / 1000 < sP σ ∧ four / 100 % 10 < sA σ ∧ sC σ (four / 1000) < 4 ∧ rk σ (four / 1000) (four / 100 % 10) = 0); omega)), rfl, (by show RepC (if four % 100 = 0 then tStudy σ (four / 1000) (four / 100 % 10) else σ) _; rw [if_pos (by omega)]; exact hR_4)⟩) rfl
set_option maxRecDepth 100000 in
set_option maxHeartbeats 1000000 in
theorem c_X5_obeyGroup__3 {l : Launch} {E : Ev} {hB b1 b2 b3 b4 b5 b6 b7 b8 b9 b10 : Nat} {c2 b11 sd st : Nat} {f2 : Nat → Int32} {e1 e2 e3 par fre pri sls drk pla tks : Nat} {t1 t2 t3 : Nat → Int32} {g1 g2 g3 par1 fre1 pri1 sls1 drk1 pla1 tks1 : Nat} {r1 r2 r3 : Nat → Int32} {σ : Sg} (hR : RepC σ f2) (hW : Wf σ) {four gr : Nat} (hf : four < 10000) (hg : gr = 30000 + four) : Ct l E yX5_obeyGroup cX5_obeyGroup 6 (some FieldType.boolean) 5 118 [.ref hB, .int (nI gr)] [(hB, .inr (5, [.ref b1, .ref b2, .ref b3, .ref b4, .ref b5, .ref b6, .ref b7, .ref b8, .ref b9, .ref b10])), (b2, .inr (4, [.ref c2])), (c2, .inl (eI E, 265, .inl f2)), (b7, .inr (0, [.ref e1, .ref e2, .ref e3, .int (nI par), .int (nI fre), .int (nI pri), .int (nI sls), .int (nI drk), .int (nI pla), .int (nI tks)])), (e1, .inl (eI E, 6, .inl t1)), (e2, .inl (eI E, 6, .inl t2)), (e3, .inl (eI E, 6, .inl t3)), (b9, .inr (3, [.ref b11, .int (nI sd), .int (nI st)])), (b11, .inr (0, [.ref g1, .ref g2, .ref g3, .int (nI par1), .int (nI fre1), .int (nI pri1), .int (nI sls1), .int (nI drk1), .int (nI pla1), .int (nI tks1)])), (g1, .inl (eI E, 6, .inl r1)), (g2, .inl (eI E, 6, .inl r2)), (g3, .inl (eI E, 6, .inl r3))] (fun v9 w9 => ∃ (fx : Nat → Int32) (sd2 st2 par2 fre2 pri2 sls2 drk2 pla2 tks2 par12 fre12 pri12 sls12 drk12 pla12 tks12 : Nat) (ta tb tc ua ub uc : Nat → Int32), v9 = some (.int (nI (cmN σ 3 four))) ∧ w9 = [(hB, .inr (5, [.ref b1, .ref b2, .ref b3, .ref b4, .ref b5, .ref b6, .ref b7, .ref b8, .ref b9, .ref b10])), (b2, .inr (4, [.ref c2])), (c2, .inl (eI E, 265, .inl fx)), (b7, .inr (0, [.ref e1, .ref e2, .ref e3, .int (nI par2), .int (nI fre2), .int (nI pri2), .int (nI sls2), .int (nI drk2), .int (nI pla2), .int (nI tks2)])), (e1, .inl (eI E, 6, .inl ta)), (e2, .inl (eI E, 6, .inl tb)), (e3, .inl (eI E, 6, .inl tc)), (b9, .inr (3, [.ref b11, .int (nI sd2), .int (nI st2)])), (b11, .inr (0, [.ref g1, .ref g2, .ref g3, .int (nI par12), .int (nI fre12), .int (nI pri12), .int (nI sls12), .int (nI drk12), .int (nI pla12), .int (nI tks12)])), (g1, .inl (eI E, 6, .inl ua)), (g2, .inl (eI E, 6, .inl ub)), (g3, .inl (eI E, 6, .inl uc))] ∧ RepC (cmS σ 3 four) fx) := by
  have hwP := hW.P
  have hwA := hW.A
  have hwS := hW.S
  refine ct_of (by decide +kernel) (Nat.le_of_ble_eq_true rfl) (fun ω C RT => ?_)
  show ω [(hB, .inr (5, [.ref b1, .ref b2, .ref b3, .ref b4, .ref b5, .ref b6, .ref b7, .ref b8, .ref b9, .ref b10])), (b2, .inr (4, [.ref c2])), (c2, .inl (eI E, 265, .inl f2)), (b7, .inr (0, [.ref e1, .ref e2, .ref e3, .int (nI par), .int (nI fre), .int (nI pri), .int (nI sls), .int (nI drk), .int (nI pla), .int (nI tks)])), (e1, .inl (eI E, 6, .inl t1)), (e2, .inl (eI E, 6, .inl t2)), (e3, .inl (eI E, 6, .inl t3)), (b9, .inr (3, [.ref b11, .int (nI sd), .int (nI st)])), (b11, .inr (0, [.ref g1, .ref g2, .ref g3, .int (nI par1), .int (nI fre1), .int (nI pri1), .int (nI sls1), .int (nI drk1), .int (nI pla1), .int (nI tks1)])), (g1, .inl (eI E, 6, .inl r1)), (g2, .inl (eI E, 6, .inl r2)), (g3, .inl (eI E, 6, .inl r3))] [(0, .ref hB), (1, .int (nI gr))] [] 0
  refine r_iload_n C (i := 1) 1 dX5_obeyGroup_0 rfl rfl ?_
  refine r_sipush C dX5_obeyGroup_1 ks_1000 ?_
  refine r_idiv (v := nI (gr / 1000)) C dX5_obeyGroup_4 (v_nz (by omega) (by omega)) (v_div (by omega) (by omega) (by omega)) ?_
  refine r_bipush C dX5_obeyGroup_5 kb_10 ?_
  refine r_irem (v := nI (four / 1000)) C dX5_obeyGroup_7 (v_nz (by omega) (by omega)) ((v_rem (by omega) (by omega) (by omega)).trans (congrArg nI (by omega))) ?_
  refine r_istore_n C (lv' := [(2, .int (nI (four / 1000))), (0, .ref hB), (1, .int (nI gr))]) dX5_obeyGroup_8 rfl (by decide) rfl ?_
  refine r_iload_n C (i := 1) 2 dX5_obeyGroup_9 rfl rfl ?_
  refine r_bipush C dX5_obeyGroup_10 kb_100 ?_
  refine r_idiv (v := nI (gr / 100)) C dX5_obeyGroup_12 (v_nz (by omega) (by omega)) (v_div (by omega) (by omega) (by omega)) ?_
  refine r_bipush C dX5_obeyGroup_13 kb_10 ?_
  refine r_irem (v := nI (four / 100 % 10)) C dX5_obeyGroup_15 (v_nz (by omega) (by omega)) ((v_rem (by omega) (by omega) (by omega)).trans (congrArg nI (by omega))) ?_
  refine r_istore_n C (lv' := [(3, .int (nI (four / 100 % 10))), (2, .int (nI (four / 1000))), (0, .ref hB), (1, .int (nI gr))]) dX5_obeyGroup_16 rfl (by decide) rfl ?_
  refine r_iload_n C (i := 1) 3 dX5_obeyGroup_17 rfl rfl ?_
  refine r_bipush C dX5_obeyGroup_18 kb_10 ?_
  refine r_idiv (v := nI (gr / 10)) C dX5_obeyGroup_20 (v_nz (by omega) (by omega)) (v_div (by omega) (by omega) (by omega)) ?_
  refine r_bipush C dX5_obeyGroup_21 kb_10 ?_
  refine r_irem (v := nI (four / 10 % 10)) C dX5_obeyGroup_23 (v_nz (by omega) (by omega)) ((v_rem (by omega) (by omega) (by omega)).trans (congrArg nI (by omega))) ?_
  refine r_istore C (lv' := [(4, .int (nI (four / 10 % 10))), (3, .int (nI (four / 100 % 10))), (2, .int (nI (four / 1000))), (0, .ref hB), (1, .int (nI gr))]) dX5_obeyGroup_24 (by decide) rfl ?_
  refine r_iload_n C (i := 1) 4 dX5_obeyGroup_26 rfl rfl ?_
  refine r_bipush C dX5_obeyGroup_27 kb_10 ?_
  refine r_irem (v := nI (four % 10)) C dX5_obeyGroup_29 (v_nz (by omega) (by omega)) ((v_rem (by omega) (by omega) (by omega)).trans (congrArg nI (by omega))) ?_
  refine r_istore C (lv' := [(5, .int (nI (four % 10))), (4, .int (nI (four / 10 % 10))), (3, .int (nI (four / 100 % 10))), (2, .int (nI (four / 1000))), (0, .ref hB), (1, .int (nI gr))]) dX5_obeyGroup_30 (by decide) rfl ?_
  refine r_iload_n C (i := 1) 5 dX5_obeyGroup_32 rfl rfl ?_
  refine r_sipush C dX5_obeyGroup_33 ks_10000 ?_
  refine r_idiv (v := nI 3) C dX5_obeyGroup_36 (v_nz (by omega) (by omega)) ((v_div (by omega) (by omega) (by omega)).trans (congrArg nI (by omega))) ?_
  refine r_tabIn (off := 97) C 134 dX5_obeyGroup_37 (by decide) (by decide) (by decide) (by decide) ?_
  refine r_iload C (i := 4) 1 dX5_obeyGroup_134 rfl ?_
  refine r_if_ne C (y := 0) (c9 := four / 10 % 10 ≠ 0) 160 dX5_obeyGroup_136 (by decide) (z_neN (by omega)) (fun h136_1 => ?_) (fun h136_1 => ?_)
  · refine r_iconst C dX5_obeyGroup_160 ki_0 ?_
    exact RT.1 _ _ _ _ _ dX5_obeyGroup_161 rfl nar_0 (⟨_, _, _, _, _, _, _, _, _, _, _, _, _, _, _, _, _, _, _, _, _, _, _, sv (cm_n (by show ¬ (four % 100 = 0 ∧ (four / 1000 < sP σ ∧ four / 100 % 10 < sA σ ∧ rk σ (four / 1000) (four / 100 % 10) ≠ 0)); omega)), rfl, (by show RepC (if four % 100 = 0 then tRel σ (four / 1000) (four / 100 % 10) else σ) _; rw [if_neg (by omega)]; exact hR)⟩) rfl
  · refine r_iload C (i := 5) 0 dX5_obeyGroup_139 rfl ?_
    refine r_if_ne C (y := 0) (c9 := four % 10 ≠ 0) 160 dX5_obeyGroup_141 (by decide) (z_neN (by omega)) (fun h141_2 => ?_) (fun h141_2 => ?_)
    · refine r_iconst C dX5_obeyGroup_160 ki_0 ?_
      exact RT.1 _ _ _ _ _ dX5_obeyGroup_161 rfl nar_0 (⟨_, _, _, _, _, _, _, _, _, _, _, _, _, _, _, _, _, _, _, _, _, _, _, sv (cm_n (by show ¬ (four % 100 = 0 ∧ (four / 1000 < sP σ ∧ four / 100 % 10 < sA σ ∧ rk σ (four / 1000) (four / 100 % 10) ≠ 0)); omega)), rfl, (by show RepC (if four % 100 = 0 then tRel σ (four / 1000) (four / 100 % 10) else σ) _; rw [if_neg (by omega)]; exact hR)⟩) rfl
    · refine r_aload_n C (i := 0) 4 dX5_obeyGroup_144 rfl rfl ?_
      refine r_get C 0 1 uX5 rfl rfl (by decide) w_1_130 rfl dX5_obeyGroup_145 ?_
      refine r_iload_n C (i := 2) 3 dX5_obeyGroup_148 rfl rfl ?_
      refine r_iload_n C (i := 3) 2 dX5_obeyGroup_149 rfl rfl ?_
      refine r_callV (rest := []) C (c_X4_dropUnderstudy (h0 := b2) (q1 := c2) (f := f2) (σ := σ) (p := four / 1000) (a := four / 100 % 10) (hR := hR) (hW := hW) (hp := (by omega)) (ha := (by omega))) lk_X4_dropUnderstudy w_4_114 [1, 2] rfl dX5_obeyGroup_150 rfl rfl rfl rfl ⟨by decide, by decide⟩ (Nat.le_of_ble_eq_true rfl) ?_
      rintro _ _ ⟨f_3, rfl, rfl, hR_4⟩
      have hW_5 : Wf (tRel σ (four / 1000) (four / 100 % 10)) := tRel_wf hW
      show ω [(hB, .inr (5, [.ref b1, .ref b2, .ref b3, .ref b4, .ref b5, .ref b6, .ref b7, .ref b8, .ref b9, .ref b10])), (b2, .inr (4, [.ref c2])), (c2, .inl (eI E, 265, .inl f_3)), (b7, .inr (0, [.ref e1, .ref e2, .ref e3, .int (nI par), .int (nI fre), .int (nI pri), .int (nI sls), .int (nI drk), .int (nI pla), .int (nI tks)])), (e1, .inl (eI E, 6, .inl t1)), (e2, .inl (eI E, 6, .inl t2)), (e3, .inl (eI E, 6, .inl t3)), (b9, .inr (3, [.ref b11, .int (nI sd), .int (nI st)])), (b11, .inr (0, [.ref g1, .ref g2, .ref g3, .int (nI par1), .int (nI fre1), .int (nI pri1), .int (nI sls1), .int (nI drk1), .int (nI pla1), .int (nI tks1)])), (g1, .inl (eI E, 6, .inl r1)), (g2, .inl (eI E, 6, .inl r2)), (g3, .inl (eI E, 6, .inl r3))] [(5, .int (nI (four % 10))), (4, .int (nI (four / 10 % 10))), (3, .int (nI (four / 100 % 10))), (2, .int (nI (four / 1000))), (0, .ref hB), (1, .int (nI gr))] [.int (bP ((four / 1000) < sP σ ∧ (four / 100 % 10) < sA σ ∧ rk σ (four / 1000) (four / 100 % 10) ≠ 0))] 153
      refine r_if_eq C (y := 0) (c9 := ¬ ((four / 1000) < sP σ ∧ (four / 100 % 10) < sA σ ∧ rk σ (four / 1000) (four / 100 % 10) ≠ 0)) 160 dX5_obeyGroup_153 (by decide) z_eqB (fun h153_6 => ?_) (fun h153_6 => ?_)
      · refine r_iconst C dX5_obeyGroup_160 ki_0 ?_
        exact RT.1 _ _ _ _ _ dX5_obeyGroup_161 rfl nar_0 (⟨_, _, _, _, _, _, _, _, _, _, _, _, _, _, _, _, _, _, _, _, _, _, _, sv (cm_n (by show ¬ (four % 100 = 0 ∧ (four / 1000 < sP σ ∧ four / 100 % 10 < sA σ ∧ rk σ (four / 1000) (four / 100 % 10) ≠ 0)); omega)), rfl, (by show RepC (if four % 100 = 0 then tRel σ (four / 1000) (four / 100 % 10) else σ) _; rw [if_pos (by omega)]; exact hR_4)⟩) rfl
      · replace h153_6 : (four / 1000) < sP σ ∧ (four / 100 % 10) < sA σ ∧ rk σ (four / 1000) (four / 100 % 10) ≠ 0 := Decidable.not_not.mp h153_6
        refine r_iconst C dX5_obeyGroup_156 ki_1 ?_
        refine r_goto C 161 dX5_obeyGroup_157 (by decide) ?_
        exact RT.1 _ _ _ _ _ dX5_obeyGroup_161 rfl nar_1 (⟨_, _, _, _, _, _, _, _, _, _, _, _, _, _, _, _, _, _, _, _, _, _, _, sv (cm_y (by show four % 100 = 0 ∧ (four / 1000 < sP σ ∧ four / 100 % 10 < sA σ ∧ rk σ (four / 1000) (four / 100 % 10) ≠ 0); omega)), rfl, (by show RepC (if four % 100 = 0 then tRel σ (four / 1000) (four / 100 % 10) else σ) _; rw [if_pos (by omega)]; exact hR_4)⟩) rfl
set_option maxRecDepth 100000 in
set_option maxHeartbeats 1000000 in
theorem c_X5_obeyGroup__4 {l : Launch} {E : Ev} {hB b1 b2 b3 b4 b5 b6 b7 b8 b9 b10 : Nat} {c2 b11 sd st : Nat} {f2 : Nat → Int32} {e1 e2 e3 par fre pri sls drk pla tks : Nat} {t1 t2 t3 : Nat → Int32} {g1 g2 g3 par1 fre1 pri1 sls1 drk1 pla1 tks1 : Nat} {r1 r2 r3 : Nat → Int32} {σ : Sg} (hR : RepC σ f2) (hW : Wf σ) {four gr : Nat} (hf : four < 10000) (hg : gr = 40000 + four) : Ct l E yX5_obeyGroup cX5_obeyGroup 6 (some FieldType.boolean) 5 118 [.ref hB, .int (nI gr)] [(hB, .inr (5, [.ref b1, .ref b2, .ref b3, .ref b4, .ref b5, .ref b6, .ref b7, .ref b8, .ref b9, .ref b10])), (b2, .inr (4, [.ref c2])), (c2, .inl (eI E, 265, .inl f2)), (b7, .inr (0, [.ref e1, .ref e2, .ref e3, .int (nI par), .int (nI fre), .int (nI pri), .int (nI sls), .int (nI drk), .int (nI pla), .int (nI tks)])), (e1, .inl (eI E, 6, .inl t1)), (e2, .inl (eI E, 6, .inl t2)), (e3, .inl (eI E, 6, .inl t3)), (b9, .inr (3, [.ref b11, .int (nI sd), .int (nI st)])), (b11, .inr (0, [.ref g1, .ref g2, .ref g3, .int (nI par1), .int (nI fre1), .int (nI pri1), .int (nI sls1), .int (nI drk1), .int (nI pla1), .int (nI tks1)])), (g1, .inl (eI E, 6, .inl r1)), (g2, .inl (eI E, 6, .inl r2)), (g3, .inl (eI E, 6, .inl r3))] (fun v9 w9 => ∃ (fx : Nat → Int32) (sd2 st2 par2 fre2 pri2 sls2 drk2 pla2 tks2 par12 fre12 pri12 sls12 drk12 pla12 tks12 : Nat) (ta tb tc ua ub uc : Nat → Int32), v9 = some (.int (nI (cmN σ 4 four))) ∧ w9 = [(hB, .inr (5, [.ref b1, .ref b2, .ref b3, .ref b4, .ref b5, .ref b6, .ref b7, .ref b8, .ref b9, .ref b10])), (b2, .inr (4, [.ref c2])), (c2, .inl (eI E, 265, .inl fx)), (b7, .inr (0, [.ref e1, .ref e2, .ref e3, .int (nI par2), .int (nI fre2), .int (nI pri2), .int (nI sls2), .int (nI drk2), .int (nI pla2), .int (nI tks2)])), (e1, .inl (eI E, 6, .inl ta)), (e2, .inl (eI E, 6, .inl tb)), (e3, .inl (eI E, 6, .inl tc)), (b9, .inr (3, [.ref b11, .int (nI sd2), .int (nI st2)])), (b11, .inr (0, [.ref g1, .ref g2, .ref g3, .int (nI par12), .int (nI fre12), .int (nI pri12), .int (nI sls12), .int (nI drk12), .int (nI pla12), .int (nI tks12)])), (g1, .inl (eI E, 6, .inl ua)), (g2, .inl (eI E, 6, .inl ub)), (g3, .inl (eI E, 6, .inl uc))] ∧ RepC (cmS σ 4 four) fx) := by
  have hwP := hW.P
  have hwA := hW.A
  have hwS := hW.S
  refine ct_of (by decide +kernel) (Nat.le_of_ble_eq_true rfl) (fun ω C RT => ?_)
  show ω [(hB, .inr (5, [.ref b1, .ref b2, .ref b3, .ref b4, .ref b5, .ref b6, .ref b7, .ref b8, .ref b9, .ref b10])), (b2, .inr (4, [.ref c2])), (c2, .inl (eI E, 265, .inl f2)), (b7, .inr (0, [.ref e1, .ref e2, .ref e3, .int (nI par), .int (nI fre), .int (nI pri), .int (nI sls), .int (nI drk), .int (nI pla), .int (nI tks)])), (e1, .inl (eI E, 6, .inl t1)), (e2, .inl (eI E, 6, .inl t2)), (e3, .inl (eI E, 6, .inl t3)), (b9, .inr (3, [.ref b11, .int (nI sd), .int (nI st)])), (b11, .inr (0, [.ref g1, .ref g2, .ref g3, .int (nI par1), .int (nI fre1), .int (nI pri1), .int (nI sls1), .int (nI drk1), .int (nI pla1), .int (nI tks1)])), (g1, .inl (eI E, 6, .inl r1)), (g2, .inl (eI E, 6, .inl r2)), (g3, .inl (eI E, 6, .inl r3))] [(0, .ref hB), (1, .int (nI gr))] [] 0
  refine r_iload_n C (i := 1) 1 dX5_obeyGroup_0 rfl rfl ?_
  refine r_sipush C dX5_obeyGroup_1 ks_1000 ?_
  refine r_idiv (v := nI (gr / 1000)) C dX5_obeyGroup_4 (v_nz (by omega) (by omega)) (v_div (by omega) (by omega) (by omega)) ?_
  refine r_bipush C dX5_obeyGroup_5 kb_10 ?_
  refine r_irem (v := nI (four / 1000)) C dX5_obeyGroup_7 (v_nz (by omega) (by omega)) ((v_rem (by omega) (by omega) (by omega)).trans (congrArg nI (by omega))) ?_
  refine r_istore_n C (lv' := [(2, .int (nI (four / 1000))), (0, .ref hB), (1, .int (nI gr))]) dX5_obeyGroup_8 rfl (by decide) rfl ?_
  refine r_iload_n C (i := 1) 2 dX5_obeyGroup_9 rfl rfl ?_
  refine r_bipush C dX5_obeyGroup_10 kb_100 ?_
  refine r_idiv (v := nI (gr / 100)) C dX5_obeyGroup_12 (v_nz (by omega) (by omega)) (v_div (by omega) (by omega) (by omega)) ?_
  refine r_bipush C dX5_obeyGroup_13 kb_10 ?_
  refine r_irem (v := nI (four / 100 % 10)) C dX5_obeyGroup_15 (v_nz (by omega) (by omega)) ((v_rem (by omega) (by omega) (by omega)).trans (congrArg nI (by omega))) ?_
  refine r_istore_n C (lv' := [(3, .int (nI (four / 100 % 10))), (2, .int (nI (four / 1000))), (0, .ref hB), (1, .int (nI gr))]) dX5_obeyGroup_16 rfl (by decide) rfl ?_
  refine r_iload_n C (i := 1) 3 dX5_obeyGroup_17 rfl rfl ?_
  refine r_bipush C dX5_obeyGroup_18 kb_10 ?_
  refine r_idiv (v := nI (gr / 10)) C dX5_obeyGroup_20 (v_nz (by omega) (by omega)) (v_div (by omega) (by omega) (by omega)) ?_
  refine r_bipush C dX5_obeyGroup_21 kb_10 ?_
  refine r_irem (v := nI (four / 10 % 10)) C dX5_obeyGroup_23 (v_nz (by omega) (by omega)) ((v_rem (by omega) (by omega) (by omega)).trans (congrArg nI (by omega))) ?_
  refine r_istore C (lv' := [(4, .int (nI (four / 10 % 10))), (3, .int (nI (four / 100 % 10))), (2, .int (nI (four / 1000))), (0, .ref hB), (1, .int (nI gr))]) dX5_obeyGroup_24 (by decide) rfl ?_
  refine r_iload_n C (i := 1) 4 dX5_obeyGroup_26 rfl rfl ?_
  refine r_bipush C dX5_obeyGroup_27 kb_10 ?_
  refine r_irem (v := nI (four % 10)) C dX5_obeyGroup_29 (v_nz (by omega) (by omega)) ((v_rem (by omega) (by omega) (by omega)).trans (congrArg nI (by omega))) ?_
  refine r_istore C (lv' := [(5, .int (nI (four % 10))), (4, .int (nI (four / 10 % 10))), (3, .int (nI (four / 100 % 10))), (2, .int (nI (four / 1000))), (0, .ref hB), (1, .int (nI gr))]) dX5_obeyGroup_30 (by decide) rfl ?_
  refine r_iload_n C (i := 1) 5 dX5_obeyGroup_32 rfl rfl ?_
  refine r_sipush C dX5_obeyGroup_33 ks_10000 ?_
  refine r_idiv (v := nI 4) C dX5_obeyGroup_36 (v_nz (by omega) (by omega)) ((v_div (by omega) (by omega) (by omega)).trans (congrArg nI (by omega))) ?_
  refine r_tabIn (off := 125) C 162 dX5_obeyGroup_37 (by decide) (by decide) (by decide) (by decide) ?_
  refine r_iload C (i := 5) 0 dX5_obeyGroup_162 rfl ?_
  refine r_iconst C dX5_obeyGroup_164 ki_1 ?_
  refine r_icmp_gt C (c9 := 1 < four % 10) 201 dX5_obeyGroup_165 (by decide) (c_ltNN (by omega) (by omega)) (fun h165_1 => ?_) (fun h165_1 => ?_)
  · refine r_iconst C dX5_obeyGroup_201 ki_0 ?_
    exact RT.1 _ _ _ _ _ dX5_obeyGroup_202 rfl nar_0 (⟨_, _, _, _, _, _, _, _, _, _, _, _, _, _, _, _, _, _, _, _, _, _, _, sv (cm_n (by show ¬ (four % 10 < 2 ∧ (four / 1000 < sA σ ∧ four / 10 % 100 < 20)); omega)), rfl, (by show RepC (if four % 10 < 2 then tIll σ (four / 1000) (four / 10 % 100) (four % 10) else σ) _; rw [if_neg (by omega)]; exact hR)⟩) rfl
  · refine r_aload_n C (i := 0) 4 dX5_obeyGroup_168 rfl rfl ?_
    refine r_get C 0 1 uX5 rfl rfl (by decide) w_1_130 rfl dX5_obeyGroup_169 ?_
    refine r_iload_n C (i := 2) 3 dX5_obeyGroup_172 rfl rfl ?_
    refine r_bipush C dX5_obeyGroup_173 kb_10 ?_
    refine r_iload_n C (i := 3) 2 dX5_obeyGroup_175 rfl rfl ?_
    refine r_imul (v := nI (10 * (four / 100 % 10))) C dX5_obeyGroup_176 (pk_mul _ _) ?_
    refine r_iload C (i := 4) 1 dX5_obeyGroup_177 rfl ?_
    refine r_iadd (v := nI (four / 10 % 100)) C dX5_obeyGroup_179 ((nI_add _ _).trans (congrArg nI (by omega))) ?_
    refine r_iload C (i := 5) 0 dX5_obeyGroup_180 rfl ?_
    refine r_iconst C dX5_obeyGroup_182 ki_1 ?_
    refine r_icmp_ne C (c9 := four % 10 ≠ 1) 190 dX5_obeyGroup_183 (by decide) (c_neNN (by omega) (by omega)) (fun h183_2 => ?_) (fun h183_2 => ?_)
    · refine r_iconst C dX5_obeyGroup_190 ki_0 ?_
      refine r_callV (rest := []) C (c_X4_changeIllness (h0 := b2) (q1 := c2) (f := f2) (σ := σ) (a := four / 1000) (n := four / 10 % 100) (b := 0) (hR := hR) (hW := hW) (ha := (by omega)) (hn := (by omega)) (hb := (by omega))) lk_X4_changeIllness w_2_36 [1, 2] rfl dX5_obeyGroup_191 rfl rfl rfl rfl ⟨by decide, by decide⟩ (Nat.le_of_ble_eq_true rfl) ?_
      rintro _ _ ⟨f_3, rfl, rfl, hR_4⟩
      have hW_5 : Wf (tIll σ (four / 1000) (four / 10 % 100) 0) := tIll_wf hW (by omega)
      show ω [(hB, .inr (5, [.ref b1, .ref b2, .ref b3, .ref b4, .ref b5, .ref b6, .ref b7, .ref b8, .ref b9, .ref b10])), (b2, .inr (4, [.ref c2])), (c2, .inl (eI E, 265, .inl f_3)), (b7, .inr (0, [.ref e1, .ref e2, .ref e3, .int (nI par), .int (nI fre), .int (nI pri), .int (nI sls), .int (nI drk), .int (nI pla), .int (nI tks)])), (e1, .inl (eI E, 6, .inl t1)), (e2, .inl (eI E, 6, .inl t2)), (e3, .inl (eI E, 6, .inl t3)), (b9, .inr (3, [.ref b11, .int (nI sd), .int (nI st)])), (b11, .inr (0, [.ref g1, .ref g2, .ref g3, .int (nI par1), .int (nI fre1), .int (nI pri1), .int (nI sls1), .int (nI drk1), .int (nI pla1), .int (nI tks1)])), (g1, .inl (eI E, 6, .inl r1)), (g2, .inl (eI E, 6, .inl r2)), (g3, .inl (eI E, 6, .inl r3))] [(5, .int (nI (four % 10))), (4, .int (nI (four / 10 % 10))), (3, .int (nI (four / 100 % 10))), (2, .int (nI (four / 1000))), (0, .ref hB), (1, .int (nI gr))] [.int (bP ((four / 1000) < sA σ ∧ (four / 10 % 100) < 20))] 194
      refine r_if_eq C (y := 0) (c9 := ¬ ((four / 1000) < sA σ ∧ (four / 10 % 100) < 20)) 201 dX5_obeyGroup_194 (by decide) z_eqB (fun h194_6 => ?_) (fun h194_6 => ?_)
      · refine r_iconst C dX5_obeyGroup_201 ki_0 ?_
        exact RT.1 _ _ _ _ _ dX5_obeyGroup_202 rfl nar_0 (⟨_, _, _, _, _, _, _, _, _, _, _, _, _, _, _, _, _, _, _, _, _, _, _, sv (cm_n (by show ¬ (four % 10 < 2 ∧ (four / 1000 < sA σ ∧ four / 10 % 100 < 20)); omega)), rfl, (by show RepC (if four % 10 < 2 then tIll σ (four / 1000) (four / 10 % 100) (four % 10) else σ) _; rw [if_pos (by omega), show four % 10 = 0 from by omega]; exact hR_4)⟩) rfl
      · replace h194_6 : (four / 1000) < sA σ ∧ (four / 10 % 100) < 20 := Decidable.not_not.mp h194_6
        refine r_iconst C dX5_obeyGroup_197 ki_1 ?_
        refine r_goto C 202 dX5_obeyGroup_198 (by decide) ?_
        exact RT.1 _ _ _ _ _ dX5_obeyGroup_202 rfl nar_1 (⟨_, _, _, _, _, _, _, _, _, _, _, _, _, _, _, _, _, _, _, _, _, _, _, sv (cm_y (by show four % 10 < 2 ∧ (four / 1000 < sA σ ∧ four / 10 % 100 < 20); omega)), rfl, (by show RepC (if four % 10 < 2 then tIll σ (four / 1000) (four / 10 % 100) (four % 10) else σ) _; rw [if_pos (by omega), show four % 10 = 0 from by omega]; exact hR_4)⟩) rfl
    · refine r_iconst C dX5_obeyGroup_186 ki_1 ?_
      refine r_goto C 191 dX5_obeyGroup_187 (by decide) ?_
      refine r_callV (rest := []) C (c_X4_changeIllness (h0 := b2) (q1 := c2) (f := f2) (σ := σ) (a := four / 1000) (n := four / 10 % 100) (b := 1) (hR := hR) (hW := hW) (ha := (by omega)) (hn := (by omega)) (hb := (by omega))) lk_X4_changeIllness w_2_36 [1, 2] rfl dX5_obeyGroup_191 rfl rfl rfl rfl ⟨by decide, by decide⟩ (Nat.le_of_ble_eq_true rfl) ?_
      rintro _ _ ⟨f_7, rfl, rfl, hR_8⟩
      have hW_9 : Wf (tIll σ (four / 1000) (four / 10 % 100) 1) := tIll_wf hW (by omega)
      show ω [(hB, .inr (5, [.ref b1, .ref b2, .ref b3, .ref b4, .ref b5, .ref b6, .ref b7, .ref b8, .ref b9, .ref b10])), (b2, .inr (4, [.ref c2])), (c2, .inl (eI E, 265, .inl f_7)), (b7, .inr (0, [.ref e1, .ref e2, .ref e3, .int (nI par), .int (nI fre), .int (nI pri), .int (nI sls), .int (nI drk), .int (nI pla), .int (nI tks)])), (e1, .inl (eI E, 6, .inl t1)), (e2, .inl (eI E, 6, .inl t2)), (e3, .inl (eI E, 6, .inl t3)), (b9, .inr (3, [.ref b11, .int (nI sd), .int (nI st)])), (b11, .inr (0, [.ref g1, .ref g2, .ref g3, .int (nI par1), .int (nI fre1), .int (nI pri1), .int (nI sls1), .int (nI drk1), .int (nI pla1), .int (nI tks1)])), (g1, .inl (eI E, 6, .inl r1)), (g2, .inl (eI E, 6, .inl r2)), (g3, .inl (eI E, 6, .inl r3))] [(5, .int (nI (four % 10))), (4, .int (nI (four / 10 % 10))), (3, .int (nI (four / 100 % 10))), (2, .int (nI (four / 1000))), (0, .ref hB), (1, .int (nI gr))] [.int (bP ((four / 1000) < sA σ ∧ (four / 10 % 100) < 20))] 194
      refine r_if_eq C (y := 0) (c9 := ¬ ((four / 1000) < sA σ ∧ (four / 10 % 100) < 20)) 201 dX5_obeyGroup_194 (by decide) z_eqB (fun h194_10 => ?_) (fun h194_10 => ?_)
      · refine r_iconst C dX5_obeyGroup_201 ki_0 ?_
        exact RT.1 _ _ _ _ _ dX5_obeyGroup_202 rfl nar_0 (⟨_, _, _, _, _, _, _, _, _, _, _, _, _, _, _, _, _, _, _, _, _, _, _, sv (cm_n (by show ¬ (four % 10 < 2 ∧ (four / 1000 < sA σ ∧ four / 10 % 100 < 20)); omega)), rfl, (by show RepC (if four % 10 < 2 then tIll σ (four / 1000) (four / 10 % 100) (four % 10) else σ) _; rw [if_pos (by omega), show four % 10 = 1 from by omega]; exact hR_8)⟩) rfl
      · replace h194_10 : (four / 1000) < sA σ ∧ (four / 10 % 100) < 20 := Decidable.not_not.mp h194_10
        refine r_iconst C dX5_obeyGroup_197 ki_1 ?_
        refine r_goto C 202 dX5_obeyGroup_198 (by decide) ?_
        exact RT.1 _ _ _ _ _ dX5_obeyGroup_202 rfl nar_1 (⟨_, _, _, _, _, _, _, _, _, _, _, _, _, _, _, _, _, _, _, _, _, _, _, sv (cm_y (by show four % 10 < 2 ∧ (four / 1000 < sA σ ∧ four / 10 % 100 < 20); omega)), rfl, (by show RepC (if four % 10 < 2 then tIll σ (four / 1000) (four / 10 % 100) (four % 10) else σ) _; rw [if_pos (by omega), show four % 10 = 1 from by omega]; exact hR_8)⟩) rfl
set_option maxRecDepth 100000 in
set_option maxHeartbeats 1000000 in
theorem c_X5_obeyGroup__5 {l : Launch} {E : Ev} {hB b1 b2 b3 b4 b5 b6 b7 b8 b9 b10 : Nat} {c2 b11 sd st : Nat} {f2 : Nat → Int32} {e1 e2 e3 par fre pri sls drk pla tks : Nat} {t1 t2 t3 : Nat → Int32} {g1 g2 g3 par1 fre1 pri1 sls1 drk1 pla1 tks1 : Nat} {r1 r2 r3 : Nat → Int32} {σ : Sg} (hR : RepC σ f2) (hW : Wf σ) {four gr : Nat} (hf : four < 10000) (hg : gr = 50000 + four) : Ct l E yX5_obeyGroup cX5_obeyGroup 6 (some FieldType.boolean) 5 118 [.ref hB, .int (nI gr)] [(hB, .inr (5, [.ref b1, .ref b2, .ref b3, .ref b4, .ref b5, .ref b6, .ref b7, .ref b8, .ref b9, .ref b10])), (b2, .inr (4, [.ref c2])), (c2, .inl (eI E, 265, .inl f2)), (b7, .inr (0, [.ref e1, .ref e2, .ref e3, .int (nI par), .int (nI fre), .int (nI pri), .int (nI sls), .int (nI drk), .int (nI pla), .int (nI tks)])), (e1, .inl (eI E, 6, .inl t1)), (e2, .inl (eI E, 6, .inl t2)), (e3, .inl (eI E, 6, .inl t3)), (b9, .inr (3, [.ref b11, .int (nI sd), .int (nI st)])), (b11, .inr (0, [.ref g1, .ref g2, .ref g3, .int (nI par1), .int (nI fre1), .int (nI pri1), .int (nI sls1), .int (nI drk1), .int (nI pla1), .int (nI tks1)])), (g1, .inl (eI E, 6, .inl r1)), (g2, .inl (eI E, 6, .inl r2)), (g3, .inl (eI E, 6, .inl r3))] (fun v9 w9 => ∃ (fx : Nat → Int32) (sd2 st2 par2 fre2 pri2 sls2 drk2 pla2 tks2 par12 fre12 pri12 sls12 drk12 pla12 tks12 : Nat) (ta tb tc ua ub uc : Nat → Int32), v9 = some (.int (nI (cmN σ 5 four))) ∧ w9 = [(hB, .inr (5, [.ref b1, .ref b2, .ref b3, .ref b4, .ref b5, .ref b6, .ref b7, .ref b8, .ref b9, .ref b10])), (b2, .inr (4, [.ref c2])), (c2, .inl (eI E, 265, .inl fx)), (b7, .inr (0, [.ref e1, .ref e2, .ref e3, .int (nI par2), .int (nI fre2), .int (nI pri2), .int (nI sls2), .int (nI drk2), .int (nI pla2), .int (nI tks2)])), (e1, .inl (eI E, 6, .inl ta)), (e2, .inl (eI E, 6, .inl tb)), (e3, .inl (eI E, 6, .inl tc)), (b9, .inr (3, [.ref b11, .int (nI sd2), .int (nI st2)])), (b11, .inr (0, [.ref g1, .ref g2, .ref g3, .int (nI par12), .int (nI fre12), .int (nI pri12), .int (nI sls12), .int (nI drk12), .int (nI pla12), .int (nI tks12)])), (g1, .inl (eI E, 6, .inl ua)), (g2, .inl (eI E, 6, .inl ub)), (g3, .inl (eI E, 6, .inl uc))] ∧ RepC (cmS σ 5 four) fx) := by
  have hwP := hW.P
  have hwA := hW.A
  have hwS := hW.S
  refine ct_of (by decide +kernel) (Nat.le_of_ble_eq_true rfl) (fun ω C RT => ?_)
  show ω [(hB, .inr (5, [.ref b1, .ref b2, .ref b3, .ref b4, .ref b5, .ref b6, .ref b7, .ref b8, .ref b9, .ref b10])), (b2, .inr (4, [.ref c2])), (c2, .inl (eI E, 265, .inl f2)), (b7, .inr (0, [.ref e1, .ref e2, .ref e3, .int (nI par), .int (nI fre), .int (nI pri), .int (nI sls), .int (nI drk), .int (nI pla), .int (nI tks)])), (e1, .inl (eI E, 6, .inl t1)), (e2, .inl (eI E, 6, .inl t2)), (e3, .inl (eI E, 6, .inl t3)), (b9, .inr (3, [.ref b11, .int (nI sd), .int (nI st)])), (b11, .inr (0, [.ref g1, .ref g2, .ref g3, .int (nI par1), .int (nI fre1), .int (nI pri1), .int (nI sls1), .int (nI drk1), .int (nI pla1), .int (nI tks1)])), (g1, .inl (eI E, 6, .inl r1)), (g2, .inl (eI E, 6, .inl r2)), (g3, .inl (eI E, 6, .inl r3))] [(0, .ref hB), (1, .int (nI gr))] [] 0
  refine r_iload_n C (i := 1) 1 dX5_obeyGroup_0 rfl rfl ?_
  refine r_sipush C dX5_obeyGroup_1 ks_1000 ?_
  refine r_idiv (v := nI (gr / 1000)) C dX5_obeyGroup_4 (v_nz (by omega) (by omega)) (v_div (by omega) (by omega) (by omega)) ?_
  refine r_bipush C dX5_obeyGroup_5 kb_10 ?_
  refine r_irem (v := nI (four / 1000)) C dX5_obeyGroup_7 (v_nz (by omega) (by omega)) ((v_rem (by omega) (by omega) (by omega)).trans (congrArg nI (by omega))) ?_
  refine r_istore_n C (lv' := [(2, .int (nI (four / 1000))), (0, .ref hB), (1, .int (nI gr))]) dX5_obeyGroup_8 rfl (by decide) rfl ?_
  refine r_iload_n C (i := 1) 2 dX5_obeyGroup_9 rfl rfl ?_
  refine r_bipush C dX5_obeyGroup_10 kb_100 ?_
  refine r_idiv (v := nI (gr / 100)) C dX5_obeyGroup_12 (v_nz (by omega) (by omega)) (v_div (by omega) (by omega) (by omega)) ?_
  refine r_bipush C dX5_obeyGroup_13 kb_10 ?_
  refine r_irem (v := nI (four / 100 % 10)) C dX5_obeyGroup_15 (v_nz (by omega) (by omega)) ((v_rem (by omega) (by omega) (by omega)).trans (congrArg nI (by omega))) ?_
  refine r_istore_n C (lv' := [(3, .int (nI (four / 100 % 10))), (2, .int (nI (four / 1000))), (0, .ref hB), (1, .int (nI gr))]) dX5_obeyGroup_16 rfl (by decide) rfl ?_
  refine r_iload_n C (i := 1) 3 dX5_obeyGroup_17 rfl rfl ?_
  refine r_bipush C dX5_obeyGroup_18 kb_10 ?_
  refine r_idiv (v := nI (gr / 10)) C dX5_obeyGroup_20 (v_nz (by omega) (by omega)) (v_div (by omega) (by omega) (by omega)) ?_
  refine r_bipush C dX5_obeyGroup_21 kb_10 ?_
  refine r_irem (v := nI (four / 10 % 10)) C dX5_obeyGroup_23 (v_nz (by omega) (by omega)) ((v_rem (by omega) (by omega) (by omega)).trans (congrArg nI (by omega))) ?_
  refine r_istore C (lv' := [(4, .int (nI (four / 10 % 10))), (3, .int (nI (four / 100 % 10))), (2, .int (nI (four / 1000))), (0, .ref hB), (1, .int (nI gr))]) dX5_obeyGroup_24 (by decide) rfl ?_
  refine r_iload_n C (i := 1) 4 dX5_obeyGroup_26 rfl rfl ?_
  refine r_bipush C dX5_obeyGroup_27 kb_10 ?_
  refine r_irem (v := nI (four % 10)) C dX5_obeyGroup_29 (v_nz (by omega) (by omega)) ((v_rem (by omega) (by omega) (by omega)).trans (congrArg nI (by omega))) ?_
  refine r_istore C (lv' := [(5, .int (nI (four % 10))), (4, .int (nI (four / 10 % 10))), (3, .int (nI (four / 100 % 10))), (2, .int (nI (four / 1000))), (0, .ref hB), (1, .int (nI gr))]) dX5_obeyGroup_30 (by decide) rfl ?_
  refine r_iload_n C (i := 1) 5 dX5_obeyGroup_32 rfl rfl ?_
  refine r_sipush C dX5_obeyGroup_33 ks_10000 ?_
  refine r_idiv (v := nI 5) C dX5_obeyGroup_36 (v_nz (by omega) (by omega)) ((v_div (by omega) (by omega) (by omega)).trans (congrArg nI (by omega))) ?_
  refine r_tabIn (off := 166) C 203 dX5_obeyGroup_37 (by decide) (by decide) (by decide) (by decide) ?_
  refine r_aload_n C (i := 0) 4 dX5_obeyGroup_203 rfl rfl ?_
  refine r_get C 0 1 uX5 rfl rfl (by decide) w_1_130 rfl dX5_obeyGroup_204 ?_
  refine r_bipush C dX5_obeyGroup_207 kb_10 ?_
  refine r_iload_n C (i := 2) 3 dX5_obeyGroup_209 rfl rfl ?_
  refine r_imul (v := nI (10 * (four / 1000))) C dX5_obeyGroup_210 (pk_mul _ _) ?_
  refine r_iload_n C (i := 3) 2 dX5_obeyGroup_211 rfl rfl ?_
  refine r_iadd (v := nI (four / 100)) C dX5_obeyGroup_212 ((nI_add _ _).trans (congrArg nI (by omega))) ?_
  refine r_iload C (i := 4) 1 dX5_obeyGroup_213 rfl ?_
  refine r_iload C (i := 5) 0 dX5_obeyGroup_215 rfl ?_
  refine r_bipush C dX5_obeyGroup_217 kb_12 ?_
  refine r_callV (rest := []) C (c_X4_addSlip (h0 := b2) (q1 := c2) (f := f2) (σ := σ) (n := four / 100) (p := four / 10 % 10) (a := four % 10) (x := 12) (hR := hR) (hW := hW) (hn := (by omega)) (hp := (by omega)) (ha := (by omega)) (hx := (by omega))) lk_X4_addSlip w_3_81 [1, 2] rfl dX5_obeyGroup_219 rfl rfl rfl rfl ⟨by decide, by decide⟩ (Nat.le_of_ble_eq_true rfl) ?_
  rintro _ _ ⟨f_1, rfl, rfl, hR_2⟩
  have hW_3 : Wf (tSlip σ (four / 100) (four / 10 % 10) (four % 10) 12) := tSlip_wf hW
  show ω [(hB, .inr (5, [.ref b1, .ref b2, .ref b3, .ref b4, .ref b5, .ref b6, .ref b7, .ref b8, .ref b9, .ref b10])), (b2, .inr (4, [.ref c2])), (c2, .inl (eI E, 265, .inl f_1)), (b7, .inr (0, [.ref e1, .ref e2, .ref e3, .int (nI par), .int (nI fre), .int (nI pri), .int (nI sls), .int (nI drk), .int (nI pla), .int (nI tks)])), (e1, .inl (eI E, 6, .inl t1)), (e2, .inl (eI E, 6, .inl t2)), (e3, .inl (eI E, 6, .inl t3)), (b9, .inr (3, [.ref b11, .int (nI sd), .int (nI st)])), (b11, .inr (0, [.ref g1, .ref g2, .ref g3, .int (nI par1), .int (nI fre1), .int (nI pri1), .int (nI sls1), .int (nI drk1), .int (nI pla1), .int (nI tks1)])), (g1, .inl (eI E, 6, .inl r1)), (g2, .inl (eI E, 6, .inl r2)), (g3, .inl (eI E, 6, .inl r3))] [(5, .int (nI (four % 10))), (4, .int (nI (four / 10 % 10))), (3, .int (nI (four / 100 % 10))), (2, .int (nI (four / 1000))), (0, .ref hB), (1, .int (nI gr))] [.int (bP ((four / 100) < 20 ∧ (four / 10 % 10) < sP σ ∧ (four % 10) < sA σ ∧ 12 < 24 ∧ sS σ < 20))] 222
  exact RT.1 _ _ _ _ _ dX5_obeyGroup_222 rfl nar_B (⟨_, _, _, _, _, _, _, _, _, _, _, _, _, _, _, _, _, _, _, _, _, _, _, sv (bP_cm (by show _ ↔ four / 100 < 20 ∧ four / 10 % 10 < sP σ ∧ four % 10 < sA σ ∧ 12 < 24 ∧ sS σ < 20; omega)), rfl, (by show RepC (tSlip σ (four / 100) (four / 10 % 10) (four % 10) 12) _; exact hR_2)⟩) rfl
set_option maxRecDepth 100000 in
set_option maxHeartbeats 1000000 in
theorem c_X5_obeyGroup__6 {l : Launch} {E : Ev} {hB b1 b2 b3 b4 b5 b6 b7 b8 b9 b10 : Nat} {c2 b11 sd st : Nat} {f2 : Nat → Int32} {e1 e2 e3 par fre pri sls drk pla tks : Nat} {t1 t2 t3 : Nat → Int32} {g1 g2 g3 par1 fre1 pri1 sls1 drk1 pla1 tks1 : Nat} {r1 r2 r3 : Nat → Int32} {σ : Sg} (hR : RepC σ f2) (hW : Wf σ) {four gr : Nat} (hf : four < 10000) (hg : gr = 60000 + four) : Ct l E yX5_obeyGroup cX5_obeyGroup 6 (some FieldType.boolean) 5 118 [.ref hB, .int (nI gr)] [(hB, .inr (5, [.ref b1, .ref b2, .ref b3, .ref b4, .ref b5, .ref b6, .ref b7, .ref b8, .ref b9, .ref b10])), (b2, .inr (4, [.ref c2])), (c2, .inl (eI E, 265, .inl f2)), (b7, .inr (0, [.ref e1, .ref e2, .ref e3, .int (nI par), .int (nI fre), .int (nI pri), .int (nI sls), .int (nI drk), .int (nI pla), .int (nI tks)])), (e1, .inl (eI E, 6, .inl t1)), (e2, .inl (eI E, 6, .inl t2)), (e3, .inl (eI E, 6, .inl t3)), (b9, .inr (3, [.ref b11, .int (nI sd), .int (nI st)])), (b11, .inr (0, [.ref g1, .ref g2, .ref g3, .int (nI par1), .int (nI fre1), .int (nI pri1), .int (nI sls1), .int (nI drk1), .int (nI pla1), .int (nI tks1)])), (g1, .inl (eI E, 6, .inl r1)), (g2, .inl (eI E, 6, .inl r2)), (g3, .inl (eI E, 6, .inl r3))] (fun v9 w9 => ∃ (fx : Nat → Int32) (sd2 st2 par2 fre2 pri2 sls2 drk2 pla2 tks2 par12 fre12 pri12 sls12 drk12 pla12 tks12 : Nat) (ta tb tc ua ub uc : Nat → Int32), v9 = some (.int (nI (cmN σ 6 four))) ∧ w9 = [(hB, .inr (5, [.ref b1, .ref b2, .ref b3, .ref b4, .ref b5, .ref b6, .ref b7, .ref b8, .ref b9, .ref b10])), (b2, .inr (4, [.ref c2])), (c2, .inl (eI E, 265, .inl fx)), (b7, .inr (0, [.ref e1, .ref e2, .ref e3, .int (nI par2), .int (nI fre2), .int (nI pri2), .int (nI sls2), .int (nI drk2), .int (nI pla2), .int (nI tks2)])), (e1, .inl (eI E, 6, .inl ta)), (e2, .inl (eI E, 6, .inl tb)), (e3, .inl (eI E, 6, .inl tc)), (b9, .inr (3, [.ref b11, .int (nI sd2), .int (nI st2)])), (b11, .inr (0, [.ref g1, .ref g2, .ref g3, .int (nI par12), .int (nI fre12), .int (nI pri12), .int (nI sls12), .int (nI drk12), .int (nI pla12), .int (nI tks12)])), (g1, .inl (eI E, 6, .inl ua)), (g2, .inl (eI E, 6, .inl ub)), (g3, .inl (eI E, 6, .inl uc))] ∧ RepC (cmS σ 6 four) fx) := by
  have hwP := hW.P
  have hwA := hW.A
  have hwS := hW.S
  refine ct_of (by decide +kernel) (Nat.le_of_ble_eq_true rfl) (fun ω C RT => ?_)
  show ω [(hB, .inr (5, [.ref b1, .ref b2, .ref b3, .ref b4, .ref b5, .ref b6, .ref b7, .ref b8, .ref b9, .ref b10])), (b2, .inr (4, [.ref c2])), (c2, .inl (eI E, 265, .inl f2)), (b7, .inr (0, [.ref e1, .ref e2, .ref e3, .int (nI par), .int (nI fre), .int (nI pri), .int (nI sls), .int (nI drk), .int (nI pla), .int (nI tks)])), (e1, .inl (eI E, 6, .inl t1)), (e2, .inl (eI E, 6, .inl t2)), (e3, .inl (eI E, 6, .inl t3)), (b9, .inr (3, [.ref b11, .int (nI sd), .int (nI st)])), (b11, .inr (0, [.ref g1, .ref g2, .ref g3, .int (nI par1), .int (nI fre1), .int (nI pri1), .int (nI sls1), .int (nI drk1), .int (nI pla1), .int (nI tks1)])), (g1, .inl (eI E, 6, .inl r1)), (g2, .inl (eI E, 6, .inl r2)), (g3, .inl (eI E, 6, .inl r3))] [(0, .ref hB), (1, .int (nI gr))] [] 0
  refine r_iload_n C (i := 1) 1 dX5_obeyGroup_0 rfl rfl ?_
  refine r_sipush C dX5_obeyGroup_1 ks_1000 ?_
  refine r_idiv (v := nI (gr / 1000)) C dX5_obeyGroup_4 (v_nz (by omega) (by omega)) (v_div (by omega) (by omega) (by omega)) ?_
  refine r_bipush C dX5_obeyGroup_5 kb_10 ?_
  refine r_irem (v := nI (four / 1000)) C dX5_obeyGroup_7 (v_nz (by omega) (by omega)) ((v_rem (by omega) (by omega) (by omega)).trans (congrArg nI (by omega))) ?_
  refine r_istore_n C (lv' := [(2, .int (nI (four / 1000))), (0, .ref hB), (1, .int (nI gr))]) dX5_obeyGroup_8 rfl (by decide) rfl ?_
  refine r_iload_n C (i := 1) 2 dX5_obeyGroup_9 rfl rfl ?_
  refine r_bipush C dX5_obeyGroup_10 kb_100 ?_
  refine r_idiv (v := nI (gr / 100)) C dX5_obeyGroup_12 (v_nz (by omega) (by omega)) (v_div (by omega) (by omega) (by omega)) ?_
  refine r_bipush C dX5_obeyGroup_13 kb_10 ?_
  refine r_irem (v := nI (four / 100 % 10)) C dX5_obeyGroup_15 (v_nz (by omega) (by omega)) ((v_rem (by omega) (by omega) (by omega)).trans (congrArg nI (by omega))) ?_
  refine r_istore_n C (lv' := [(3, .int (nI (four / 100 % 10))), (2, .int (nI (four / 1000))), (0, .ref hB), (1, .int (nI gr))]) dX5_obeyGroup_16 rfl (by decide) rfl ?_
  refine r_iload_n C (i := 1) 3 dX5_obeyGroup_17 rfl rfl ?_
  refine r_bipush C dX5_obeyGroup_18 kb_10 ?_
  refine r_idiv (v := nI (gr / 10)) C dX5_obeyGroup_20 (v_nz (by omega) (by omega)) (v_div (by omega) (by omega) (by omega)) ?_
  refine r_bipush C dX5_obeyGroup_21 kb_10 ?_
  refine r_irem (v := nI (four / 10 % 10)) C dX5_obeyGroup_23 (v_nz (by omega) (by omega)) ((v_rem (by omega) (by omega) (by omega)).trans (congrArg nI (by omega))) ?_
  refine r_istore C (lv' := [(4, .int (nI (four / 10 % 10))), (3, .int (nI (four / 100 % 10))), (2, .int (nI (four / 1000))), (0, .ref hB), (1, .int (nI gr))]) dX5_obeyGroup_24 (by decide) rfl ?_
  refine r_iload_n C (i := 1) 4 dX5_obeyGroup_26 rfl rfl ?_
  refine r_bipush C dX5_obeyGroup_27 kb_10 ?_
  refine r_irem (v := nI (four % 10)) C dX5_obeyGroup_29 (v_nz (by omega) (by omega)) ((v_rem (by omega) (by omega) (by omega)).trans (congrArg nI (by omega))) ?_
  refine r_istore C (lv' := [(5, .int (nI (four % 10))), (4, .int (nI (four / 10 % 10))), (3, .int (nI (four / 100 % 10))), (2, .int (nI (four / 1000))), (0, .ref hB), (1, .int (nI gr))]) dX5_obeyGroup_30 (by decide) rfl ?_
  refine r_iload_n C (i := 1) 5 dX5_obeyGroup_32 rfl rfl ?_
  refine r_sipush C dX5_obeyGroup_33 ks_10000 ?_
  refine r_idiv (v := nI 6) C dX5_obeyGroup_36 (v_nz (by omega) (by omega)) ((v_div (by omega) (by omega) (by omega)).trans (congrArg nI (by omega))) ?_
  refine r_tabIn (off := 186) C 223 dX5_obeyGroup_37 (by decide) (by decide) (by decide) (by decide) ?_
  refine r_iload C (i := 4) 1 dX5_obeyGroup_223 rfl ?_
  refine r_if_ne C (y := 0) (c9 := four / 10 % 10 ≠ 0) 253 dX5_obeyGroup_225 (by decide) (z_neN (by omega)) (fun h225_1 => ?_) (fun h225_1 => ?_)
  · refine r_iconst C dX5_obeyGroup_253 ki_0 ?_
    exact RT.1 _ _ _ _ _ dX5_obeyGroup_254 rfl nar_0 (⟨_, _, _, _, _, _, _, _, _, _, _, _, _, _, _, _, _, _, _, _, _, _, _, sv (cm_n (by show ¬ (four % 100 = 0 ∧ four / 100 < sS σ); omega)), rfl, (by show RepC (if four % 100 = 0 then tLose σ (four / 100) else σ) _; rw [if_neg (by omega)]; exact hR)⟩) rfl
  · refine r_iload C (i := 5) 0 dX5_obeyGroup_228 rfl ?_
    refine r_if_ne C (y := 0) (c9 := four % 10 ≠ 0) 253 dX5_obeyGroup_230 (by decide) (z_neN (by omega)) (fun h230_2 => ?_) (fun h230_2 => ?_)
    · refine r_iconst C dX5_obeyGroup_253 ki_0 ?_
      exact RT.1 _ _ _ _ _ dX5_obeyGroup_254 rfl nar_0 (⟨_, _, _, _, _, _, _, _, _, _, _, _, _, _, _, _, _, _, _, _, _, _, _, sv (cm_n (by show ¬ (four % 100 = 0 ∧ four / 100 < sS σ); omega)), rfl, (by show RepC (if four % 100 = 0 then tLose σ (four / 100) else σ) _; rw [if_neg (by omega)]; exact hR)⟩) rfl
    · refine r_aload_n C (i := 0) 4 dX5_obeyGroup_233 rfl rfl ?_
      refine r_get C 0 1 uX5 rfl rfl (by decide) w_1_130 rfl dX5_obeyGroup_234 ?_
      refine r_bipush C dX5_obeyGroup_237 kb_10 ?_
      refine r_iload_n C (i := 2) 3 dX5_obeyGroup_239 rfl rfl ?_
      refine r_imul (v := nI (10 * (four / 1000))) C dX5_obeyGroup_240 (pk_mul _ _) ?_
      refine r_iload_n C (i := 3) 2 dX5_obeyGroup_241 rfl rfl ?_
      refine r_iadd (v := nI (four / 100)) C dX5_obeyGroup_242 ((nI_add _ _).trans (congrArg nI (by omega))) ?_
      refine r_callV (rest := []) C (c_X4_dropSlip (h0 := b2) (q1 := c2) (f := f2) (σ := σ) (k := four / 100) (hR := hR) (hW := hW) (hk := (by omega))) lk_X4_dropSlip w_4_142 [1, 2] rfl dX5_obeyGroup_243 rfl rfl rfl rfl ⟨by decide, by decide⟩ (Nat.le_of_ble_eq_true rfl) ?_
      rintro _ _ ⟨f_3, rfl, rfl, hR_4⟩
      have hW_5 : Wf (tLose σ (four / 100)) := tLose_wf hW
      show ω [(hB, .inr (5, [.ref b1, .ref b2, .ref b3, .ref b4, .ref b5, .ref b6, .ref b7, .ref b8, .ref b9, .ref b10])), (b2, .inr (4, [.ref c2])), (c2, .inl (eI E, 265, .inl f_3)), (b7, .inr (0, [.ref e1, .ref e2, .ref e3, .int (nI par), .int (nI fre), .int (nI pri), .int (nI sls), .int (nI drk), .int (nI pla), .int (nI tks)])), (e1, .inl (eI E, 6, .inl t1)), (e2, .inl (eI E, 6, .inl t2)), (e3, .inl (eI E, 6, .inl t3)), (b9, .inr (3, [.ref b11, .int (nI sd), .int (nI st)])), (b11, .inr (0, [.ref g1, .ref g2, .ref g3, .int (nI par1), .int (nI fre1), .int (nI pri1), .int (nI sls1), .int (nI drk1), .int (nI pla1), .int (nI tks1)])), (g1, .inl (eI E, 6, .inl r1)), (g2, .inl (eI E, 6, .inl r2)), (g3, .inl (eI E, 6, .inl r3))] [(5, .int (nI (four % 10))), (4, .int (nI (four / 10 % 10))), (3, .int (nI (four / 100 % 10))), (2, .int (nI (four / 1000))), (0, .ref hB), (1, .int (nI gr))] [.int (bP ((four / 100) < sS σ))] 246
      refine r_if_eq C (y := 0) (c9 := ¬ ((four / 100) < sS σ)) 253 dX5_obeyGroup_246 (by decide) z_eqB (fun h246_6 => ?_) (fun h246_6 => ?_)
      · refine r_iconst C dX5_obeyGroup_253 ki_0 ?_
        exact RT.1 _ _ _ _ _ dX5_obeyGroup_254 rfl nar_0 (⟨_, _, _, _, _, _, _, _, _, _, _, _, _, _, _, _, _, _, _, _, _, _, _, sv (cm_n (by show ¬ (four % 100 = 0 ∧ four / 100 < sS σ); omega)), rfl, (by show RepC (if four % 100 = 0 then tLose σ (four / 100) else σ) _; rw [if_pos (by omega)]; exact hR_4)⟩) rfl
      · replace h246_6 : (four / 100) < sS σ := Decidable.not_not.mp h246_6
        refine r_iconst C dX5_obeyGroup_249 ki_1 ?_
        refine r_goto C 254 dX5_obeyGroup_250 (by decide) ?_
        exact RT.1 _ _ _ _ _ dX5_obeyGroup_254 rfl nar_1 (⟨_, _, _, _, _, _, _, _, _, _, _, _, _, _, _, _, _, _, _, _, _, _, _, sv (cm_y (by show four % 100 = 0 ∧ four / 100 < sS σ; omega)), rfl, (by show RepC (if four % 100 = 0 then tLose σ (four / 100) else σ) _; rw [if_pos (by omega)]; exact hR_4)⟩) rfl
set_option maxRecDepth 100000 in
set_option maxHeartbeats 1000000 in
theorem c_X5_obeyGroup__7 {l : Launch} {E : Ev} {hB b1 b2 b3 b4 b5 b6 b7 b8 b9 b10 : Nat} {c2 b11 sd st : Nat} {f2 : Nat → Int32} {e1 e2 e3 par fre pri sls drk pla tks : Nat} {t1 t2 t3 : Nat → Int32} {g1 g2 g3 par1 fre1 pri1 sls1 drk1 pla1 tks1 : Nat} {r1 r2 r3 : Nat → Int32} {σ : Sg} (hR : RepC σ f2) (hW : Wf σ) {four gr : Nat} (hf : four < 10000) (hg : gr = 70000 + four) : Ct l E yX5_obeyGroup cX5_obeyGroup 6 (some FieldType.boolean) 5 118 [.ref hB, .int (nI gr)] [(hB, .inr (5, [.ref b1, .ref b2, .ref b3, .ref b4, .ref b5, .ref b6, .ref b7, .ref b8, .ref b9, .ref b10])), (b2, .inr (4, [.ref c2])), (c2, .inl (eI E, 265, .inl f2)), (b7, .inr (0, [.ref e1, .ref e2, .ref e3, .int (nI par), .int (nI fre), .int (nI pri), .int (nI sls), .int (nI drk), .int (nI pla), .int (nI tks)])), (e1, .inl (eI E, 6, .inl t1)), (e2, .inl (eI E, 6, .inl t2)), (e3, .inl (eI E, 6, .inl t3)), (b9, .inr (3, [.ref b11, .int (nI sd), .int (nI st)])), (b11, .inr (0, [.ref g1, .ref g2, .ref g3, .int (nI par1), .int (nI fre1), .int (nI pri1), .int (nI sls1), .int (nI drk1), .int (nI pla1), .int (nI tks1)])), (g1, .inl (eI E, 6, .inl r1)), (g2, .inl (eI E, 6, .inl r2)), (g3, .inl (eI E, 6, .inl r3))] (fun v9 w9 => ∃ (fx : Nat → Int32) (sd2 st2 par2 fre2 pri2 sls2 drk2 pla2 tks2 par12 fre12 pri12 sls12 drk12 pla12 tks12 : Nat) (ta tb tc ua ub uc : Nat → Int32), v9 = some (.int (nI (cmN σ 7 four))) ∧ w9 = [(hB, .inr (5, [.ref b1, .ref b2, .ref b3, .ref b4, .ref b5, .ref b6, .ref b7, .ref b8, .ref b9, .ref b10])), (b2, .inr (4, [.ref c2])), (c2, .inl (eI E, 265, .inl fx)), (b7, .inr (0, [.ref e1, .ref e2, .ref e3, .int (nI par2), .int (nI fre2), .int (nI pri2), .int (nI sls2), .int (nI drk2), .int (nI pla2), .int (nI tks2)])), (e1, .inl (eI E, 6, .inl ta)), (e2, .inl (eI E, 6, .inl tb)), (e3, .inl (eI E, 6, .inl tc)), (b9, .inr (3, [.ref b11, .int (nI sd2), .int (nI st2)])), (b11, .inr (0, [.ref g1, .ref g2, .ref g3, .int (nI par12), .int (nI fre12), .int (nI pri12), .int (nI sls12), .int (nI drk12), .int (nI pla12), .int (nI tks12)])), (g1, .inl (eI E, 6, .inl ua)), (g2, .inl (eI E, 6, .inl ub)), (g3, .inl (eI E, 6, .inl uc))] ∧ RepC (cmS σ 7 four) fx) := by
  have hwP := hW.P
  have hwA := hW.A
  have hwS := hW.S
  refine ct_of (by decide +kernel) (Nat.le_of_ble_eq_true rfl) (fun ω C RT => ?_)
  show ω [(hB, .inr (5, [.ref b1, .ref b2, .ref b3, .ref b4, .ref b5, .ref b6, .ref b7, .ref b8, .ref b9, .ref b10])), (b2, .inr (4, [.ref c2])), (c2, .inl (eI E, 265, .inl f2)), (b7, .inr (0, [.ref e1, .ref e2, .ref e3, .int (nI par), .int (nI fre), .int (nI pri), .int (nI sls), .int (nI drk), .int (nI pla), .int (nI tks)])), (e1, .inl (eI E, 6, .inl t1)), (e2, .inl (eI E, 6, .inl t2)), (e3, .inl (eI E, 6, .inl t3)), (b9, .inr (3, [.ref b11, .int (nI sd), .int (nI st)])), (b11, .inr (0, [.ref g1, .ref g2, .ref g3, .int (nI par1), .int (nI fre1), .int (nI pri1), .int (nI sls1), .int (nI drk1), .int (nI pla1), .int (nI tks1)])), (g1, .inl (eI E, 6, .inl r1)), (g2, .inl (eI E, 6, .inl r2)), (g3, .inl (eI E, 6, .inl r3))] [(0, .ref hB), (1, .int (nI gr))] [] 0
  refine r_iload_n C (i := 1) 1 dX5_obeyGroup_0 rfl rfl ?_
  refine r_sipush C dX5_obeyGroup_1 ks_1000 ?_
  refine r_idiv (v := nI (gr / 1000)) C dX5_obeyGroup_4 (v_nz (by omega) (by omega)) (v_div (by omega) (by omega) (by omega)) ?_
  refine r_bipush C dX5_obeyGroup_5 kb_10 ?_
  refine r_irem (v := nI (four / 1000)) C dX5_obeyGroup_7 (v_nz (by omega) (by omega)) ((v_rem (by omega) (by omega) (by omega)).trans (congrArg nI (by omega))) ?_
  refine r_istore_n C (lv' := [(2, .int (nI (four / 1000))), (0, .ref hB), (1, .int (nI gr))]) dX5_obeyGroup_8 rfl (by decide) rfl ?_
  refine r_iload_n C (i := 1) 2 dX5_obeyGroup_9 rfl rfl ?_
  refine r_bipush C dX5_obeyGroup_10 kb_100 ?_
  refine r_idiv (v := nI (gr / 100)) C dX5_obeyGroup_12 (v_nz (by omega) (by omega)) (v_div (by omega) (by omega) (by omega)) ?_
  refine r_bipush C dX5_obeyGroup_13 kb_10 ?_
  refine r_irem (v := nI (four / 100 % 10)) C dX5_obeyGroup_15 (v_nz (by omega) (by omega)) ((v_rem (by omega) (by omega) (by omega)).trans (congrArg nI (by omega))) ?_
  refine r_istore_n C (lv' := [(3, .int (nI (four / 100 % 10))), (2, .int (nI (four / 1000))), (0, .ref hB), (1, .int (nI gr))]) dX5_obeyGroup_16 rfl (by decide) rfl ?_
  refine r_iload_n C (i := 1) 3 dX5_obeyGroup_17 rfl rfl ?_
  refine r_bipush C dX5_obeyGroup_18 kb_10 ?_
  refine r_idiv (v := nI (gr / 10)) C dX5_obeyGroup_20 (v_nz (by omega) (by omega)) (v_div (by omega) (by omega) (by omega)) ?_
  refine r_bipush C dX5_obeyGroup_21 kb_10 ?_
  refine r_irem (v := nI (four / 10 % 10)) C dX5_obeyGroup_23 (v_nz (by omega) (by omega)) ((v_rem (by omega) (by omega) (by omega)).trans (congrArg nI (by omega))) ?_
  refine r_istore C (lv' := [(4, .int (nI (four / 10 % 10))), (3, .int (nI (four / 100 % 10))), (2, .int (nI (four / 1000))), (0, .ref hB), (1, .int (nI gr))]) dX5_obeyGroup_24 (by decide) rfl ?_
  refine r_iload_n C (i := 1) 4 dX5_obeyGroup_26 rfl rfl ?_
  refine r_bipush C dX5_obeyGroup_27 kb_10 ?_
  refine r_irem (v := nI (four % 10)) C dX5_obeyGroup_29 (v_nz (by omega) (by omega)) ((v_rem (by omega) (by omega) (by omega)).trans (congrArg nI (by omega))) ?_
  refine r_istore C (lv' := [(5, .int (nI (four % 10))), (4, .int (nI (four / 10 % 10))), (3, .int (nI (four / 100 % 10))), (2, .int (nI (four / 1000))), (0, .ref hB), (1, .int (nI gr))]) dX5_obeyGroup_30 (by decide) rfl ?_
  refine r_iload_n C (i := 1) 5 dX5_obeyGroup_32 rfl rfl ?_
  refine r_sipush C dX5_obeyGroup_33 ks_10000 ?_
  refine r_idiv (v := nI 7) C dX5_obeyGroup_36 (v_nz (by omega) (by omega)) ((v_div (by omega) (by omega) (by omega)).trans (congrArg nI (by omega))) ?_
  refine r_tabIn (off := 218) C 255 dX5_obeyGroup_37 (by decide) (by decide) (by decide) (by decide) ?_
  refine r_aload_n C (i := 0) 4 dX5_obeyGroup_255 rfl rfl ?_
  refine r_bipush C dX5_obeyGroup_256 kb_10 ?_
  refine r_iload_n C (i := 2) 3 dX5_obeyGroup_258 rfl rfl ?_
  refine r_imul (v := nI (10 * (four / 1000))) C dX5_obeyGroup_259 (pk_mul _ _) ?_
  refine r_iload_n C (i := 3) 2 dX5_obeyGroup_260 rfl rfl ?_
  refine r_iadd (v := nI (four / 100)) C dX5_obeyGroup_261 ((nI_add _ _).trans (congrArg nI (by omega))) ?_
  refine r_iload C (i := 4) 1 dX5_obeyGroup_262 rfl ?_
  refine r_iload C (i := 5) 0 dX5_obeyGroup_264 rfl ?_
  refine r_callV (rest := []) C (c_X5_playsInTrial (hB := hB) (b1 := b1) (b2 := b2) (b3 := b3) (b4 := b4) (b5 := b5) (b6 := b6) (b7 := b7) (b8 := b8) (b9 := b9) (b10 := b10) (c2 := c2) (f2 := f2) (e1 := e1) (e2 := e2) (e3 := e3) (par := par) (fre := fre) (pri := pri) (sls := sls) (drk := drk) (pla := pla) (tks := tks) (t1 := t1) (t2 := t2) (t3 := t3) (σ := σ) (n := four / 100) (p := four / 10 % 10) (x := four % 10) (hR := hR) (hW := hW) (hn := (by omega)) (hp := (by omega)) (hx := (by omega))) lk_X5_playsInTrial w_5_8 [0, 1, 2, 3, 4, 5, 6] rfl dX5_obeyGroup_266 rfl rfl rfl rfl ⟨by decide, by decide⟩ (Nat.le_of_ble_eq_true rfl) ?_
  rintro _ _ ⟨par_1, fre_2, pri_3, sls_4, drk_5, pla_6, tks_7, ta_8, tb_9, tc_10, rfl, rfl⟩
  show ω [(hB, .inr (5, [.ref b1, .ref b2, .ref b3, .ref b4, .ref b5, .ref b6, .ref b7, .ref b8, .ref b9, .ref b10])), (b2, .inr (4, [.ref c2])), (c2, .inl (eI E, 265, .inl f2)), (b7, .inr (0, [.ref e1, .ref e2, .ref e3, .int (nI par_1), .int (nI fre_2), .int (nI pri_3), .int (nI sls_4), .int (nI drk_5), .int (nI pla_6), .int (nI tks_7)])), (e1, .inl (eI E, 6, .inl ta_8)), (e2, .inl (eI E, 6, .inl tb_9)), (e3, .inl (eI E, 6, .inl tc_10)), (b9, .inr (3, [.ref b11, .int (nI sd), .int (nI st)])), (b11, .inr (0, [.ref g1, .ref g2, .ref g3, .int (nI par1), .int (nI fre1), .int (nI pri1), .int (nI sls1), .int (nI drk1), .int (nI pla1), .int (nI tks1)])), (g1, .inl (eI E, 6, .inl r1)), (g2, .inl (eI E, 6, .inl r2)), (g3, .inl (eI E, 6, .inl r3))] [(5, .int (nI (four % 10))), (4, .int (nI (four / 10 % 10))), (3, .int (nI (four / 100 % 10))), (2, .int (nI (four / 1000))), (0, .ref hB), (1, .int (nI gr))] [.int (bP ((four / 100) < 20 ∧ (four / 10 % 10) < sP σ ∧ (four % 10) < sA σ ∧ pT σ (four / 100) (four / 10 % 10) = (four % 10) + 1))] 269
  exact RT.1 _ _ _ _ _ dX5_obeyGroup_269 rfl nar_B (⟨_, _, _, _, _, _, _, _, _, _, _, _, _, _, _, _, _, _, _, _, _, _, _, sv (bP_cm (show _ ↔ four / 100 < 20 ∧ four / 10 % 10 < sP σ ∧ four % 10 < sA σ ∧ ply σ (four / 100) (four % 10) = four / 10 % 10 + 1 from ⟨fun z => ⟨z.1, z.2.1, z.2.2.1, (pT_ply z.2.1).mp z.2.2.2⟩, fun z => ⟨z.1, z.2.1, z.2.2.1, (pT_ply z.2.1).mpr z.2.2.2⟩⟩)), rfl, hR⟩) rfl
set_option maxRecDepth 100000 in
set_option maxHeartbeats 1000000 in
theorem c_X5_obeyGroup__8 {l : Launch} {E : Ev} {hB b1 b2 b3 b4 b5 b6 b7 b8 b9 b10 : Nat} {c2 b11 sd st : Nat} {f2 : Nat → Int32} {e1 e2 e3 par fre pri sls drk pla tks : Nat} {t1 t2 t3 : Nat → Int32} {g1 g2 g3 par1 fre1 pri1 sls1 drk1 pla1 tks1 : Nat} {r1 r2 r3 : Nat → Int32} {σ : Sg} (hR : RepC σ f2) (hW : Wf σ) {four gr : Nat} (hf : four < 10000) (hg : gr = 80000 + four) : Ct l E yX5_obeyGroup cX5_obeyGroup 6 (some FieldType.boolean) 5 118 [.ref hB, .int (nI gr)] [(hB, .inr (5, [.ref b1, .ref b2, .ref b3, .ref b4, .ref b5, .ref b6, .ref b7, .ref b8, .ref b9, .ref b10])), (b2, .inr (4, [.ref c2])), (c2, .inl (eI E, 265, .inl f2)), (b7, .inr (0, [.ref e1, .ref e2, .ref e3, .int (nI par), .int (nI fre), .int (nI pri), .int (nI sls), .int (nI drk), .int (nI pla), .int (nI tks)])), (e1, .inl (eI E, 6, .inl t1)), (e2, .inl (eI E, 6, .inl t2)), (e3, .inl (eI E, 6, .inl t3)), (b9, .inr (3, [.ref b11, .int (nI sd), .int (nI st)])), (b11, .inr (0, [.ref g1, .ref g2, .ref g3, .int (nI par1), .int (nI fre1), .int (nI pri1), .int (nI sls1), .int (nI drk1), .int (nI pla1), .int (nI tks1)])), (g1, .inl (eI E, 6, .inl r1)), (g2, .inl (eI E, 6, .inl r2)), (g3, .inl (eI E, 6, .inl r3))] (fun v9 w9 => ∃ (fx : Nat → Int32) (sd2 st2 par2 fre2 pri2 sls2 drk2 pla2 tks2 par12 fre12 pri12 sls12 drk12 pla12 tks12 : Nat) (ta tb tc ua ub uc : Nat → Int32), v9 = some (.int (nI (cmN σ 8 four))) ∧ w9 = [(hB, .inr (5, [.ref b1, .ref b2, .ref b3, .ref b4, .ref b5, .ref b6, .ref b7, .ref b8, .ref b9, .ref b10])), (b2, .inr (4, [.ref c2])), (c2, .inl (eI E, 265, .inl fx)), (b7, .inr (0, [.ref e1, .ref e2, .ref e3, .int (nI par2), .int (nI fre2), .int (nI pri2), .int (nI sls2), .int (nI drk2), .int (nI pla2), .int (nI tks2)])), (e1, .inl (eI E, 6, .inl ta)), (e2, .inl (eI E, 6, .inl tb)), (e3, .inl (eI E, 6, .inl tc)), (b9, .inr (3, [.ref b11, .int (nI sd2), .int (nI st2)])), (b11, .inr (0, [.ref g1, .ref g2, .ref g3, .int (nI par12), .int (nI fre12), .int (nI pri12), .int (nI sls12), .int (nI drk12), .int (nI pla12), .int (nI tks12)])), (g1, .inl (eI E, 6, .inl ua)), (g2, .inl (eI E, 6, .inl ub)), (g3, .inl (eI E, 6, .inl uc))] ∧ RepC (cmS σ 8 four) fx) := by
  have hwP := hW.P
  have hwA := hW.A
  have hwS := hW.S
  refine ct_of (by decide +kernel) (Nat.le_of_ble_eq_true rfl) (fun ω C RT => ?_)
  show ω [(hB, .inr (5, [.ref b1, .ref b2, .ref b3, .ref b4, .ref b5, .ref b6, .ref b7, .ref b8, .ref b9, .ref b10])), (b2, .inr (4, [.ref c2])), (c2, .inl (eI E, 265, .inl f2)), (b7, .inr (0, [.ref e1, .ref e2, .ref e3, .int (nI par), .int (nI fre), .int (nI pri), .int (nI sls), .int (nI drk), .int (nI pla), .int (nI tks)])), (e1, .inl (eI E, 6, .inl t1)), (e2, .inl (eI E, 6, .inl t2)), (e3, .inl (eI E, 6, .inl t3)), (b9, .inr (3, [.ref b11, .int (nI sd), .int (nI st)])), (b11, .inr (0, [.ref g1, .ref g2, .ref g3, .int (nI par1), .int (nI fre1), .int (nI pri1), .int (nI sls1), .int (nI drk1), .int (nI pla1), .int (nI tks1)])), (g1, .inl (eI E, 6, .inl r1)), (g2, .inl (eI E, 6, .inl r2)), (g3, .inl (eI E, 6, .inl r3))] [(0, .ref hB), (1, .int (nI gr))] [] 0
  refine r_iload_n C (i := 1) 1 dX5_obeyGroup_0 rfl rfl ?_
  refine r_sipush C dX5_obeyGroup_1 ks_1000 ?_
  refine r_idiv (v := nI (gr / 1000)) C dX5_obeyGroup_4 (v_nz (by omega) (by omega)) (v_div (by omega) (by omega) (by omega)) ?_
  refine r_bipush C dX5_obeyGroup_5 kb_10 ?_
  refine r_irem (v := nI (four / 1000)) C dX5_obeyGroup_7 (v_nz (by omega) (by omega)) ((v_rem (by omega) (by omega) (by omega)).trans (congrArg nI (by omega))) ?_
  refine r_istore_n C (lv' := [(2, .int (nI (four / 1000))), (0, .ref hB), (1, .int (nI gr))]) dX5_obeyGroup_8 rfl (by decide) rfl ?_
  refine r_iload_n C (i := 1) 2 dX5_obeyGroup_9 rfl rfl ?_
  refine r_bipush C dX5_obeyGroup_10 kb_100 ?_
  refine r_idiv (v := nI (gr / 100)) C dX5_obeyGroup_12 (v_nz (by omega) (by omega)) (v_div (by omega) (by omega) (by omega)) ?_
  refine r_bipush C dX5_obeyGroup_13 kb_10 ?_
  refine r_irem (v := nI (four / 100 % 10)) C dX5_obeyGroup_15 (v_nz (by omega) (by omega)) ((v_rem (by omega) (by omega) (by omega)).trans (congrArg nI (by omega))) ?_
  refine r_istore_n C (lv' := [(3, .int (nI (four / 100 % 10))), (2, .int (nI (four / 1000))), (0, .ref hB), (1, .int (nI gr))]) dX5_obeyGroup_16 rfl (by decide) rfl ?_
  refine r_iload_n C (i := 1) 3 dX5_obeyGroup_17 rfl rfl ?_
  refine r_bipush C dX5_obeyGroup_18 kb_10 ?_
  refine r_idiv (v := nI (gr / 10)) C dX5_obeyGroup_20 (v_nz (by omega) (by omega)) (v_div (by omega) (by omega) (by omega)) ?_
  refine r_bipush C dX5_obeyGroup_21 kb_10 ?_
  refine r_irem (v := nI (four / 10 % 10)) C dX5_obeyGroup_23 (v_nz (by omega) (by omega)) ((v_rem (by omega) (by omega) (by omega)).trans (congrArg nI (by omega))) ?_
  refine r_istore C (lv' := [(4, .int (nI (four / 10 % 10))), (3, .int (nI (four / 100 % 10))), (2, .int (nI (four / 1000))), (0, .ref hB), (1, .int (nI gr))]) dX5_obeyGroup_24 (by decide) rfl ?_
  refine r_iload_n C (i := 1) 4 dX5_obeyGroup_26 rfl rfl ?_
  refine r_bipush C dX5_obeyGroup_27 kb_10 ?_
  refine r_irem (v := nI (four % 10)) C dX5_obeyGroup_29 (v_nz (by omega) (by omega)) ((v_rem (by omega) (by omega) (by omega)).trans (congrArg nI (by omega))) ?_
  refine r_istore C (lv' := [(5, .int (nI (four % 10))), (4, .int (nI (four / 10 % 10))), (3, .int (nI (four / 100 % 10))), (2, .int (nI (four / 1000))), (0, .ref hB), (1, .int (nI gr))]) dX5_obeyGroup_30 (by decide) rfl ?_
  refine r_iload_n C (i := 1) 5 dX5_obeyGroup_32 rfl rfl ?_
  refine r_sipush C dX5_obeyGroup_33 ks_10000 ?_
  refine r_idiv (v := nI 8) C dX5_obeyGroup_36 (v_nz (by omega) (by omega)) ((v_div (by omega) (by omega) (by omega)).trans (congrArg nI (by omega))) ?_
  refine r_tabIn (off := 233) C 270 dX5_obeyGroup_37 (by decide) (by decide) (by decide) (by decide) ?_
  refine r_iload C (i := 4) 1 dX5_obeyGroup_270 rfl ?_
  refine r_if_ne C (y := 0) (c9 := four / 10 % 10 ≠ 0) 309 dX5_obeyGroup_272 (by decide) (z_neN (by omega)) (fun h272_1 => ?_) (fun h272_1 => ?_)
  · refine r_iconst C dX5_obeyGroup_309 ki_0 ?_
    exact RT.1 _ _ _ _ _ dX5_obeyGroup_310 rfl nar_0 (⟨_, _, _, _, _, _, _, _, _, _, _, _, _, _, _, _, _, _, _, _, _, _, _, sv (cm_n (by show ¬ (four % 100 < 2 ∧ four / 100 < 20 ∧ dk σ (four / 100) = four % 10); omega)), rfl, hR⟩) rfl
  · refine r_iload C (i := 5) 0 dX5_obeyGroup_275 rfl ?_
    refine r_iconst C dX5_obeyGroup_277 ki_1 ?_
    refine r_icmp_gt C (c9 := 1 < four % 10) 309 dX5_obeyGroup_278 (by decide) (c_ltNN (by omega) (by omega)) (fun h278_2 => ?_) (fun h278_2 => ?_)
    · refine r_iconst C dX5_obeyGroup_309 ki_0 ?_
      exact RT.1 _ _ _ _ _ dX5_obeyGroup_310 rfl nar_0 (⟨_, _, _, _, _, _, _, _, _, _, _, _, _, _, _, _, _, _, _, _, _, _, _, sv (cm_n (by show ¬ (four % 100 < 2 ∧ four / 100 < 20 ∧ dk σ (four / 100) = four % 10); omega)), rfl, hR⟩) rfl
    · refine r_aload_n C (i := 0) 4 dX5_obeyGroup_281 rfl rfl ?_
      refine r_bipush C dX5_obeyGroup_282 kb_10 ?_
      refine r_iload_n C (i := 2) 3 dX5_obeyGroup_284 rfl rfl ?_
      refine r_imul (v := nI (10 * (four / 1000))) C dX5_obeyGroup_285 (pk_mul _ _) ?_
      refine r_iload_n C (i := 3) 2 dX5_obeyGroup_286 rfl rfl ?_
      refine r_iadd (v := nI (four / 100)) C dX5_obeyGroup_287 ((nI_add _ _).trans (congrArg nI (by omega))) ?_
      refine r_iload C (i := 5) 0 dX5_obeyGroup_288 rfl ?_
      refine r_iconst C dX5_obeyGroup_290 ki_1 ?_
      refine r_icmp_ne C (c9 := four % 10 ≠ 1) 298 dX5_obeyGroup_291 (by decide) (c_neNN (by omega) (by omega)) (fun h291_3 => ?_) (fun h291_3 => ?_)
      · refine r_iconst C dX5_obeyGroup_298 ki_0 ?_
        refine r_callV (rest := []) C (c_X5_isDarkInTrial (hB := hB) (b1 := b1) (b2 := b2) (b3 := b3) (b4 := b4) (b5 := b5) (b6 := b6) (b7 := b7) (b8 := b8) (b9 := b9) (b10 := b10) (c2 := c2) (f2 := f2) (e1 := e1) (e2 := e2) (e3 := e3) (par := par) (fre := fre) (pri := pri) (sls := sls) (drk := drk) (pla := pla) (tks := tks) (t1 := t1) (t2 := t2) (t3 := t3) (σ := σ) (n := four / 100) (d := 0) (hR := hR) (hW := hW) (hn := (by omega)) (hd := (by omega))) lk_X5_isDarkInTrial w_5_12 [0, 1, 2, 3, 4, 5, 6] rfl dX5_obeyGroup_299 rfl rfl rfl rfl ⟨by decide, by decide⟩ (Nat.le_of_ble_eq_true rfl) ?_
        rintro _ _ ⟨par_4, fre_5, pri_6, sls_7, drk_8, pla_9, tks_10, ta_11, tb_12, tc_13, rfl, rfl⟩
        show ω [(hB, .inr (5, [.ref b1, .ref b2, .ref b3, .ref b4, .ref b5, .ref b6, .ref b7, .ref b8, .ref b9, .ref b10])), (b2, .inr (4, [.ref c2])), (c2, .inl (eI E, 265, .inl f2)), (b7, .inr (0, [.ref e1, .ref e2, .ref e3, .int (nI par_4), .int (nI fre_5), .int (nI pri_6), .int (nI sls_7), .int (nI drk_8), .int (nI pla_9), .int (nI tks_10)])), (e1, .inl (eI E, 6, .inl ta_11)), (e2, .inl (eI E, 6, .inl tb_12)), (e3, .inl (eI E, 6, .inl tc_13)), (b9, .inr (3, [.ref b11, .int (nI sd), .int (nI st)])), (b11, .inr (0, [.ref g1, .ref g2, .ref g3, .int (nI par1), .int (nI fre1), .int (nI pri1), .int (nI sls1), .int (nI drk1), .int (nI pla1), .int (nI tks1)])), (g1, .inl (eI E, 6, .inl r1)), (g2, .inl (eI E, 6, .inl r2)), (g3, .inl (eI E, 6, .inl r3))] [(5, .int (nI (four % 10))), (4, .int (nI (four / 10 % 10))), (3, .int (nI (four / 100 % 10))), (2, .int (nI (four / 1000))), (0, .ref hB), (1, .int (nI gr))] [.int (bP ((four / 100) < 20 ∧ dk σ (four / 100) = 0))] 302
        refine r_if_eq C (y := 0) (c9 := ¬ ((four / 100) < 20 ∧ dk σ (four / 100) = 0)) 309 dX5_obeyGroup_302 (by decide) z_eqB (fun h302_14 => ?_) (fun h302_14 => ?_)
        · refine r_iconst C dX5_obeyGroup_309 ki_0 ?_
          exact RT.1 _ _ _ _ _ dX5_obeyGroup_310 rfl nar_0 (⟨_, _, _, _, _, _, _, _, _, _, _, _, _, _, _, _, _, _, _, _, _, _, _, sv (cm_n (by show ¬ (four % 100 < 2 ∧ four / 100 < 20 ∧ dk σ (four / 100) = four % 10); omega)), rfl, hR⟩) rfl
        · replace h302_14 : (four / 100) < 20 ∧ dk σ (four / 100) = 0 := Decidable.not_not.mp h302_14
          refine r_iconst C dX5_obeyGroup_305 ki_1 ?_
          refine r_goto C 310 dX5_obeyGroup_306 (by decide) ?_
          exact RT.1 _ _ _ _ _ dX5_obeyGroup_310 rfl nar_1 (⟨_, _, _, _, _, _, _, _, _, _, _, _, _, _, _, _, _, _, _, _, _, _, _, sv (cm_y (by show four % 100 < 2 ∧ four / 100 < 20 ∧ dk σ (four / 100) = four % 10; omega)), rfl, hR⟩) rfl
      · refine r_iconst C dX5_obeyGroup_294 ki_1 ?_
        refine r_goto C 299 dX5_obeyGroup_295 (by decide) ?_
        refine r_callV (rest := []) C (c_X5_isDarkInTrial (hB := hB) (b1 := b1) (b2 := b2) (b3 := b3) (b4 := b4) (b5 := b5) (b6 := b6) (b7 := b7) (b8 := b8) (b9 := b9) (b10 := b10) (c2 := c2) (f2 := f2) (e1 := e1) (e2 := e2) (e3 := e3) (par := par) (fre := fre) (pri := pri) (sls := sls) (drk := drk) (pla := pla) (tks := tks) (t1 := t1) (t2 := t2) (t3 := t3) (σ := σ) (n := four / 100) (d := 1) (hR := hR) (hW := hW) (hn := (by omega)) (hd := (by omega))) lk_X5_isDarkInTrial w_5_12 [0, 1, 2, 3, 4, 5, 6] rfl dX5_obeyGroup_299 rfl rfl rfl rfl ⟨by decide, by decide⟩ (Nat.le_of_ble_eq_true rfl) ?_
        rintro _ _ ⟨par_15, fre_16, pri_17, sls_18, drk_19, pla_20, tks_21, ta_22, tb_23, tc_24, rfl, rfl⟩
        show ω [(hB, .inr (5, [.ref b1, .ref b2, .ref b3, .ref b4, .ref b5, .ref b6, .ref b7, .ref b8, .ref b9, .ref b10])), (b2, .inr (4, [.ref c2])), (c2, .inl (eI E, 265, .inl f2)), (b7, .inr (0, [.ref e1, .ref e2, .ref e3, .int (nI par_15), .int (nI fre_16), .int (nI pri_17), .int (nI sls_18), .int (nI drk_19), .int (nI pla_20), .int (nI tks_21)])), (e1, .inl (eI E, 6, .inl ta_22)), (e2, .inl (eI E, 6, .inl tb_23)), (e3, .inl (eI E, 6, .inl tc_24)), (b9, .inr (3, [.ref b11, .int (nI sd), .int (nI st)])), (b11, .inr (0, [.ref g1, .ref g2, .ref g3, .int (nI par1), .int (nI fre1), .int (nI pri1), .int (nI sls1), .int (nI drk1), .int (nI pla1), .int (nI tks1)])), (g1, .inl (eI E, 6, .inl r1)), (g2, .inl (eI E, 6, .inl r2)), (g3, .inl (eI E, 6, .inl r3))] [(5, .int (nI (four % 10))), (4, .int (nI (four / 10 % 10))), (3, .int (nI (four / 100 % 10))), (2, .int (nI (four / 1000))), (0, .ref hB), (1, .int (nI gr))] [.int (bP ((four / 100) < 20 ∧ dk σ (four / 100) = 1))] 302
        refine r_if_eq C (y := 0) (c9 := ¬ ((four / 100) < 20 ∧ dk σ (four / 100) = 1)) 309 dX5_obeyGroup_302 (by decide) z_eqB (fun h302_25 => ?_) (fun h302_25 => ?_)
        · refine r_iconst C dX5_obeyGroup_309 ki_0 ?_
          exact RT.1 _ _ _ _ _ dX5_obeyGroup_310 rfl nar_0 (⟨_, _, _, _, _, _, _, _, _, _, _, _, _, _, _, _, _, _, _, _, _, _, _, sv (cm_n (by show ¬ (four % 100 < 2 ∧ four / 100 < 20 ∧ dk σ (four / 100) = four % 10); omega)), rfl, hR⟩) rfl
        · replace h302_25 : (four / 100) < 20 ∧ dk σ (four / 100) = 1 := Decidable.not_not.mp h302_25
          refine r_iconst C dX5_obeyGroup_305 ki_1 ?_
          refine r_goto C 310 dX5_obeyGroup_306 (by decide) ?_
          exact RT.1 _ _ _ _ _ dX5_obeyGroup_310 rfl nar_1 (⟨_, _, _, _, _, _, _, _, _, _, _, _, _, _, _, _, _, _, _, _, _, _, _, sv (cm_y (by show four % 100 < 2 ∧ four / 100 < 20 ∧ dk σ (four / 100) = four % 10; omega)), rfl, hR⟩) rfl
set_option maxRecDepth 100000 in
set_option maxHeartbeats 1000000 in
theorem c_X5_obeyGroup__9 {l : Launch} {E : Ev} {hB b1 b2 b3 b4 b5 b6 b7 b8 b9 b10 : Nat} {c2 b11 sd st : Nat} {f2 : Nat → Int32} {e1 e2 e3 par fre pri sls drk pla tks : Nat} {t1 t2 t3 : Nat → Int32} {g1 g2 g3 par1 fre1 pri1 sls1 drk1 pla1 tks1 : Nat} {r1 r2 r3 : Nat → Int32} {σ : Sg} (hR : RepC σ f2) (hW : Wf σ) {four gr : Nat} (hf : four < 10000) (hg : gr = 90000 + four) : Ct l E yX5_obeyGroup cX5_obeyGroup 6 (some FieldType.boolean) 5 118 [.ref hB, .int (nI gr)] [(hB, .inr (5, [.ref b1, .ref b2, .ref b3, .ref b4, .ref b5, .ref b6, .ref b7, .ref b8, .ref b9, .ref b10])), (b2, .inr (4, [.ref c2])), (c2, .inl (eI E, 265, .inl f2)), (b7, .inr (0, [.ref e1, .ref e2, .ref e3, .int (nI par), .int (nI fre), .int (nI pri), .int (nI sls), .int (nI drk), .int (nI pla), .int (nI tks)])), (e1, .inl (eI E, 6, .inl t1)), (e2, .inl (eI E, 6, .inl t2)), (e3, .inl (eI E, 6, .inl t3)), (b9, .inr (3, [.ref b11, .int (nI sd), .int (nI st)])), (b11, .inr (0, [.ref g1, .ref g2, .ref g3, .int (nI par1), .int (nI fre1), .int (nI pri1), .int (nI sls1), .int (nI drk1), .int (nI pla1), .int (nI tks1)])), (g1, .inl (eI E, 6, .inl r1)), (g2, .inl (eI E, 6, .inl r2)), (g3, .inl (eI E, 6, .inl r3))] (fun v9 w9 => ∃ (fx : Nat → Int32) (sd2 st2 par2 fre2 pri2 sls2 drk2 pla2 tks2 par12 fre12 pri12 sls12 drk12 pla12 tks12 : Nat) (ta tb tc ua ub uc : Nat → Int32), v9 = some (.int (nI (cmN σ 9 four))) ∧ w9 = [(hB, .inr (5, [.ref b1, .ref b2, .ref b3, .ref b4, .ref b5, .ref b6, .ref b7, .ref b8, .ref b9, .ref b10])), (b2, .inr (4, [.ref c2])), (c2, .inl (eI E, 265, .inl fx)), (b7, .inr (0, [.ref e1, .ref e2, .ref e3, .int (nI par2), .int (nI fre2), .int (nI pri2), .int (nI sls2), .int (nI drk2), .int (nI pla2), .int (nI tks2)])), (e1, .inl (eI E, 6, .inl ta)), (e2, .inl (eI E, 6, .inl tb)), (e3, .inl (eI E, 6, .inl tc)), (b9, .inr (3, [.ref b11, .int (nI sd2), .int (nI st2)])), (b11, .inr (0, [.ref g1, .ref g2, .ref g3, .int (nI par12), .int (nI fre12), .int (nI pri12), .int (nI sls12), .int (nI drk12), .int (nI pla12), .int (nI tks12)])), (g1, .inl (eI E, 6, .inl ua)), (g2, .inl (eI E, 6, .inl ub)), (g3, .inl (eI E, 6, .inl uc))] ∧ RepC (cmS σ 9 four) fx) := by
  have hwP := hW.P
  have hwA := hW.A
  have hwS := hW.S
  refine ct_of (by decide +kernel) (Nat.le_of_ble_eq_true rfl) (fun ω C RT => ?_)
  show ω [(hB, .inr (5, [.ref b1, .ref b2, .ref b3, .ref b4, .ref b5, .ref b6, .ref b7, .ref b8, .ref b9, .ref b10])), (b2, .inr (4, [.ref c2])), (c2, .inl (eI E, 265, .inl f2)), (b7, .inr (0, [.ref e1, .ref e2, .ref e3, .int (nI par), .int (nI fre), .int (nI pri), .int (nI sls), .int (nI drk), .int (nI pla), .int (nI tks)])), (e1, .inl (eI E, 6, .inl t1)), (e2, .inl (eI E, 6, .inl t2)), (e3, .inl (eI E, 6, .inl t3)), (b9, .inr (3, [.ref b11, .int (nI sd), .int (nI st)])), (b11, .inr (0, [.ref g1, .ref g2, .ref g3, .int (nI par1), .int (nI fre1), .int (nI pri1), .int (nI sls1), .int (nI drk1), .int (nI pla1), .int (nI tks1)])), (g1, .inl (eI E, 6, .inl r1)), (g2, .inl (eI E, 6, .inl r2)), (g3, .inl (eI E, 6, .inl r3))] [(0, .ref hB), (1, .int (nI gr))] [] 0
  refine r_iload_n C (i := 1) 1 dX5_obeyGroup_0 rfl rfl ?_
  refine r_sipush C dX5_obeyGroup_1 ks_1000 ?_
  refine r_idiv (v := nI (gr / 1000)) C dX5_obeyGroup_4 (v_nz (by omega) (by omega)) (v_div (by omega) (by omega) (by omega)) ?_
  refine r_bipush C dX5_obeyGroup_5 kb_10 ?_
  refine r_irem (v := nI (four / 1000)) C dX5_obeyGroup_7 (v_nz (by omega) (by omega)) ((v_rem (by omega) (by omega) (by omega)).trans (congrArg nI (by omega))) ?_
  refine r_istore_n C (lv' := [(2, .int (nI (four / 1000))), (0, .ref hB), (1, .int (nI gr))]) dX5_obeyGroup_8 rfl (by decide) rfl ?_
  refine r_iload_n C (i := 1) 2 dX5_obeyGroup_9 rfl rfl ?_
  refine r_bipush C dX5_obeyGroup_10 kb_100 ?_
  refine r_idiv (v := nI (gr / 100)) C dX5_obeyGroup_12 (v_nz (by omega) (by omega)) (v_div (by omega) (by omega) (by omega)) ?_
  refine r_bipush C dX5_obeyGroup_13 kb_10 ?_
  refine r_irem (v := nI (four / 100 % 10)) C dX5_obeyGroup_15 (v_nz (by omega) (by omega)) ((v_rem (by omega) (by omega) (by omega)).trans (congrArg nI (by omega))) ?_
  refine r_istore_n C (lv' := [(3, .int (nI (four / 100 % 10))), (2, .int (nI (four / 1000))), (0, .ref hB), (1, .int (nI gr))]) dX5_obeyGroup_16 rfl (by decide) rfl ?_
  refine r_iload_n C (i := 1) 3 dX5_obeyGroup_17 rfl rfl ?_
  refine r_bipush C dX5_obeyGroup_18 kb_10 ?_
  refine r_idiv (v := nI (gr / 10)) C dX5_obeyGroup_20 (v_nz (by omega) (by omega)) (v_div (by omega) (by omega) (by omega)) ?_
  refine r_bipush C dX5_obeyGroup_21 kb_10 ?_
  refine r_irem (v := nI (four / 10 % 10)) C dX5_obeyGroup_23 (v_nz (by omega) (by omega)) ((v_rem (by omega) (by omega) (by omega)).trans (congrArg nI (by omega))) ?_
  refine r_istore C (lv' := [(4, .int (nI (four / 10 % 10))), (3, .int (nI (four / 100 % 10))), (2, .int (nI (four / 1000))), (0, .ref hB), (1, .int (nI gr))]) dX5_obeyGroup_24 (by decide) rfl ?_
  refine r_iload_n C (i := 1) 4 dX5_obeyGroup_26 rfl rfl ?_
  refine r_bipush C dX5_obeyGroup_27 kb_10 ?_
  refine r_irem (v := nI (four % 10)) C dX5_obeyGroup_29 (v_nz (by omega) (by omega)) ((v_rem (by omega) (by omega) (by omega)).trans (congrArg nI (by omega))) ?_
  refine r_istore C (lv' := [(5, .int (nI (four % 10))), (4, .int (nI (four / 10 % 10))), (3, .int (nI (four / 100 % 10))), (2, .int (nI (four / 1000))), (0, .ref hB), (1, .int (nI gr))]) dX5_obeyGroup_30 (by decide) rfl ?_
  refine r_iload_n C (i := 1) 5 dX5_obeyGroup_32 rfl rfl ?_
  refine r_sipush C dX5_obeyGroup_33 ks_10000 ?_
  refine r_idiv (v := nI 9) C dX5_obeyGroup_36 (v_nz (by omega) (by omega)) ((v_div (by omega) (by omega) (by omega)).trans (congrArg nI (by omega))) ?_
  refine r_tabIn (off := 274) C 311 dX5_obeyGroup_37 (by decide) (by decide) (by decide) (by decide) ?_
  refine r_aload_n C (i := 0) 4 dX5_obeyGroup_311 rfl rfl ?_
  refine r_get C 0 8 uX5 rfl rfl (by decide) w_1_137 rfl dX5_obeyGroup_312 ?_
  refine r_aload_n C (i := 0) 4 dX5_obeyGroup_315 rfl rfl ?_
  refine r_get C 0 1 uX5 rfl rfl (by decide) w_1_130 rfl dX5_obeyGroup_316 ?_
  refine r_callV (rest := []) C (c_X3_tally (hZ := b9) (sd := sd) (st := st) (hE := b11) (e1 := g1) (e2 := g2) (e3 := g3) (par := par1) (fre := fre1) (pri := pri1) (sls := sls1) (drk := drk1) (pla := pla1) (tks := tks1) (t1 := r1) (t2 := r2) (t3 := r3) (h0 := b2) (q1 := c2) (f := f2) (σ := σ) (hR := hR) (hW := hW)) lk_X3_tally w_2_50 [7, 8, 9, 10, 11, 1, 2] rfl dX5_obeyGroup_319 rfl rfl rfl rfl ⟨by decide, by decide⟩ (Nat.le_of_ble_eq_true rfl) ?_
  rintro _ _ ⟨par_1, fre_2, pri_3, sls_4, drk_5, pla_6, tks_7, ta_8, tb_9, tc_10, rfl, rfl⟩
  show ω [(hB, .inr (5, [.ref b1, .ref b2, .ref b3, .ref b4, .ref b5, .ref b6, .ref b7, .ref b8, .ref b9, .ref b10])), (b2, .inr (4, [.ref c2])), (c2, .inl (eI E, 265, .inl f2)), (b7, .inr (0, [.ref e1, .ref e2, .ref e3, .int (nI par), .int (nI fre), .int (nI pri), .int (nI sls), .int (nI drk), .int (nI pla), .int (nI tks)])), (e1, .inl (eI E, 6, .inl t1)), (e2, .inl (eI E, 6, .inl t2)), (e3, .inl (eI E, 6, .inl t3)), (b9, .inr (3, [.ref b11, .int (nI (dkS σ 20)), .int (nI (tkS σ 20))])), (b11, .inr (0, [.ref g1, .ref g2, .ref g3, .int (nI par_1), .int (nI fre_2), .int (nI pri_3), .int (nI sls_4), .int (nI drk_5), .int (nI pla_6), .int (nI tks_7)])), (g1, .inl (eI E, 6, .inl ta_8)), (g2, .inl (eI E, 6, .inl tb_9)), (g3, .inl (eI E, 6, .inl tc_10))] [(5, .int (nI (four % 10))), (4, .int (nI (four / 10 % 10))), (3, .int (nI (four / 100 % 10))), (2, .int (nI (four / 1000))), (0, .ref hB), (1, .int (nI gr))] [] 322
  refine r_iload_n C (i := 2) 3 dX5_obeyGroup_322 rfl rfl ?_
  refine r_if_ne C (y := 0) (c9 := four / 1000 ≠ 0) 352 dX5_obeyGroup_323 (by decide) (z_neN (by omega)) (fun h323_11 => ?_) (fun h323_11 => ?_)
  · refine r_iconst C dX5_obeyGroup_352 ki_0 ?_
    exact RT.1 _ _ _ _ _ dX5_obeyGroup_353 rfl nar_0 (⟨_, _, _, _, _, _, _, _, _, _, _, _, _, _, _, _, _, _, _, _, _, _, _, sv (cm_n (by show ¬ (four / 100 = 0 ∧ dkS σ 20 ≤ four % 100); omega)), rfl, hR⟩) rfl
  · refine r_iload_n C (i := 3) 2 dX5_obeyGroup_326 rfl rfl ?_
    refine r_if_ne C (y := 0) (c9 := four / 100 % 10 ≠ 0) 352 dX5_obeyGroup_327 (by decide) (z_neN (by omega)) (fun h327_12 => ?_) (fun h327_12 => ?_)
    · refine r_iconst C dX5_obeyGroup_352 ki_0 ?_
      exact RT.1 _ _ _ _ _ dX5_obeyGroup_353 rfl nar_0 (⟨_, _, _, _, _, _, _, _, _, _, _, _, _, _, _, _, _, _, _, _, _, _, _, sv (cm_n (by show ¬ (four / 100 = 0 ∧ dkS σ 20 ≤ four % 100); omega)), rfl, hR⟩) rfl
    · refine r_aload_n C (i := 0) 4 dX5_obeyGroup_330 rfl rfl ?_
      refine r_get C 0 8 uX5 rfl rfl (by decide) w_1_137 rfl dX5_obeyGroup_331 ?_
      refine r_readV (rest := []) C (c_X3_dark (hZ := b9) (hE := b11) (sd := dkS σ 20) (st := tkS σ 20) ) lk_X3_dark w_2_146 [7] rfl dX5_obeyGroup_334 rfl rfl rfl rfl ⟨by decide, by decide⟩ (Nat.le_of_ble_eq_true rfl) (st' := [.int (nI (dkS σ 20))]) rfl ?_
      refine r_bipush C dX5_obeyGroup_337 kb_10 ?_
      refine r_iload C (i := 4) 1 dX5_obeyGroup_339 rfl ?_
      refine r_imul (v := nI (10 * (four / 10 % 10))) C dX5_obeyGroup_341 (pk_mul _ _) ?_
      refine r_iload C (i := 5) 0 dX5_obeyGroup_342 rfl ?_
      refine r_iadd (v := nI (four % 100)) C dX5_obeyGroup_344 ((nI_add _ _).trans (congrArg nI (by omega))) ?_
      have hdl := dkS_le σ 20
      refine r_icmp_gt C (c9 := four % 100 < (dkS σ 20)) 352 dX5_obeyGroup_345 (by decide) (c_ltNN (by omega) (by omega)) (fun h345_13 => ?_) (fun h345_13 => ?_)
      · refine r_iconst C dX5_obeyGroup_352 ki_0 ?_
        exact RT.1 _ _ _ _ _ dX5_obeyGroup_353 rfl nar_0 (⟨_, _, _, _, _, _, _, _, _, _, _, _, _, _, _, _, _, _, _, _, _, _, _, sv (cm_n (by show ¬ (four / 100 = 0 ∧ dkS σ 20 ≤ four % 100); omega)), rfl, hR⟩) rfl
      · refine r_iconst C dX5_obeyGroup_348 ki_1 ?_
        refine r_goto C 353 dX5_obeyGroup_349 (by decide) ?_
        exact RT.1 _ _ _ _ _ dX5_obeyGroup_353 rfl nar_1 (⟨_, _, _, _, _, _, _, _, _, _, _, _, _, _, _, _, _, _, _, _, _, _, _, sv (cm_y (by show four / 100 = 0 ∧ dkS σ 20 ≤ four % 100; omega)), rfl, hR⟩) rfl
theorem c_X5_obeyGroup__all {l : Launch} {E : Ev} {hB b1 b2 b3 b4 b5 b6 b7 b8 b9 b10 : Nat} {c2 b11 sd st : Nat} {f2 : Nat → Int32} {e1 e2 e3 par fre pri sls drk pla tks : Nat} {t1 t2 t3 : Nat → Int32} {g1 g2 g3 par1 fre1 pri1 sls1 drk1 pla1 tks1 : Nat} {r1 r2 r3 : Nat → Int32} {σ : Sg} (hR : RepC σ f2) (hW : Wf σ) {how four gr : Nat} (hh : how < 10) (hf : four < 10000) (hg : gr = 10000 * how + four) : Ct l E yX5_obeyGroup cX5_obeyGroup 6 (some FieldType.boolean) 5 118 [.ref hB, .int (nI gr)] [(hB, .inr (5, [.ref b1, .ref b2, .ref b3, .ref b4, .ref b5, .ref b6, .ref b7, .ref b8, .ref b9, .ref b10])), (b2, .inr (4, [.ref c2])), (c2, .inl (eI E, 265, .inl f2)), (b7, .inr (0, [.ref e1, .ref e2, .ref e3, .int (nI par), .int (nI fre), .int (nI pri), .int (nI sls), .int (nI drk), .int (nI pla), .int (nI tks)])), (e1, .inl (eI E, 6, .inl t1)), (e2, .inl (eI E, 6, .inl t2)), (e3, .inl (eI E, 6, .inl t3)), (b9, .inr (3, [.ref b11, .int (nI sd), .int (nI st)])), (b11, .inr (0, [.ref g1, .ref g2, .ref g3, .int (nI par1), .int (nI fre1), .int (nI pri1), .int (nI sls1), .int (nI drk1), .int (nI pla1), .int (nI tks1)])), (g1, .inl (eI E, 6, .inl r1)), (g2, .inl (eI E, 6, .inl r2)), (g3, .inl (eI E, 6, .inl r3))] (fun v9 w9 => ∃ (fx : Nat → Int32) (sd2 st2 par2 fre2 pri2 sls2 drk2 pla2 tks2 par12 fre12 pri12 sls12 drk12 pla12 tks12 : Nat) (ta tb tc ua ub uc : Nat → Int32), v9 = some (.int (nI (cmN σ how four))) ∧ w9 = [(hB, .inr (5, [.ref b1, .ref b2, .ref b3, .ref b4, .ref b5, .ref b6, .ref b7, .ref b8, .ref b9, .ref b10])), (b2, .inr (4, [.ref c2])), (c2, .inl (eI E, 265, .inl fx)), (b7, .inr (0, [.ref e1, .ref e2, .ref e3, .int (nI par2), .int (nI fre2), .int (nI pri2), .int (nI sls2), .int (nI drk2), .int (nI pla2), .int (nI tks2)])), (e1, .inl (eI E, 6, .inl ta)), (e2, .inl (eI E, 6, .inl tb)), (e3, .inl (eI E, 6, .inl tc)), (b9, .inr (3, [.ref b11, .int (nI sd2), .int (nI st2)])), (b11, .inr (0, [.ref g1, .ref g2, .ref g3, .int (nI par12), .int (nI fre12), .int (nI pri12), .int (nI sls12), .int (nI drk12), .int (nI pla12), .int (nI tks12)])), (g1, .inl (eI E, 6, .inl ua)), (g2, .inl (eI E, 6, .inl ub)), (g3, .inl (eI E, 6, .inl uc))] ∧ RepC (cmS σ how four) fx) := by
  rcases (by omega : how = 0 ∨ how = 1 ∨ how = 2 ∨ how = 3 ∨ how = 4 ∨ how = 5 ∨ how = 6 ∨ how = 7 ∨ how = 8 ∨ how = 9) with rfl | rfl | rfl | rfl | rfl | rfl | rfl | rfl | rfl | rfl
  · exact c_X5_obeyGroup__0 hR hW hf (by omega)
  · exact c_X5_obeyGroup__1 hR hW hf (by omega)
  · exact c_X5_obeyGroup__2 hR hW hf (by omega)
  · exact c_X5_obeyGroup__3 hR hW hf (by omega)
  · exact c_X5_obeyGroup__4 hR hW hf (by omega)
  · exact c_X5_obeyGroup__5 hR hW hf (by omega)
  · exact c_X5_obeyGroup__6 hR hW hf (by omega)
  · exact c_X5_obeyGroup__7 hR hW hf (by omega)
  · exact c_X5_obeyGroup__8 hR hW hf (by omega)
  · exact c_X5_obeyGroup__9 hR hW hf (by omega)
