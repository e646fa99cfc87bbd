theorem vI_neg {x : Int32} {n : Nat} (h : x < 0) : ¬ vI x n := by
  rw [Int32.lt_iff_toInt_lt] at h
  intro z
  have : (0 : Int32).toInt = 0 := by decide
  have := z.1
  omega
theorem vI_big {x : Int32} {n : Nat} (hn : n < 2147483648) (h : nI n ≤ x) : ¬ vI x n := by
  rw [Int32.le_iff_toInt_le, nI_toInt hn] at h
  intro z
  have := z.2
  omega
theorem vI_ok {x : Int32} {n : Nat} (hn : n < 2147483648) (h : ¬ x < 0) (h2 : ¬ nI n ≤ x) : vI x n := by
  rw [Int32.lt_iff_toInt_lt] at h
  rw [Int32.le_iff_toInt_le, nI_toInt hn] at h2
  have : (0 : Int32).toInt = 0 := by decide
  exact ⟨by omega, by omega⟩
theorem vI_sub {x : Int32} {n m : Nat} (h : vI x n) (hm : n ≤ m) : vI x m := ⟨h.1, by have := h.2; omega⟩
theorem bP_N {p : Prop} [Decidable p] : bP p = nI (if p then 1 else 0) := by
  by_cases h : p
  · rw [bP, if_pos h, if_pos h]
  · rw [bP, if_neg h, if_neg h]
set_option maxRecDepth 100000 in
set_option maxHeartbeats 1000000 in
theorem c_X5_isIndex {l : Launch} {E : Ev} {i : Nat} (hi : i < 2147483648) {n : Nat} (hn : n < 2147483648) : Cr l E yX5_isIndex cX5_isIndex 2 (some FieldType.boolean) 0 0 [.int (nI i), .int (nI n)] [] (some (.int (bP (i < n)))) := by
  refine ct_of (by decide +kernel) (Nat.le_of_ble_eq_true rfl) (fun ω C RT => ?_)
  show ω [] [(0, .int (nI i)), (1, .int (nI n))] [] 0
  refine r_iload_n C (i := 0) 0 dX5_isIndex_0 rfl rfl ?_
  refine r_if_ltF C (y := 0) (tgt := 13) dX5_isIndex_1 (by decide) (fun z => ((by omega) : ¬ (i < 0)) ((z_ltN (by omega)).mp z)) ?_
  refine r_iload_n C (i := 0) 0 dX5_isIndex_4 rfl rfl ?_
  refine r_iload_n C (i := 1) 1 dX5_isIndex_5 rfl rfl ?_
  refine r_icmp_ge C (c9 := n ≤ i) 13 dX5_isIndex_6 (by decide) (c_leNN (by omega) (by omega)) (fun h6_1 => ?_) (fun h6_1 => ?_)
  · refine r_iconst C dX5_isIndex_13 ki_0 ?_
    exact RT.1 _ _ _ _ _ dX5_isIndex_14 rfl nar_0 (rd_i (bP_f (by omega))) rfl
  · refine r_iconst C dX5_isIndex_9 ki_1 ?_
    refine r_goto C 14 dX5_isIndex_10 (by decide) ?_
    exact RT.1 _ _ _ _ _ dX5_isIndex_14 rfl nar_1 (rd_i (bP_t (by omega))) rfl
set_option maxRecDepth 100000 in
set_option maxHeartbeats 1000000 in
theorem c_X5_isIndex__r {l : Launch} {E : Ev} {x : Int32} {n : Nat} (hn : n < 2147483648) : Cr l E yX5_isIndex cX5_isIndex 2 (some FieldType.boolean) 0 0 [.int x, .int (nI n)] [] (some (.int (bP (vI x n)))) := by
  refine ct_of (by decide +kernel) (Nat.le_of_ble_eq_true rfl) (fun ω C RT => ?_)
  show ω [] [(0, .int x), (1, .int (nI n))] [] 0
  refine r_iload_n C (i := 0) 0 dX5_isIndex_0 rfl rfl ?_
  refine r_if_lt C (y := 0) (c9 := x < 0) 13 dX5_isIndex_1 (by decide) Iff.rfl (fun h1_1 => ?_) (fun h1_1 => ?_)
  · refine r_iconst C dX5_isIndex_13 ki_0 ?_
    exact RT.1 _ _ _ _ _ dX5_isIndex_14 rfl nar_0 (rd_i (bP_f (vI_neg h1_1))) rfl
  · refine r_iload_n C (i := 0) 0 dX5_isIndex_4 rfl rfl ?_
    refine r_iload_n C (i := 1) 1 dX5_isIndex_5 rfl rfl ?_
    refine r_icmp_ge C (c9 := nI n ≤ x) 13 dX5_isIndex_6 (by decide) Iff.rfl (fun h6_2 => ?_) (fun h6_2 => ?_)
    · refine r_iconst C dX5_isIndex_13 ki_0 ?_
      exact RT.1 _ _ _ _ _ dX5_isIndex_14 rfl nar_0 (rd_i (bP_f (vI_big hn h6_2))) rfl
    · refine r_iconst C dX5_isIndex_9 ki_1 ?_
      refine r_goto C 14 dX5_isIndex_10 (by decide) ?_
      exact RT.1 _ _ _ _ _ dX5_isIndex_14 rfl nar_1 (rd_i (bP_t (vI_ok hn h1_1 h6_2))) rfl
set_option maxRecDepth 100000 in
set_option maxHeartbeats 1000000 in
theorem c_X5_hasNight {l : Launch} {E : Ev} {i : Nat} (hi : i < 2147483648) : Cr l E yX5_hasNight cX5_hasNight 1 (some FieldType.boolean) 1 21 [.int (nI i)] [] (some (.int (bP (i < 20)))) := by
  refine ct_of (by decide +kernel) (Nat.le_of_ble_eq_true rfl) (fun ω C RT => ?_)
  show ω [] [(0, .int (nI i))] [] 0
  refine r_iload_n C (i := 0) 0 dX5_hasNight_0 rfl rfl ?_
  refine r_bipush C dX5_hasNight_1 kb_20 ?_
  refine r_readS (rest := []) C (c_X5_isIndex (i := i) (n := 20) (hi := (by omega)) (hn := (by omega))) lk_X5_isIndex w_2_9 [] dX5_hasNight_3 rfl rfl rfl ⟨by decide, by decide⟩ (Nat.le_of_ble_eq_true rfl) (st' := [.int (bP (i < 20))]) rfl ?_
  exact RT.1 _ _ _ _ _ dX5_hasNight_6 rfl nar_B (rd_i rfl) rfl
set_option maxRecDepth 100000 in
set_option maxHeartbeats 1000000 in
theorem c_X5_hasNight__r {l : Launch} {E : Ev} {x : Int32} : Cr l E yX5_hasNight cX5_hasNight 1 (some FieldType.boolean) 1 21 [.int x] [] (some (.int (bP (vI x 20)))) := by
  refine ct_of (by decide +kernel) (Nat.le_of_ble_eq_true rfl) (fun ω C RT => ?_)
  show ω [] [(0, .int x)] [] 0
  refine r_iload_n C (i := 0) 0 dX5_hasNight_0 rfl rfl ?_
  refine r_bipush C dX5_hasNight_1 kb_20 ?_
  refine r_readS (rest := []) C (c_X5_isIndex__r (x := x) (n := 20) (hn := (by omega))) lk_X5_isIndex w_2_9 [] dX5_hasNight_3 rfl rfl rfl ⟨by decide, by decide⟩ (Nat.le_of_ble_eq_true rfl) (st' := [.int (bP (vI x 20))]) rfl ?_
  exact RT.1 _ _ _ _ _ dX5_hasNight_6 rfl nar_B (rd_i rfl) rfl
set_option maxRecDepth 100000 in
set_option maxHeartbeats 1000000 in
theorem c_X5_holds {l : Launch} {E : Ev} {s e : Nat} (hs : s < 4294967296) (he : e < 32) : Cr l E yX5_holds cX5_holds 2 (some FieldType.boolean) 0 0 [.int (nI s), .int (nI e)] [] (some (.int (bP (s / 2 ^ e % 2 = 1)))) := by
  have hmod : s / 2 ^ e % 2 < 2 := Nat.mod_lt _ (by decide)
  refine ct_of (by decide +kernel) (Nat.le_of_ble_eq_true rfl) (fun ω C RT => ?_)
  show ω [] [(0, .int (nI s)), (1, .int (nI e))] [] 0
  refine r_iload_n C (i := 1) 1 dX5_holds_0 rfl rfl ?_
  refine r_if_ltF C (y := 0) (tgt := 16) dX5_holds_1 (by decide) (fun z => ((by omega) : ¬ (e < 0)) ((z_ltN (by omega)).mp z)) ?_
  refine r_iload_n C (i := 0) 0 dX5_holds_4 rfl rfl ?_
  refine r_iload_n C (i := 1) 1 dX5_holds_5 rfl rfl ?_
  refine r_iushr (v := nI (s / 2 ^ e)) C dX5_holds_6 (v_ushr (by omega) (by omega)) ?_
  refine r_iconst C dX5_holds_7 ki_1 ?_
  refine r_iand (v := nI ((s / 2 ^ e) % 2)) C dX5_holds_8 (v_and1 _) ?_
  refine r_if_eq C (y := 0) (c9 := (s / 2 ^ e) % 2 = 0) 16 dX5_holds_9 (by decide) (z_eqN (by omega)) (fun h9_1 => ?_) (fun h9_1 => ?_)
  · refine r_iconst C dX5_holds_16 ki_0 ?_
    exact RT.1 _ _ _ _ _ dX5_holds_17 rfl nar_0 (rd_i (bP_f (by omega))) rfl
  · refine r_iconst C dX5_holds_12 ki_1 ?_
    refine r_goto C 17 dX5_holds_13 (by decide) ?_
    exact RT.1 _ _ _ _ _ dX5_holds_17 rfl nar_1 (rd_i (bP_t (by omega))) rfl
set_option maxRecDepth 100000 in
set_option maxHeartbeats 1000000 in
theorem c_X4_parts {l : Launch} {E : Ev} {h0 q1 : Nat} {f : Nat → Int32} {σ : Sg} (hR : RepC σ f) (hW : Wf σ) : Cr l E yX4_parts cX4_parts 1 (some FieldType.int) 0 0 [.ref h0] [(h0, .inr (4, [.ref q1])), (q1, .inl (eI E, 265, .inl f))] (some (.int (nI (sP σ)))) := by
  have hwP := hW.P
  have hwA := hW.A
  have hwS := hW.S
  refine ct_of (by decide +kernel) (Nat.le_of_ble_eq_true rfl) (fun ω C RT => ?_)
  show ω [(h0, .inr (4, [.ref q1])), (q1, .inl (eI E, 265, .inl f))] [(0, .ref h0)] [] 0
  refine r_aload_n C (i := 0) 0 dX4_parts_0 rfl rfl ?_
  refine r_get C 0 0 uX4 rfl rfl (by decide) w_1_38 rfl dX4_parts_1 ?_
  refine r_iconst C dX4_parts_4 ki_0 ?_
  refine r_iald (j := 0) (v := nI (sP σ)) C 1 rfl (by omega) (by decide) hR.P dX4_parts_5 ?_
  exact RT.1 _ _ _ _ _ dX4_parts_6 rfl rfl (rd_i rfl) rfl
set_option maxRecDepth 100000 in
set_option maxHeartbeats 1000000 in
theorem c_X4_actors {l : Launch} {E : Ev} {h0 q1 : Nat} {f : Nat → Int32} {σ : Sg} (hR : RepC σ f) (hW : Wf σ) : Cr l E yX4_actors cX4_actors 1 (some FieldType.int) 0 0 [.ref h0] [(h0, .inr (4, [.ref q1])), (q1, .inl (eI E, 265, .inl f))] (some (.int (nI (sA σ)))) := by
  have hwP := hW.P
  have hwA := hW.A
  have hwS := hW.S
  refine ct_of (by decide +kernel) (Nat.le_of_ble_eq_true rfl) (fun ω C RT => ?_)
  show ω [(h0, .inr (4, [.ref q1])), (q1, .inl (eI E, 265, .inl f))] [(0, .ref h0)] [] 0
  refine r_aload_n C (i := 0) 0 dX4_actors_0 rfl rfl ?_
  refine r_get C 0 0 uX4 rfl rfl (by decide) w_1_38 rfl dX4_actors_1 ?_
  refine r_iconst C dX4_actors_4 ki_1 ?_
  refine r_iald (j := 1) (v := nI (sA σ)) C 1 rfl (by omega) (by decide) hR.A dX4_actors_5 ?_
  exact RT.1 _ _ _ _ _ dX4_actors_6 rfl rfl (rd_i rfl) rfl
set_option maxRecDepth 100000 in
set_option maxHeartbeats 1000000 in
theorem c_X4_slips {l : Launch} {E : Ev} {h0 q1 : Nat} {f : Nat → Int32} {σ : Sg} (hR : RepC σ f) (hW : Wf σ) : Cr l E yX4_slips cX4_slips 1 (some FieldType.int) 0 0 [.ref h0] [(h0, .inr (4, [.ref q1])), (q1, .inl (eI E, 265, .inl f))] (some (.int (nI (sS σ)))) := by
  have hwP := hW.P
  have hwA := hW.A
  have hwS := hW.S
  refine ct_of (by decide +kernel) (Nat.le_of_ble_eq_true rfl) (fun ω C RT => ?_)
  show ω [(h0, .inr (4, [.ref q1])), (q1, .inl (eI E, 265, .inl f))] [(0, .ref h0)] [] 0
  refine r_aload_n C (i := 0) 0 dX4_slips_0 rfl rfl ?_
  refine r_get C 0 0 uX4 rfl rfl (by decide) w_1_38 rfl dX4_slips_1 ?_
  refine r_iconst C dX4_slips_4 ki_2 ?_
  refine r_iald (j := 2) (v := nI (sS σ)) C 1 rfl (by omega) (by decide) hR.S dX4_slips_5 ?_
  exact RT.1 _ _ _ _ _ dX4_slips_6 rfl rfl (rd_i rfl) rfl
set_option maxRecDepth 100000 in
set_option maxHeartbeats 1000000 in
theorem c_X4_hasPart {l : Launch} {E : Ev} {h0 q1 : Nat} {f : Nat → Int32} {σ : Sg} (hR : RepC σ f) (hW : Wf σ) {p : Nat} (hp : p < 2147483648) : Cr l E yX4_hasPart cX4_hasPart 2 (some FieldType.boolean) 0 0 [.ref h0, .int (nI p)] [(h0, .inr (4, [.ref q1])), (q1, .inl (eI E, 265, .inl f))] (some (.int (bP (p < sP σ)))) := by
  have hwP := hW.P
  have hwA := hW.A
  have hwS := hW.S
  refine ct_of (by decide +kernel) (Nat.le_of_ble_eq_true rfl) (fun ω C RT => ?_)
  show ω [(h0, .inr (4, [.ref q1])), (q1, .inl (eI E, 265, .inl f))] [(0, .ref h0), (1, .int (nI p))] [] 0
  refine r_iload_n C (i := 1) 1 dX4_hasPart_0 rfl rfl ?_
  refine r_if_ltF C (y := 0) (tgt := 24) dX4_hasPart_1 (by decide) (fun z => ((by omega) : ¬ (p < 0)) ((z_ltN (by omega)).mp z)) ?_
  refine r_iload_n C (i := 1) 1 dX4_hasPart_4 rfl rfl ?_
  refine r_bipush C dX4_hasPart_5 kb_6 ?_
  refine r_icmp_ge C (c9 := 6 ≤ p) 24 dX4_hasPart_7 (by decide) (c_leNN (by omega) (by omega)) (fun h7_1 => ?_) (fun h7_1 => ?_)
  · refine r_iconst C dX4_hasPart_24 ki_0 ?_
    exact RT.1 _ _ _ _ _ dX4_hasPart_25 rfl nar_0 (rd_i (bP_f (by omega))) rfl
  · refine r_iload_n C (i := 1) 1 dX4_hasPart_10 rfl rfl ?_
    refine r_aload_n C (i := 0) 0 dX4_hasPart_11 rfl rfl ?_
    refine r_get C 0 0 uX4 rfl rfl (by decide) w_1_38 rfl dX4_hasPart_12 ?_
    refine r_iconst C dX4_hasPart_15 ki_0 ?_
    refine r_iald (j := 0) (v := nI (sP σ)) C 1 rfl (by omega) (by decide) hR.P dX4_hasPart_16 ?_
    refine r_icmp_ge C (c9 := sP σ ≤ p) 24 dX4_hasPart_17 (by decide) (c_leNN (by omega) (by omega)) (fun h17_2 => ?_) (fun h17_2 => ?_)
    · refine r_iconst C dX4_hasPart_24 ki_0 ?_
      exact RT.1 _ _ _ _ _ dX4_hasPart_25 rfl nar_0 (rd_i (bP_f (by omega))) rfl
    · refine r_iconst C dX4_hasPart_20 ki_1 ?_
      refine r_goto C 25 dX4_hasPart_21 (by decide) ?_
      exact RT.1 _ _ _ _ _ dX4_hasPart_25 rfl nar_1 (rd_i (bP_t (by omega))) rfl
set_option maxRecDepth 100000 in
set_option maxHeartbeats 1000000 in
theorem c_X4_hasPart__r {l : Launch} {E : Ev} {h0 q1 : Nat} {f : Nat → Int32} {σ : Sg} (hR : RepC σ f) (hW : Wf σ) {x : Int32} : Cr l E yX4_hasPart cX4_hasPart 2 (some FieldType.boolean) 0 0 [.ref h0, .int x] [(h0, .inr (4, [.ref q1])), (q1, .inl (eI E, 265, .inl f))] (some (.int (bP (vI x (sP σ))))) := by
  have hwP := hW.P
  have hwA := hW.A
  have hwS := hW.S
  refine ct_of (by decide +kernel) (Nat.le_of_ble_eq_true rfl) (fun ω C RT => ?_)
  show ω [(h0, .inr (4, [.ref q1])), (q1, .inl (eI E, 265, .inl f))] [(0, .ref h0), (1, .int x)] [] 0
  refine r_iload_n C (i := 1) 1 dX4_hasPart_0 rfl rfl ?_
  refine r_if_lt C (y := 0) (c9 := x < 0) 24 dX4_hasPart_1 (by decide) Iff.rfl (fun h1_1 => ?_) (fun h1_1 => ?_)
  · refine r_iconst C dX4_hasPart_24 ki_0 ?_
    exact RT.1 _ _ _ _ _ dX4_hasPart_25 rfl nar_0 (rd_i (bP_f (vI_neg h1_1))) rfl
  · refine r_iload_n C (i := 1) 1 dX4_hasPart_4 rfl rfl ?_
    refine r_bipush C dX4_hasPart_5 kb_6 ?_
    refine r_icmp_ge C (c9 := nI 6 ≤ x) 24 dX4_hasPart_7 (by decide) Iff.rfl (fun h7_2 => ?_) (fun h7_2 => ?_)
    · refine r_iconst C dX4_hasPart_24 ki_0 ?_
      exact RT.1 _ _ _ _ _ dX4_hasPart_25 rfl nar_0 (rd_i (bP_f (fun z => vI_big (n := 6) (by decide) h7_2 (vI_sub z hwP)))) rfl
    · refine r_iload_n C (i := 1) 1 dX4_hasPart_10 rfl rfl ?_
      refine r_aload_n C (i := 0) 0 dX4_hasPart_11 rfl rfl ?_
      refine r_get C 0 0 uX4 rfl rfl (by decide) w_1_38 rfl dX4_hasPart_12 ?_
      refine r_iconst C dX4_hasPart_15 ki_0 ?_
      refine r_iald (j := 0) (v := nI (sP σ)) C 1 rfl (by omega) (by decide) hR.P dX4_hasPart_16 ?_
      refine r_icmp_ge C (c9 := nI (sP σ) ≤ x) 24 dX4_hasPart_17 (by decide) Iff.rfl (fun h17_3 => ?_) (fun h17_3 => ?_)
      · refine r_iconst C dX4_hasPart_24 ki_0 ?_
        exact RT.1 _ _ _ _ _ dX4_hasPart_25 rfl nar_0 (rd_i (bP_f (vI_big (by omega) h17_3))) rfl
      · refine r_iconst C dX4_hasPart_20 ki_1 ?_
        refine r_goto C 25 dX4_hasPart_21 (by decide) ?_
        exact RT.1 _ _ _ _ _ dX4_hasPart_25 rfl nar_1 (rd_i (bP_t (vI_ok (by omega) h1_1 h17_3))) rfl
set_option maxRecDepth 100000 in
set_option maxHeartbeats 1000000 in
theorem c_X4_hasActor {l : Launch} {E : Ev} {h0 q1 : Nat} {f : Nat → Int32} {σ : Sg} (hR : RepC σ f) (hW : Wf σ) {p : Nat} (hp : p < 2147483648) : Cr l E yX4_hasActor cX4_hasActor 2 (some FieldType.boolean) 0 0 [.ref h0, .int (nI p)] [(h0, .inr (4, [.ref q1])), (q1, .inl (eI E, 265, .inl f))] (some (.int (bP (p < sA σ)))) := by
  have hwP := hW.P
  have hwA := hW.A
  have hwS := hW.S
  refine ct_of (by decide +kernel) (Nat.le_of_ble_eq_true rfl) (fun ω C RT => ?_)
  show ω [(h0, .inr (4, [.ref q1])), (q1, .inl (eI E, 265, .inl f))] [(0, .ref h0), (1, .int (nI p))] [] 0
  refine r_iload_n C (i := 1) 1 dX4_hasActor_0 rfl rfl ?_
  refine r_if_ltF C (y := 0) (tgt := 24) dX4_hasActor_1 (by decide) (fun z => ((by omega) : ¬ (p < 0)) ((z_ltN (by omega)).mp z)) ?_
  refine r_iload_n C (i := 1) 1 dX4_hasActor_4 rfl rfl ?_
  refine r_bipush C dX4_hasActor_5 kb_10 ?_
  refine r_icmp_ge C (c9 := 10 ≤ p) 24 dX4_hasActor_7 (by decide) (c_leNN (by omega) (by omega)) (fun h7_1 => ?_) (fun h7_1 => ?_)
  · refine r_iconst C dX4_hasActor_24 ki_0 ?_
    exact RT.1 _ _ _ _ _ dX4_hasActor_25 rfl nar_0 (rd_i (bP_f (by omega))) rfl
  · refine r_iload_n C (i := 1) 1 dX4_hasActor_10 rfl rfl ?_
    refine r_aload_n C (i := 0) 0 dX4_hasActor_11 rfl rfl ?_
    refine r_get C 0 0 uX4 rfl rfl (by decide) w_1_38 rfl dX4_hasActor_12 ?_
    refine r_iconst C dX4_hasActor_15 ki_1 ?_
    refine r_iald (j := 1) (v := nI (sA σ)) C 1 rfl (by omega) (by decide) hR.A dX4_hasActor_16 ?_
    refine r_icmp_ge C (c9 := sA σ ≤ p) 24 dX4_hasActor_17 (by decide) (c_leNN (by omega) (by omega)) (fun h17_2 => ?_) (fun h17_2 => ?_)
    · refine r_iconst C dX4_hasActor_24 ki_0 ?_
      exact RT.1 _ _ _ _ _ dX4_hasActor_25 rfl nar_0 (rd_i (bP_f (by omega))) rfl
    · refine r_iconst C dX4_hasActor_20 ki_1 ?_
      refine r_goto C 25 dX4_hasActor_21 (by decide) ?_
      exact RT.1 _ _ _ _ _ dX4_hasActor_25 rfl nar_1 (rd_i (bP_t (by omega))) rfl
set_option maxRecDepth 100000 in
set_option maxHeartbeats 1000000 in
theorem c_X4_hasActor__r {l : Launch} {E : Ev} {h0 q1 : Nat} {f : Nat → Int32} {σ : Sg} (hR : RepC σ f) (hW : Wf σ) {x : Int32} : Cr l E yX4_hasActor cX4_hasActor 2 (some FieldType.boolean) 0 0 [.ref h0, .int x] [(h0, .inr (4, [.ref q1])), (q1, .inl (eI E, 265, .inl f))] (some (.int (bP (vI x (sA σ))))) := by
  have hwP := hW.P
  have hwA := hW.A
  have hwS := hW.S
  refine ct_of (by decide +kernel) (Nat.le_of_ble_eq_true rfl) (fun ω C RT => ?_)
  show ω [(h0, .inr (4, [.ref q1])), (q1, .inl (eI E, 265, .inl f))] [(0, .ref h0), (1, .int x)] [] 0
  refine r_iload_n C (i := 1) 1 dX4_hasActor_0 rfl rfl ?_
  refine r_if_lt C (y := 0) (c9 := x < 0) 24 dX4_hasActor_1 (by decide) Iff.rfl (fun h1_1 => ?_) (fun h1_1 => ?_)
  · refine r_iconst C dX4_hasActor_24 ki_0 ?_
    exact RT.1 _ _ _ _ _ dX4_hasActor_25 rfl nar_0 (rd_i (bP_f (vI_neg h1_1))) rfl
  · refine r_iload_n C (i := 1) 1 dX4_hasActor_4 rfl rfl ?_
    refine r_bipush C dX4_hasActor_5 kb_10 ?_
    refine r_icmp_ge C (c9 := nI 10 ≤ x) 24 dX4_hasActor_7 (by decide) Iff.rfl (fun h7_2 => ?_) (fun h7_2 => ?_)
    · refine r_iconst C dX4_hasActor_24 ki_0 ?_
      exact RT.1 _ _ _ _ _ dX4_hasActor_25 rfl nar_0 (rd_i (bP_f (fun z => vI_big (n := 10) (by decide) h7_2 (vI_sub z hwA)))) rfl
    · refine r_iload_n C (i := 1) 1 dX4_hasActor_10 rfl rfl ?_
      refine r_aload_n C (i := 0) 0 dX4_hasActor_11 rfl rfl ?_
      refine r_get C 0 0 uX4 rfl rfl (by decide) w_1_38 rfl dX4_hasActor_12 ?_
      refine r_iconst C dX4_hasActor_15 ki_1 ?_
      refine r_iald (j := 1) (v := nI (sA σ)) C 1 rfl (by omega) (by decide) hR.A dX4_hasActor_16 ?_
      refine r_icmp_ge C (c9 := nI (sA σ) ≤ x) 24 dX4_hasActor_17 (by decide) Iff.rfl (fun h17_3 => ?_) (fun h17_3 => ?_)
      · refine r_iconst C dX4_hasActor_24 ki_0 ?_
        exact RT.1 _ _ _ _ _ dX4_hasActor_25 rfl nar_0 (rd_i (bP_f (vI_big (by omega) h17_3))) rfl
      · refine r_iconst C dX4_hasActor_20 ki_1 ?_
        refine r_goto C 25 dX4_hasActor_21 (by decide) ?_
        exact RT.1 _ _ _ _ _ dX4_hasActor_25 rfl nar_1 (rd_i (bP_t (vI_ok (by omega) h1_1 h17_3))) rfl
set_option maxRecDepth 100000 in
set_option maxHeartbeats 1000000 in
theorem c_X4_hasSlip {l : Launch} {E : Ev} {h0 q1 : Nat} {f : Nat → Int32} {σ : Sg} (hR : RepC σ f) (hW : Wf σ) {p : Nat} (hp : p < 2147483648) : Cr l E yX4_hasSlip cX4_hasSlip 2 (some FieldType.boolean) 0 0 [.ref h0, .int (nI p)] [(h0, .inr (4, [.ref q1])), (q1, .inl (eI E, 265, .inl f))] (some (.int (bP (p < sS σ)))) := by
  have hwP := hW.P
  have hwA := hW.A
  have hwS := hW.S
  refine ct_of (by decide +kernel) (Nat.le_of_ble_eq_true rfl) (fun ω C RT => ?_)
  show ω [(h0, .inr (4, [.ref q1])), (q1, .inl (eI E, 265, .inl f))] [(0, .ref h0), (1, .int (nI p))] [] 0
  refine r_iload_n C (i := 1) 1 dX4_hasSlip_0 rfl rfl ?_
  refine r_if_ltF C (y := 0) (tgt := 24) dX4_hasSlip_1 (by decide) (fun z => ((by omega) : ¬ (p < 0)) ((z_ltN (by omega)).mp z)) ?_
  refine r_iload_n C (i := 1) 1 dX4_hasSlip_4 rfl rfl ?_
  refine r_bipush C dX4_hasSlip_5 kb_20 ?_
  refine r_icmp_ge C (c9 := 20 ≤ p) 24 dX4_hasSlip_7 (by decide) (c_leNN (by omega) (by omega)) (fun h7_1 => ?_) (fun h7_1 => ?_)
  · refine r_iconst C dX4_hasSlip_24 ki_0 ?_
    exact RT.1 _ _ _ _ _ dX4_hasSlip_25 rfl nar_0 (rd_i (bP_f (by omega))) rfl
  · refine r_iload_n C (i := 1) 1 dX4_hasSlip_10 rfl rfl ?_
    refine r_aload_n C (i := 0) 0 dX4_hasSlip_11 rfl rfl ?_
    refine r_get C 0 0 uX4 rfl rfl (by decide) w_1_38 rfl dX4_hasSlip_12 ?_
    refine r_iconst C dX4_hasSlip_15 ki_2 ?_
    refine r_iald (j := 2) (v := nI (sS σ)) C 1 rfl (by omega) (by decide) hR.S dX4_hasSlip_16 ?_
    refine r_icmp_ge C (c9 := sS σ ≤ p) 24 dX4_hasSlip_17 (by decide) (c_leNN (by omega) (by omega)) (fun h17_2 => ?_) (fun h17_2 => ?_)
    · refine r_iconst C dX4_hasSlip_24 ki_0 ?_
      exact RT.1 _ _ _ _ _ dX4_hasSlip_25 rfl nar_0 (rd_i (bP_f (by omega))) rfl
    · refine r_iconst C dX4_hasSlip_20 ki_1 ?_
      refine r_goto C 25 dX4_hasSlip_21 (by decide) ?_
      exact RT.1 _ _ _ _ _ dX4_hasSlip_25 rfl nar_1 (rd_i (bP_t (by omega))) rfl
set_option maxRecDepth 100000 in
set_option maxHeartbeats 1000000 in
theorem c_X4_hasSlip__r {l : Launch} {E : Ev} {h0 q1 : Nat} {f : Nat → Int32} {σ : Sg} (hR : RepC σ f) (hW : Wf σ) {x : Int32} : Cr l E yX4_hasSlip cX4_hasSlip 2 (some FieldType.boolean) 0 0 [.ref h0, .int x] [(h0, .inr (4, [.ref q1])), (q1, .inl (eI E, 265, .inl f))] (some (.int (bP (vI x (sS σ))))) := by
  have hwP := hW.P
  have hwA := hW.A
  have hwS := hW.S
  refine ct_of (by decide +kernel) (Nat.le_of_ble_eq_true rfl) (fun ω C RT => ?_)
  show ω [(h0, .inr (4, [.ref q1])), (q1, .inl (eI E, 265, .inl f))] [(0, .ref h0), (1, .int x)] [] 0
  refine r_iload_n C (i := 1) 1 dX4_hasSlip_0 rfl rfl ?_
  refine r_if_lt C (y := 0) (c9 := x < 0) 24 dX4_hasSlip_1 (by decide) Iff.rfl (fun h1_1 => ?_) (fun h1_1 => ?_)
  · refine r_iconst C dX4_hasSlip_24 ki_0 ?_
    exact RT.1 _ _ _ _ _ dX4_hasSlip_25 rfl nar_0 (rd_i (bP_f (vI_neg h1_1))) rfl
  · refine r_iload_n C (i := 1) 1 dX4_hasSlip_4 rfl rfl ?_
    refine r_bipush C dX4_hasSlip_5 kb_20 ?_
    refine r_icmp_ge C (c9 := nI 20 ≤ x) 24 dX4_hasSlip_7 (by decide) Iff.rfl (fun h7_2 => ?_) (fun h7_2 => ?_)
    · refine r_iconst C dX4_hasSlip_24 ki_0 ?_
      exact RT.1 _ _ _ _ _ dX4_hasSlip_25 rfl nar_0 (rd_i (bP_f (fun z => vI_big (n := 20) (by decide) h7_2 (vI_sub z hwS)))) rfl
    · refine r_iload_n C (i := 1) 1 dX4_hasSlip_10 rfl rfl ?_
      refine r_aload_n C (i := 0) 0 dX4_hasSlip_11 rfl rfl ?_
      refine r_get C 0 0 uX4 rfl rfl (by decide) w_1_38 rfl dX4_hasSlip_12 ?_
      refine r_iconst C dX4_hasSlip_15 ki_2 ?_
      refine r_iald (j := 2) (v := nI (sS σ)) C 1 rfl (by omega) (by decide) hR.S dX4_hasSlip_16 ?_
      refine r_icmp_ge C (c9 := nI (sS σ) ≤ x) 24 dX4_hasSlip_17 (by decide) Iff.rfl (fun h17_3 => ?_) (fun h17_3 => ?_)
      · refine r_iconst C dX4_hasSlip_24 ki_0 ?_
        exact RT.1 _ _ _ _ _ dX4_hasSlip_25 rfl nar_0 (rd_i (bP_f (vI_big (by omega) h17_3))) rfl
      · refine r_iconst C dX4_hasSlip_20 ki_1 ?_
        refine r_goto C 25 dX4_hasSlip_21 (by decide) ?_
        exact RT.1 _ _ _ _ _ dX4_hasSlip_25 rfl nar_1 (rd_i (bP_t (vI_ok (by omega) h1_1 h17_3))) rfl
set_option maxRecDepth 100000 in
set_option maxHeartbeats 1000000 in
theorem c_X4_option {l : Launch} {E : Ev} {h0 q1 : Nat} {f : Nat → Int32} {σ : Sg} (hR : RepC σ f) (hW : Wf σ) {i : Nat} (hi : i < 2) : Cr l E yX4_option cX4_option 2 (some FieldType.int) 0 0 [.ref h0, .int (nI i)] [(h0, .inr (4, [.ref q1])), (q1, .inl (eI E, 265, .inl f))] (some (.int (nI (sO σ i)))) := by
  have hwP := hW.P
  have hwA := hW.A
  have hwS := hW.S
  refine ct_of (by decide +kernel) (Nat.le_of_ble_eq_true rfl) (fun ω C RT => ?_)
  show ω [(h0, .inr (4, [.ref q1])), (q1, .inl (eI E, 265, .inl f))] [(0, .ref h0), (1, .int (nI i))] [] 0
  refine r_iload_n C (i := 1) 1 dX4_option_0 rfl rfl ?_
  refine r_if_ltF C (y := 0) (tgt := 20) dX4_option_1 (by decide) (fun z => ((by omega) : ¬ (i < 0)) ((z_ltN (by omega)).mp z)) ?_
  refine r_iload_n C (i := 1) 1 dX4_option_4 rfl rfl ?_
  refine r_iconst C dX4_option_5 ki_2 ?_
  refine r_icmp_geF C (tgt := 20) dX4_option_6 (by decide) (fun z => ((by omega) : ¬ (2 ≤ i)) ((c_leNN (by omega) (by omega)).mp z)) ?_
  refine r_aload_n C (i := 0) 0 dX4_option_9 rfl rfl ?_
  refine r_get C 0 0 uX4 rfl rfl (by decide) w_1_38 rfl dX4_option_10 ?_
  refine r_iconst C dX4_option_13 ki_3 ?_
  refine r_iload_n C (i := 1) 1 dX4_option_14 rfl rfl ?_
  refine r_iadd (v := nI (3 + i)) C dX4_option_15 (nI_add _ _) ?_
  refine r_iald (j := 3 + i) (v := nI (sO σ i)) C 1 rfl (by omega) (by decide) (hR.O hi) dX4_option_16 ?_
  refine r_goto C 21 dX4_option_17 (by decide) ?_
  exact RT.1 _ _ _ _ _ dX4_option_21 rfl rfl (rd_i rfl) rfl
set_option maxRecDepth 100000 in
set_option maxHeartbeats 1000000 in
theorem c_X4_fame {l : Launch} {E : Ev} {h0 q1 : Nat} {f : Nat → Int32} {σ : Sg} (hR : RepC σ f) (hW : Wf σ) {a : Nat} (ha : a < sA σ) : Cr l E yX4_fame cX4_fame 2 (some FieldType.int) 0 0 [.ref h0, .int (nI a)] [(h0, .inr (4, [.ref q1])), (q1, .inl (eI E, 265, .inl f))] (some (.int (nI (sF σ a)))) := by
  have hwP := hW.P
  have hwA := hW.A
  have hwS := hW.S
  refine ct_of (by decide +kernel) (Nat.le_of_ble_eq_true rfl) (fun ω C RT => ?_)
  show ω [(h0, .inr (4, [.ref q1])), (q1, .inl (eI E, 265, .inl f))] [(0, .ref h0), (1, .int (nI a))] [] 0
  refine r_iload_n C (i := 1) 1 dX4_fame_0 rfl rfl ?_
  refine r_if_ltF C (y := 0) (tgt := 21) dX4_fame_1 (by decide) (fun z => ((by omega) : ¬ (a < 0)) ((z_ltN (by omega)).mp z)) ?_
  refine r_iload_n C (i := 1) 1 dX4_fame_4 rfl rfl ?_
  refine r_bipush C dX4_fame_5 kb_10 ?_
  refine r_icmp_geF C (tgt := 21) dX4_fame_7 (by decide) (fun z => ((by omega) : ¬ (10 ≤ a)) ((c_leNN (by omega) (by omega)).mp z)) ?_
  refine r_aload_n C (i := 0) 0 dX4_fame_10 rfl rfl ?_
  refine r_get C 0 0 uX4 rfl rfl (by decide) w_1_38 rfl dX4_fame_11 ?_
  refine r_iconst C dX4_fame_14 ki_5 ?_
  refine r_iload_n C (i := 1) 1 dX4_fame_15 rfl rfl ?_
  refine r_iadd (v := nI (5 + a)) C dX4_fame_16 (nI_add _ _) ?_
  refine r_iald (j := 5 + a) (v := nI (sF σ a)) C 1 rfl (by omega) (by decide) (hR.F ha) dX4_fame_17 ?_
  refine r_goto C 22 dX4_fame_18 (by decide) ?_
  exact RT.1 _ _ _ _ _ dX4_fame_22 rfl rfl (rd_i rfl) rfl
set_option maxRecDepth 100000 in
set_option maxHeartbeats 1000000 in
theorem c_X4_fame__m {l : Launch} {E : Ev} {h0 q1 : Nat} {f : Nat → Int32} {σ : Sg} (hR : RepC σ f) (hW : Wf σ) {x : Nat} (hx : x ≤ sA σ) : Cr l E yX4_fame cX4_fame 2 (some FieldType.int) 0 0 [.ref h0, .int (mI x)] [(h0, .inr (4, [.ref q1])), (q1, .inl (eI E, 265, .inl f))] (some (.int (nI (sFm σ x)))) := by
  have hwP := hW.P
  have hwA := hW.A
  have hwS := hW.S
  refine ct_of (by decide +kernel) (Nat.le_of_ble_eq_true rfl) (fun ω C RT => ?_)
  show ω [(h0, .inr (4, [.ref q1])), (q1, .inl (eI E, 265, .inl f))] [(0, .ref h0), (1, .int (mI x))] [] 0
  refine r_iload_n C (i := 1) 1 dX4_fame_0 rfl rfl ?_
  refine r_if_lt C (y := 0) (c9 := x = 0) 21 dX4_fame_1 (by decide) (z_ltM (by omega)) (fun h1_1 => ?_) (fun h1_1 => ?_)
  · refine r_iconst C dX4_fame_21 ki_0 ?_
    exact RT.1 _ _ _ _ _ dX4_fame_22 rfl rfl (rd_i (congrArg nI (by rw [sFm, if_pos h1_1]))) rfl
  · obtain ⟨a, rfl⟩ : ∃ a, x = a + 1 := ⟨x - 1, by omega⟩
    refine r_lo (lv' := [(0, .ref h0), (1, .int (nI a))]) (by rw [mI_s]) ?_
    refine r_iload_n C (i := 1) 1 dX4_fame_4 rfl rfl ?_
    refine r_bipush C dX4_fame_5 kb_10 ?_
    refine r_icmp_geF C (tgt := 21) dX4_fame_7 (by decide) (fun z => ((by omega) : ¬ (10 ≤ a)) ((c_leNN (by omega) (by omega)).mp z)) ?_
    refine r_aload_n C (i := 0) 0 dX4_fame_10 rfl rfl ?_
    refine r_get C 0 0 uX4 rfl rfl (by decide) w_1_38 rfl dX4_fame_11 ?_
    refine r_iconst C dX4_fame_14 ki_5 ?_
    refine r_iload_n C (i := 1) 1 dX4_fame_15 rfl rfl ?_
    refine r_iadd (v := nI (5 + a)) C dX4_fame_16 (nI_add _ _) ?_
    refine r_iald (j := 5 + a) (v := nI (sF σ a)) C 1 rfl (by omega) (by decide) (hR.F (by omega)) dX4_fame_17 ?_
    refine r_goto C 22 dX4_fame_18 (by decide) ?_
    exact RT.1 _ _ _ _ _ dX4_fame_22 rfl rfl (rd_i (congrArg nI (by rw [sFm, if_neg (by omega)]; rfl))) rfl
set_option maxRecDepth 100000 in
set_option maxHeartbeats 1000000 in
theorem c_X4_illOn {l : Launch} {E : Ev} {h0 q1 : Nat} {f : Nat → Int32} {σ : Sg} (hR : RepC σ f) (hW : Wf σ) {n : Nat} (hn : n < 20) : Cr l E yX4_illOn cX4_illOn 2 (some FieldType.int) 0 0 [.ref h0, .int (nI n)] [(h0, .inr (4, [.ref q1])), (q1, .inl (eI E, 265, .inl f))] (some (.int (nI (bm (fun a => sI σ a n) 10)))) := by
  have hwP := hW.P
  have hwA := hW.A
  have hwS := hW.S
  refine ct_of (by decide +kernel) (Nat.le_of_ble_eq_true rfl) (fun ω C RT => ?_)
  show ω [(h0, .inr (4, [.ref q1])), (q1, .inl (eI E, 265, .inl f))] [(0, .ref h0), (1, .int (nI n))] [] 0
  refine r_iload_n C (i := 1) 1 dX4_illOn_0 rfl rfl ?_
  refine r_if_ltF C (y := 0) (tgt := 22) dX4_illOn_1 (by decide) (fun z => ((by omega) : ¬ (n < 0)) ((z_ltN (by omega)).mp z)) ?_
  refine r_iload_n C (i := 1) 1 dX4_illOn_4 rfl rfl ?_
  refine r_bipush C dX4_illOn_5 kb_20 ?_
  refine r_icmp_geF C (tgt := 22) dX4_illOn_7 (by decide) (fun z => ((by omega) : ¬ (20 ≤ n)) ((c_leNN (by omega) (by omega)).mp z)) ?_
  refine r_aload_n C (i := 0) 0 dX4_illOn_10 rfl rfl ?_
  refine r_get C 0 0 uX4 rfl rfl (by decide) w_1_38 rfl dX4_illOn_11 ?_
  refine r_bipush C dX4_illOn_14 kb_15 ?_
  refine r_iload_n C (i := 1) 1 dX4_illOn_16 rfl rfl ?_
  refine r_iadd (v := nI (15 + n)) C dX4_illOn_17 (nI_add _ _) ?_
  refine r_iald (j := 15 + n) (v := nI (bm (fun a => sI σ a n) 10)) C 1 rfl (by omega) (by decide) (hR.I hn) dX4_illOn_18 ?_
  refine r_goto C 23 dX4_illOn_19 (by decide) ?_
  exact RT.1 _ _ _ _ _ dX4_illOn_23 rfl rfl (rd_i rfl) rfl
set_option maxRecDepth 100000 in
set_option maxHeartbeats 1000000 in
theorem c_X4_illNights {l : Launch} {E : Ev} {h0 q1 : Nat} {f : Nat → Int32} {σ : Sg} (hR : RepC σ f) (hW : Wf σ) {a : Nat} (ha : a < 10) : Cr l E yX4_illNights cX4_illNights 4 (some FieldType.int) 1 21 [.ref h0, .int (nI a)] [(h0, .inr (4, [.ref q1])), (q1, .inl (eI E, 265, .inl f))] (some (.int (nI (cntI σ a 20)))) := by
  have hwP := hW.P
  have hwA := hW.A
  have hwS := hW.S
  refine ct_of (by decide +kernel) (Nat.le_of_ble_eq_true rfl) (fun ω C RT => ?_)
  show ω [(h0, .inr (4, [.ref q1])), (q1, .inl (eI E, 265, .inl f))] [(0, .ref h0), (1, .int (nI a))] [] 0
  refine r_iconst C dX4_illNights_0 ki_0 ?_
  refine r_istore_n C (lv' := [(2, .int (nI 0)), (0, .ref h0), (1, .int (nI a))]) dX4_illNights_1 rfl (by decide) rfl ?_
  refine r_iconst C dX4_illNights_2 ki_0 ?_
  refine r_istore_n C (lv' := [(3, .int (nI 0)), (2, .int (nI 0)), (0, .ref h0), (1, .int (nI a))]) dX4_illNights_3 rfl (by decide) rfl ?_
  have loop4_1 : ∀ (dd9 : Nat) (n : Nat) (r : Nat), 20 - n < dd9 → (n ≤ 20) → (r = cntI σ a n) → ω [(h0, .inr (4, [.ref q1])), (q1, .inl (eI E, 265, .inl f))] [(3, .int (nI n)), (2, .int (nI r)), (0, .ref h0), (1, .int (nI a))] [] 4 := by
    intro dd9
    induction dd9 with
    | zero => intro n r hd; exact absurd hd (Nat.not_lt_zero _)
    | succ dd9 ih2 =>
      intro n r hd hle_n he_r
      have hb := bmC_bit hW n ha
      have hi := hW.I a n
      have hb2 := bmC_lt hW n
      refine r_iload_n C (i := 3) 0 dX4_illNights_4 rfl rfl ?_
      refine r_bipush C dX4_illNights_5 kb_20 ?_
      refine r_icmp_ge C (c9 := 20 ≤ n) 35 dX4_illNights_7 (by decide) (c_leNN (by omega) (by omega)) (fun h7_3 => ?_) (fun h7_3 => ?_)
      · refine r_iload_n C (i := 2) 1 dX4_illNights_35 rfl rfl ?_
        exact RT.1 _ _ _ _ _ dX4_illNights_36 rfl rfl (rd_i (congrArg nI (by rw [he_r, (by omega : n = 20)]))) rfl
      · refine r_aload_n C (i := 0) 2 dX4_illNights_10 rfl rfl ?_
        refine r_get C 0 0 uX4 rfl rfl (by decide) w_1_38 rfl dX4_illNights_11 ?_
        refine r_bipush C dX4_illNights_14 kb_15 ?_
        refine r_iload_n C (i := 3) 0 dX4_illNights_16 rfl rfl ?_
        refine r_iadd (v := nI (15 + n)) C dX4_illNights_17 (nI_add _ _) ?_
        refine r_iald (j := 15 + n) (v := nI (bm (fun a => sI σ a n) 10)) C 1 rfl (by omega) (by decide) (hR.I (by omega)) dX4_illNights_18 ?_
        refine r_iload_n C (i := 1) 3 dX4_illNights_19 rfl rfl ?_
        refine r_readSN (rest := []) C (c_X5_holds (s := bm (fun a => sI σ a n) 10) (e := a) (hs := (by omega)) (he := (by omega))) lk_X5_holds (List.mem_of_getElem? (i := 6) rfl) [] dX4_illNights_20 rfl rfl rfl ⟨by decide, by decide⟩ (Nat.le_of_ble_eq_true rfl) (st' := [.int (bP ((bm (fun a => sI σ a n) 10) / 2 ^ a % 2 = 1))]) rfl ?_
        refine r_if_eq C (y := 0) (c9 := ¬ ((bm (fun a => sI σ a n) 10) / 2 ^ a % 2 = 1)) 29 dX4_illNights_23 (by decide) z_eqB (fun h23_4 => ?_) (fun h23_4 => ?_)
        · refine r_iinc C (lv' := [(3, .int (nI (n + 1))), (2, .int (nI r)), (0, .ref h0), (1, .int (nI a))]) (v := nI (n + 1)) 0 dX4_illNights_29 rfl (v_inc _) (by decide) rfl ?_
          refine r_goto C 4 dX4_illNights_32 (by decide) ?_
          exact ih2 (n + 1) r (by omega) (by omega) (by rw [cntI]; omega)
        · replace h23_4 : (bm (fun a => sI σ a n) 10) / 2 ^ a % 2 = 1 := Decidable.not_not.mp h23_4
          refine r_iinc C (lv' := [(2, .int (nI (r + 1))), (3, .int (nI n)), (0, .ref h0), (1, .int (nI a))]) (v := nI (r + 1)) 1 dX4_illNights_26 rfl (v_inc _) (by decide) rfl ?_
          refine r_iinc C (lv' := [(3, .int (nI (n + 1))), (2, .int (nI (r + 1))), (0, .ref h0), (1, .int (nI a))]) (v := nI (n + 1)) 1 dX4_illNights_29 rfl (v_inc _) (by decide) rfl ?_
          refine r_goto C 4 dX4_illNights_32 (by decide) ?_
          exact ih2 (n + 1) (r + 1) (by omega) (by omega) (by rw [cntI]; omega)
  exact loop4_1 _ 0 0 (Nat.lt_succ_self _) (by omega) rfl
set_option maxRecDepth 100000 in
set_option maxHeartbeats 1000000 in
theorem c_X4_canOpenPart {l : Launch} {E : Ev} {h0 q1 : Nat} {f : Nat → Int32} {σ : Sg} (hR : RepC σ f) (hW : Wf σ) : Cr l E yX4_canOpenPart cX4_canOpenPart 1 (some FieldType.boolean) 1 21 [.ref h0] [(h0, .inr (4, [.ref q1])), (q1, .inl (eI E, 265, .inl f))] (some (.int (bP (sP σ < 6)))) := by
  have hwP := hW.P
  have hwA := hW.A
  have hwS := hW.S
  refine ct_of (by decide +kernel) (Nat.le_of_ble_eq_true rfl) (fun ω C RT => ?_)
  show ω [(h0, .inr (4, [.ref q1])), (q1, .inl (eI E, 265, .inl f))] [(0, .ref h0)] [] 0
  refine r_aload_n C (i := 0) 0 dX4_canOpenPart_0 rfl rfl ?_
  refine r_get C 0 0 uX4 rfl rfl (by decide) w_1_38 rfl dX4_canOpenPart_1 ?_
  refine r_iconst C dX4_canOpenPart_4 ki_0 ?_
  refine r_iald (j := 0) (v := nI (sP σ)) C 1 rfl (by omega) (by decide) hR.P dX4_canOpenPart_5 ?_
  refine r_bipush C dX4_canOpenPart_6 kb_6 ?_
  refine r_readSN (rest := []) C (c_X5_isIndex (i := sP σ) (n := 6) (hi := (by omega)) (hn := (by omega))) lk_X5_isIndex (List.mem_of_getElem? (i := 7) rfl) [] dX4_canOpenPart_8 rfl rfl rfl ⟨by decide, by decide⟩ (Nat.le_of_ble_eq_true rfl) (st' := [.int (bP ((sP σ) < 6))]) rfl ?_
  exact RT.1 _ _ _ _ _ dX4_canOpenPart_11 rfl nar_B (rd_i rfl) rfl
set_option maxRecDepth 100000 in
set_option maxHeartbeats 1000000 in
theorem c_X4_canHire {l : Launch} {E : Ev} {h0 q1 : Nat} {f : Nat → Int32} {σ : Sg} (hR : RepC σ f) (hW : Wf σ) {x : Nat} (hx : x < 2147483648) : Cr l E yX4_canHire cX4_canHire 2 (some FieldType.boolean) 1 21 [.ref h0, .int (nI x)] [(h0, .inr (4, [.ref q1])), (q1, .inl (eI E, 265, .inl f))] (some (.int (bP (x ≤ 9 ∧ sA σ < 10)))) := by
  have hwP := hW.P
  have hwA := hW.A
  have hwS := hW.S
  refine ct_of (by decide +kernel) (Nat.le_of_ble_eq_true rfl) (fun ω C RT => ?_)
  show ω [(h0, .inr (4, [.ref q1])), (q1, .inl (eI E, 265, .inl f))] [(0, .ref h0), (1, .int (nI x))] [] 0
  refine r_iload_n C (i := 1) 1 dX4_canHire_0 rfl rfl ?_
  refine r_if_ltF C (y := 0) (tgt := 28) dX4_canHire_1 (by decide) (fun z => ((by omega) : ¬ (x < 0)) ((z_ltN (by omega)).mp z)) ?_
  refine r_iload_n C (i := 1) 1 dX4_canHire_4 rfl rfl ?_
  refine r_bipush C dX4_canHire_5 kb_9 ?_
  refine r_icmp_gt C (c9 := 9 < x) 28 dX4_canHire_7 (by decide) (c_ltNN (by omega) (by omega)) (fun h7_1 => ?_) (fun h7_1 => ?_)
  · refine r_iconst C dX4_canHire_28 ki_0 ?_
    exact RT.1 _ _ _ _ _ dX4_canHire_29 rfl nar_0 (rd_i (bP_f (by omega))) rfl
  · refine r_aload_n C (i := 0) 0 dX4_canHire_10 rfl rfl ?_
    refine r_get C 0 0 uX4 rfl rfl (by decide) w_1_38 rfl dX4_canHire_11 ?_
    refine r_iconst C dX4_canHire_14 ki_1 ?_
    refine r_iald (j := 1) (v := nI (sA σ)) C 1 rfl (by omega) (by decide) hR.A dX4_canHire_15 ?_
    refine r_bipush C dX4_canHire_16 kb_10 ?_
    refine r_readSN (rest := []) C (c_X5_isIndex (i := sA σ) (n := 10) (hi := (by omega)) (hn := (by omega))) lk_X5_isIndex (List.mem_of_getElem? (i := 7) rfl) [] dX4_canHire_18 rfl rfl rfl ⟨by decide, by decide⟩ (Nat.le_of_ble_eq_true rfl) (st' := [.int (bP ((sA σ) < 10))]) rfl ?_
    refine r_if_eq C (y := 0) (c9 := ¬ ((sA σ) < 10)) 28 dX4_canHire_21 (by decide) z_eqB (fun h21_2 => ?_) (fun h21_2 => ?_)
    · refine r_iconst C dX4_canHire_28 ki_0 ?_
      exact RT.1 _ _ _ _ _ dX4_canHire_29 rfl nar_0 (rd_i (bP_f (by omega))) rfl
    · replace h21_2 : (sA σ) < 10 := Decidable.not_not.mp h21_2
      refine r_iconst C dX4_canHire_24 ki_1 ?_
      refine r_goto C 29 dX4_canHire_25 (by decide) ?_
      exact RT.1 _ _ _ _ _ dX4_canHire_29 rfl nar_1 (rd_i (bP_t (by omega))) rfl
set_option maxRecDepth 100000 in
set_option maxHeartbeats 1000000 in
theorem c_X4_canRecast {l : Launch} {E : Ev} {h0 q1 : Nat} {f : Nat → Int32} {σ : Sg} (hR : RepC σ f) (hW : Wf σ) {p : Nat} (hp : p < 2147483648) {x : Nat} (hx : x < 2147483648) {n : Nat} (hn : n < 2147483648) : Cr l E yX4_canRecast cX4_canRecast 4 (some FieldType.boolean) 2 41 [.ref h0, .int (nI p), .int (mI x), .int (nI n)] [(h0, .inr (4, [.ref q1])), (q1, .inl (eI E, 265, .inl f))] (some (.int (bP (p < sP σ ∧ n < 20 ∧ x ≤ sA σ)))) := by
  have hwP := hW.P
  have hwA := hW.A
  have hwS := hW.S
  refine ct_of (by decide +kernel) (Nat.le_of_ble_eq_true rfl) (fun ω C RT => ?_)
  show ω [(h0, .inr (4, [.ref q1])), (q1, .inl (eI E, 265, .inl f))] [(0, .ref h0), (1, .int (nI p)), (2, .int (mI x)), (3, .int (nI n))] [] 0
  refine r_aload_n C (i := 0) 0 dX4_canRecast_0 rfl rfl ?_
  refine r_iload_n C (i := 1) 1 dX4_canRecast_1 rfl rfl ?_
  refine r_readV (rest := []) C (c_X4_hasPart (h0 := h0) (q1 := q1) (f := f) (σ := σ) (p := p) (hR := hR) (hW := hW) (hp := (by omega))) lk_X4_hasPart w_2_230 [0, 1] rfl dX4_canRecast_2 rfl rfl rfl rfl ⟨by decide, by decide⟩ (Nat.le_of_ble_eq_true rfl) (st' := [.int (bP (p < sP σ))]) rfl ?_
  refine r_if_eq C (y := 0) (c9 := ¬ (p < sP σ)) 32 dX4_canRecast_5 (by decide) z_eqB (fun h5_1 => ?_) (fun h5_1 => ?_)
  · refine r_iconst C dX4_canRecast_32 ki_0 ?_
    exact RT.1 _ _ _ _ _ dX4_canRecast_33 rfl nar_0 (rd_i (bP_f (by omega))) rfl
  · replace h5_1 : p < sP σ := Decidable.not_not.mp h5_1
    refine r_iload_n C (i := 3) 3 dX4_canRecast_8 rfl rfl ?_
    refine r_readSN (rest := []) C (c_X5_hasNight (i := n) (hi := (by omega))) lk_X5_hasNight (List.mem_of_getElem? (i := 5) rfl) [] dX4_canRecast_9 rfl rfl rfl ⟨by decide, by decide⟩ (Nat.le_of_ble_eq_true rfl) (st' := [.int (bP (n < 20))]) rfl ?_
    refine r_if_eq C (y := 0) (c9 := ¬ (n < 20)) 32 dX4_canRecast_12 (by decide) z_eqB (fun h12_2 => ?_) (fun h12_2 => ?_)
    · refine r_iconst C dX4_canRecast_32 ki_0 ?_
      exact RT.1 _ _ _ _ _ dX4_canRecast_33 rfl nar_0 (rd_i (bP_f (by omega))) rfl
    · replace h12_2 : n < 20 := Decidable.not_not.mp h12_2
      refine r_iload_n C (i := 2) 2 dX4_canRecast_15 rfl rfl ?_
      refine r_iconst C dX4_canRecast_16 ki_m1 ?_
      refine r_icmp_eq C (c9 := x = 0) 28 dX4_canRecast_17 (by decide) (c_eqMM (by omega) (by omega)) (fun h17_3 => ?_) (fun h17_3 => ?_)
      · refine r_iconst C dX4_canRecast_28 ki_1 ?_
        refine r_goto C 33 dX4_canRecast_29 (by decide) ?_
        exact RT.1 _ _ _ _ _ dX4_canRecast_33 rfl nar_1 (rd_i (bP_t (by omega))) rfl
      · obtain ⟨a, rfl⟩ : ∃ a, x = a + 1 := ⟨x - 1, by omega⟩
        refine r_lo (lv' := [(0, .ref h0), (1, .int (nI p)), (2, .int (nI a)), (3, .int (nI n))]) (by rw [mI_s]) ?_
        refine r_aload_n C (i := 0) 0 dX4_canRecast_20 rfl rfl ?_
        refine r_iload_n C (i := 2) 2 dX4_canRecast_21 rfl rfl ?_
        refine r_readV (rest := []) C (c_X4_hasActor (h0 := h0) (q1 := q1) (f := f) (σ := σ) (p := a) (hR := hR) (hW := hW) (hp := (by omega))) lk_X4_hasActor w_2_31 [0, 1] rfl dX4_canRecast_22 rfl rfl rfl rfl ⟨by decide, by decide⟩ (Nat.le_of_ble_eq_true rfl) (st' := [.int (bP (a < sA σ))]) rfl ?_
        refine r_if_eq C (y := 0) (c9 := ¬ (a < sA σ)) 32 dX4_canRecast_25 (by decide) z_eqB (fun h25_4 => ?_) (fun h25_4 => ?_)
        · refine r_iconst C dX4_canRecast_32 ki_0 ?_
          exact RT.1 _ _ _ _ _ dX4_canRecast_33 rfl nar_0 (rd_i (bP_f (by omega))) rfl
        · replace h25_4 : a < sA σ := Decidable.not_not.mp h25_4
          refine r_iconst C dX4_canRecast_28 ki_1 ?_
          refine r_goto C 33 dX4_canRecast_29 (by decide) ?_
          exact RT.1 _ _ _ _ _ dX4_canRecast_33 rfl nar_1 (rd_i (bP_t (by omega))) rfl
set_option maxRecDepth 100000 in
set_option maxHeartbeats 1000000 in
theorem c_X4_canRecast__n {l : Launch} {E : Ev} {h0 q1 : Nat} {f : Nat → Int32} {σ : Sg} (hR : RepC σ f) (hW : Wf σ) {p : Nat} (hp : p < 2147483648) {a : Nat} (ha : a < 2147483648) {n : Nat} (hn : n < 2147483648) : Cr l E yX4_canRecast cX4_canRecast 4 (some FieldType.boolean) 2 41 [.ref h0, .int (nI p), .int (nI a), .int (nI n)] [(h0, .inr (4, [.ref q1])), (q1, .inl (eI E, 265, .inl f))] (some (.int (bP (p < sP σ ∧ n < 20 ∧ a < sA σ)))) := by
  have hwP := hW.P
  have hwA := hW.A
  have hwS := hW.S
  refine ct_of (by decide +kernel) (Nat.le_of_ble_eq_true rfl) (fun ω C RT => ?_)
  show ω [(h0, .inr (4, [.ref q1])), (q1, .inl (eI E, 265, .inl f))] [(0, .ref h0), (1, .int (nI p)), (2, .int (nI a)), (3, .int (nI n))] [] 0
  refine r_aload_n C (i := 0) 0 dX4_canRecast_0 rfl rfl ?_
  refine r_iload_n C (i := 1) 1 dX4_canRecast_1 rfl rfl ?_
  refine r_readV (rest := []) C (c_X4_hasPart (h0 := h0) (q1 := q1) (f := f) (σ := σ) (p := p) (hR := hR) (hW := hW) (hp := (by omega))) lk_X4_hasPart w_2_230 [0, 1] rfl dX4_canRecast_2 rfl rfl rfl rfl ⟨by decide, by decide⟩ (Nat.le_of_ble_eq_true rfl) (st' := [.int (bP (p < sP σ))]) rfl ?_
  refine r_if_eq C (y := 0) (c9 := ¬ (p < sP σ)) 32 dX4_canRecast_5 (by decide) z_eqB (fun h5_1 => ?_) (fun h5_1 => ?_)
  · refine r_iconst C dX4_canRecast_32 ki_0 ?_
    exact RT.1 _ _ _ _ _ dX4_canRecast_33 rfl nar_0 (rd_i (bP_f (by omega))) rfl
  · replace h5_1 : p < sP σ := Decidable.not_not.mp h5_1
    refine r_iload_n C (i := 3) 3 dX4_canRecast_8 rfl rfl ?_
    refine r_readSN (rest := []) C (c_X5_hasNight (i := n) (hi := (by omega))) lk_X5_hasNight (List.mem_of_getElem? (i := 5) rfl) [] dX4_canRecast_9 rfl rfl rfl ⟨by decide, by decide⟩ (Nat.le_of_ble_eq_true rfl) (st' := [.int (bP (n < 20))]) rfl ?_
    refine r_if_eq C (y := 0) (c9 := ¬ (n < 20)) 32 dX4_canRecast_12 (by decide) z_eqB (fun h12_2 => ?_) (fun h12_2 => ?_)
    · refine r_iconst C dX4_canRecast_32 ki_0 ?_
      exact RT.1 _ _ _ _ _ dX4_canRecast_33 rfl nar_0 (rd_i (bP_f (by omega))) rfl
    · replace h12_2 : n < 20 := Decidable.not_not.mp h12_2
      refine r_iload_n C (i := 2) 2 dX4_canRecast_15 rfl rfl ?_
      refine r_iconst C dX4_canRecast_16 ki_m1 ?_
      refine r_icmp_eqF C (tgt := 28) dX4_canRecast_17 (by decide) (fun z => ((by omega) : ¬ (a + 1 = 0)) ((c_eqNM (by omega) (by omega)).mp z)) ?_
      refine r_aload_n C (i := 0) 0 dX4_canRecast_20 rfl rfl ?_
      refine r_iload_n C (i := 2) 2 dX4_canRecast_21 rfl rfl ?_
      refine r_readV (rest := []) C (c_X4_hasActor (h0 := h0) (q1 := q1) (f := f) (σ := σ) (p := a) (hR := hR) (hW := hW) (hp := (by omega))) lk_X4_hasActor w_2_31 [0, 1] rfl dX4_canRecast_22 rfl rfl rfl rfl ⟨by decide, by decide⟩ (Nat.le_of_ble_eq_true rfl) (st' := [.int (bP (a < sA σ))]) rfl ?_
      refine r_if_eq C (y := 0) (c9 := ¬ (a < sA σ)) 32 dX4_canRecast_25 (by decide) z_eqB (fun h25_3 => ?_) (fun h25_3 => ?_)
      · refine r_iconst C dX4_canRecast_32 ki_0 ?_
        exact RT.1 _ _ _ _ _ dX4_canRecast_33 rfl nar_0 (rd_i (bP_f (by omega))) rfl
      · replace h25_3 : a < sA σ := Decidable.not_not.mp h25_3
        refine r_iconst C dX4_canRecast_28 ki_1 ?_
        refine r_goto C 33 dX4_canRecast_29 (by decide) ?_
        exact RT.1 _ _ _ _ _ dX4_canRecast_33 rfl nar_1 (rd_i (bP_t (by omega))) rfl
set_option maxRecDepth 100000 in
set_option maxHeartbeats 1000000 in
theorem c_X4_canRecast__r {l : Launch} {E : Ev} {h0 q1 : Nat} {f : Nat → Int32} {σ : Sg} (hR : RepC σ f) (hW : Wf σ) {p x n : Int32} : Cr l E yX4_canRecast cX4_canRecast 4 (some FieldType.boolean) 2 41 [.ref h0, .int p, .int x, .int n] [(h0, .inr (4, [.ref q1])), (q1, .inl (eI E, 265, .inl f))] (some (.int (bP (vI p (sP σ) ∧ vI n 20 ∧ (x = mI 0 ∨ vI x (sA σ)))))) := by
  have hwP := hW.P
  have hwA := hW.A
  have hwS := hW.S
  refine ct_of (by decide +kernel) (Nat.le_of_ble_eq_true rfl) (fun ω C RT => ?_)
  show ω [(h0, .inr (4, [.ref q1])), (q1, .inl (eI E, 265, .inl f))] [(0, .ref h0), (1, .int p), (2, .int x), (3, .int n)] [] 0
  refine r_aload_n C (i := 0) 0 dX4_canRecast_0 rfl rfl ?_
  refine r_iload_n C (i := 1) 1 dX4_canRecast_1 rfl rfl ?_
  refine r_readV (rest := []) C (c_X4_hasPart__r (h0 := h0) (q1 := q1) (f := f) (σ := σ) (x := p) (hR := hR) (hW := hW)) lk_X4_hasPart w_2_230 [0, 1] rfl dX4_canRecast_2 rfl rfl rfl rfl ⟨by decide, by decide⟩ (Nat.le_of_ble_eq_true rfl) (st' := [.int (bP (vI p (sP σ)))]) rfl ?_
  refine r_if_eq C (y := 0) (c9 := ¬ (vI p (sP σ))) 32 dX4_canRecast_5 (by decide) z_eqB (fun h5_1 => ?_) (fun h5_1 => ?_)
  · refine r_iconst C dX4_canRecast_32 ki_0 ?_
    exact RT.1 _ _ _ _ _ dX4_canRecast_33 rfl nar_0 (rd_i (bP_f (fun z => h5_1 z.1))) rfl
  · replace h5_1 : vI p (sP σ) := Decidable.not_not.mp h5_1
    refine r_iload_n C (i := 3) 3 dX4_canRecast_8 rfl rfl ?_
    refine r_readSN (rest := []) C (c_X5_hasNight__r (x := n) ) lk_X5_hasNight (List.mem_of_getElem? (i := 5) rfl) [] dX4_canRecast_9 rfl rfl rfl ⟨by decide, by decide⟩ (Nat.le_of_ble_eq_true rfl) (st' := [.int (bP (vI n 20))]) rfl ?_
    refine r_if_eq C (y := 0) (c9 := ¬ (vI n 20)) 32 dX4_canRecast_12 (by decide) z_eqB (fun h12_2 => ?_) (fun h12_2 => ?_)
    · refine r_iconst C dX4_canRecast_32 ki_0 ?_
      exact RT.1 _ _ _ _ _ dX4_canRecast_33 rfl nar_0 (rd_i (bP_f (fun z => h12_2 z.2.1))) rfl
    · replace h12_2 : vI n 20 := Decidable.not_not.mp h12_2
      refine r_iload_n C (i := 2) 2 dX4_canRecast_15 rfl rfl ?_
      refine r_iconst C dX4_canRecast_16 ki_m1 ?_
      refine r_icmp_eq C (c9 := x = mI 0) 28 dX4_canRecast_17 (by decide) Iff.rfl (fun h17_3 => ?_) (fun h17_3 => ?_)
      · refine r_iconst C dX4_canRecast_28 ki_1 ?_
        refine r_goto C 33 dX4_canRecast_29 (by decide) ?_
        exact RT.1 _ _ _ _ _ dX4_canRecast_33 rfl nar_1 (rd_i (bP_t ⟨h5_1 , h12_2, Or.inl h17_3⟩)) rfl
      · refine r_aload_n C (i := 0) 0 dX4_canRecast_20 rfl rfl ?_
        refine r_iload_n C (i := 2) 2 dX4_canRecast_21 rfl rfl ?_
        refine r_readV (rest := []) C (c_X4_hasActor__r (h0 := h0) (q1 := q1) (f := f) (σ := σ) (x := x) (hR := hR) (hW := hW)) lk_X4_hasActor w_2_31 [0, 1] rfl dX4_canRecast_22 rfl rfl rfl rfl ⟨by decide, by decide⟩ (Nat.le_of_ble_eq_true rfl) (st' := [.int (bP (vI x (sA σ)))]) rfl ?_
        refine r_if_eq C (y := 0) (c9 := ¬ (vI x (sA σ))) 32 dX4_canRecast_25 (by decide) z_eqB (fun h25_4 => ?_) (fun h25_4 => ?_)
        · refine r_iconst C dX4_canRecast_32 ki_0 ?_
          exact RT.1 _ _ _ _ _ dX4_canRecast_33 rfl nar_0 (rd_i (bP_f (fun z => z.2.2.elim h17_3 h25_4))) rfl
        · replace h25_4 : vI x (sA σ) := Decidable.not_not.mp h25_4
          refine r_iconst C dX4_canRecast_28 ki_1 ?_
          refine r_goto C 33 dX4_canRecast_29 (by decide) ?_
          exact RT.1 _ _ _ _ _ dX4_canRecast_33 rfl nar_1 (rd_i (bP_t ⟨h5_1 , h12_2, Or.inr h25_4⟩)) rfl
set_option maxRecDepth 100000 in
set_option maxHeartbeats 1000000 in
theorem c_X4_principal {l : Launch} {E : Ev} {h0 q1 : Nat} {f : Nat → Int32} {σ : Sg} (hR : RepC σ f) (hW : Wf σ) {p n : Nat} (hp : p < sP σ) (hn : n < 20) : Cr l E yX4_principal cX4_principal 3 (some FieldType.int) 0 0 [.ref h0, .int (nI p), .int (nI n)] [(h0, .inr (4, [.ref q1])), (q1, .inl (eI E, 265, .inl f))] (some (.int (mI (sR σ p n)))) := by
  have hwP := hW.P
  have hwA := hW.A
  have hwS := hW.S
  refine ct_of (by decide +kernel) (Nat.le_of_ble_eq_true rfl) (fun ω C RT => ?_)
  show ω [(h0, .inr (4, [.ref q1])), (q1, .inl (eI E, 265, .inl f))] [(0, .ref h0), (1, .int (nI p)), (2, .int (nI n))] [] 0
  refine r_iload_n C (i := 1) 1 dX4_principal_0 rfl rfl ?_
  refine r_if_ltF C (y := 0) (tgt := 37) dX4_principal_1 (by decide) (fun z => ((by omega) : ¬ (p < 0)) ((z_ltN (by omega)).mp z)) ?_
  refine r_iload_n C (i := 1) 1 dX4_principal_4 rfl rfl ?_
  refine r_bipush C dX4_principal_5 kb_6 ?_
  refine r_icmp_geF C (tgt := 37) dX4_principal_7 (by decide) (fun z => ((by omega) : ¬ (6 ≤ p)) ((c_leNN (by omega) (by omega)).mp z)) ?_
  refine r_iload_n C (i := 2) 2 dX4_principal_10 rfl rfl ?_
  refine r_if_ltF C (y := 0) (tgt := 37) dX4_principal_11 (by decide) (fun z => ((by omega) : ¬ (n < 0)) ((z_ltN (by omega)).mp z)) ?_
  refine r_iload_n C (i := 2) 2 dX4_principal_14 rfl rfl ?_
  refine r_bipush C dX4_principal_15 kb_20 ?_
  refine r_icmp_geF C (tgt := 37) dX4_principal_17 (by decide) (fun z => ((by omega) : ¬ (20 ≤ n)) ((c_leNN (by omega) (by omega)).mp z)) ?_
  refine r_aload_n C (i := 0) 0 dX4_principal_20 rfl rfl ?_
  refine r_get C 0 0 uX4 rfl rfl (by decide) w_1_38 rfl dX4_principal_21 ?_
  refine r_bipush C dX4_principal_24 kb_65 ?_
  refine r_iload_n C (i := 1) 1 dX4_principal_26 rfl rfl ?_
  refine r_bipush C dX4_principal_27 kb_20 ?_
  refine r_imul (v := nI (p * 20)) C dX4_principal_29 (pk_mul _ _) ?_
  refine r_iadd (v := nI (65 + (p * 20))) C dX4_principal_30 (nI_add _ _) ?_
  refine r_iload_n C (i := 2) 2 dX4_principal_31 rfl rfl ?_
  refine r_iadd (v := nI ((65 + (p * 20)) + n)) C dX4_principal_32 (nI_add _ _) ?_
  refine r_iald (j := (65 + (p * 20)) + n) (v := mI (sR σ p n)) C 1 rfl (by omega) (by decide) (hR.R hp hn) dX4_principal_33 ?_
  refine r_goto C 38 dX4_principal_34 (by decide) ?_
  exact RT.1 _ _ _ _ _ dX4_principal_38 rfl rfl (rd_i rfl) rfl
set_option maxRecDepth 100000 in
set_option maxHeartbeats 1000000 in
theorem c_X4_principalsOn {l : Launch} {E : Ev} {h0 q1 : Nat} {f : Nat → Int32} {σ : Sg} (hR : RepC σ f) (hW : Wf σ) {n : Nat} (hn : n < 20) : Cr l E yX4_principalsOn cX4_principalsOn 5 (some FieldType.int) 1 22 [.ref h0, .int (nI n)] [(h0, .inr (4, [.ref q1])), (q1, .inl (eI E, 265, .inl f))] (some (.int (nI (prM σ n (sP σ))))) := by
  have hwP := hW.P
  have hwA := hW.A
  have hwS := hW.S
  refine ct_of (by decide +kernel) (Nat.le_of_ble_eq_true rfl) (fun ω C RT => ?_)
  show ω [(h0, .inr (4, [.ref q1])), (q1, .inl (eI E, 265, .inl f))] [(0, .ref h0), (1, .int (nI n))] [] 0
  refine r_iconst C dX4_principalsOn_0 ki_0 ?_
  refine r_istore_n C (lv' := [(2, .int (nI 0)), (0, .ref h0), (1, .int (nI n))]) dX4_principalsOn_1 rfl (by decide) rfl ?_
  refine r_iconst C dX4_principalsOn_2 ki_0 ?_
  refine r_istore_n C (lv' := [(3, .int (nI 0)), (2, .int (nI 0)), (0, .ref h0), (1, .int (nI n))]) dX4_principalsOn_3 rfl (by decide) rfl ?_
  have loop4_1 : ∀ (dd9 : Nat) (p : Nat) (r : Nat), sP σ - p < dd9 → (p ≤ sP σ) → (r = prM σ n p) → ω [(h0, .inr (4, [.ref q1])), (q1, .inl (eI E, 265, .inl f))] [(3, .int (nI p)), (2, .int (nI r)), (0, .ref h0), (1, .int (nI n))] [] 4 := by
    intro dd9
    induction dd9 with
    | zero => intro p r hd; exact absurd hd (Nat.not_lt_zero _)
    | succ dd9 ih2 =>
      intro p r hd hle_p he_r
      refine r_iload_n C (i := 3) 0 dX4_principalsOn_4 rfl rfl ?_
      refine r_aload_n C (i := 0) 2 dX4_principalsOn_5 rfl rfl ?_
      refine r_get C 0 0 uX4 rfl rfl (by decide) w_1_38 rfl dX4_principalsOn_6 ?_
      refine r_iconst C dX4_principalsOn_9 ki_0 ?_
      refine r_iald (j := 0) (v := nI (sP σ)) C 1 rfl (by omega) (by decide) hR.P dX4_principalsOn_10 ?_
      refine r_icmp_ge C (c9 := sP σ ≤ p) 41 dX4_principalsOn_11 (by decide) (c_leNN (by omega) (by omega)) (fun h11_3 => ?_) (fun h11_3 => ?_)
      · refine r_iload_n C (i := 2) 1 dX4_principalsOn_41 rfl rfl ?_
        exact RT.1 _ _ _ _ _ dX4_principalsOn_42 rfl rfl (rd_i (congrArg nI (by rw [he_r, (by omega : p = sP σ)]))) rfl
      · have hpr := hW.R (by omega : p < sP σ) hn
        refine r_aload_n C (i := 0) 2 dX4_principalsOn_14 rfl rfl ?_
        refine r_iload_n C (i := 3) 0 dX4_principalsOn_15 rfl rfl ?_
        refine r_iload_n C (i := 1) 3 dX4_principalsOn_16 rfl rfl ?_
        refine r_readV (rest := []) C (c_X4_principal (h0 := h0) (q1 := q1) (f := f) (σ := σ) (p := p) (n := n) (hR := hR) (hW := hW) (hp := (by omega)) (hn := (by omega))) lk_X4_principal w_3_69 [0, 1] rfl dX4_principalsOn_17 rfl rfl rfl rfl ⟨by decide, by decide⟩ (Nat.le_of_ble_eq_true rfl) (st' := [.int (mI (sR σ p n))]) rfl ?_
        refine r_istore C (lv' := [(4, .int (mI (sR σ p n))), (3, .int (nI p)), (2, .int (nI r)), (0, .ref h0), (1, .int (nI n))]) dX4_principalsOn_20 (by decide) rfl ?_
        refine r_iload C (i := 4) 0 dX4_principalsOn_22 rfl ?_
        refine r_iconst C dX4_principalsOn_24 ki_m1 ?_
        refine r_icmp_eq C (c9 := sR σ p n = 0) 35 dX4_principalsOn_25 (by decide) (c_eqMM (by omega) (by omega)) (fun h25_4 => ?_) (fun h25_4 => ?_)
        · refine r_iinc C (lv' := [(3, .int (nI (p + 1))), (4, .int (mI (sR σ p n))), (2, .int (nI r)), (0, .ref h0), (1, .int (nI n))]) (v := nI (p + 1)) 1 dX4_principalsOn_35 rfl (v_inc _) (by decide) rfl ?_
          refine r_goto C 4 dX4_principalsOn_38 (by decide) ?_
          refine r_lv (lv' := [(3, .int (nI (p + 1))), (2, .int (nI r)), (0, .ref h0), (1, .int (nI n))]) C [0, 2, 3, 4] rfl ?_
          exact ih2 (p + 1) r (by omega) (by omega) (by rw [prM, if_pos h25_4, he_r])
        · refine r_lo (lv' := [(4, .int (nI (sR σ p n - 1))), (3, .int (nI p)), (2, .int (nI r)), (0, .ref h0), (1, .int (nI n))]) (by rw [show sR σ p n = sR σ p n - 1 + 1 from by omega, mI_s, Nat.add_sub_cancel]) ?_
          refine r_iload_n C (i := 2) 2 dX4_principalsOn_28 rfl rfl ?_
          refine r_iconst C dX4_principalsOn_29 ki_1 ?_
          refine r_iload C (i := 4) 0 dX4_principalsOn_30 rfl ?_
          refine r_ishl (v := nI (2 ^ (sR σ p n - 1))) C dX4_principalsOn_32 (v_shl (by omega)) ?_
          refine r_ior (v := nI (r ||| (2 ^ (sR σ p n - 1)))) C dX4_principalsOn_33 (v_or _ _) ?_
          refine r_istore_n C (lv' := [(2, .int (nI (r ||| (2 ^ (sR σ p n - 1))))), (4, .int (nI (sR σ p n - 1))), (3, .int (nI p)), (0, .ref h0), (1, .int (nI n))]) dX4_principalsOn_34 rfl (by decide) rfl ?_
          refine r_iinc C (lv' := [(3, .int (nI (p + 1))), (2, .int (nI (r ||| (2 ^ (sR σ p n - 1))))), (4, .int (nI (sR σ p n - 1))), (0, .ref h0), (1, .int (nI n))]) (v := nI (p + 1)) 2 dX4_principalsOn_35 rfl (v_inc _) (by decide) rfl ?_
          refine r_goto C 4 dX4_principalsOn_38 (by decide) ?_
          refine r_lv (lv' := [(3, .int (nI (p + 1))), (2, .int (nI (r ||| (2 ^ (sR σ p n - 1))))), (0, .ref h0), (1, .int (nI n))]) C [0, 1, 3, 4] rfl ?_
          exact ih2 (p + 1) (r ||| (2 ^ (sR σ p n - 1))) (by omega) (by omega) (by rw [prM, if_neg h25_4, he_r])
  exact loop4_1 _ 0 0 (Nat.lt_succ_self _) (by omega) rfl
set_option maxRecDepth 100000 in
set_option maxHeartbeats 1000000 in
theorem c_X4_understudies {l : Launch} {E : Ev} {h0 q1 : Nat} {f : Nat → Int32} {σ : Sg} (hR : RepC σ f) (hW : Wf σ) {p : Nat} (hp : p < sP σ) : Cr l E yX4_understudies cX4_understudies 2 (some FieldType.int) 0 0 [.ref h0, .int (nI p)] [(h0, .inr (4, [.ref q1])), (q1, .inl (eI E, 265, .inl f))] (some (.int (nI (sC σ p)))) := by
  have hwP := hW.P
  have hwA := hW.A
  have hwS := hW.S
  refine ct_of (by decide +kernel) (Nat.le_of_ble_eq_true rfl) (fun ω C RT => ?_)
  show ω [(h0, .inr (4, [.ref q1])), (q1, .inl (eI E, 265, .inl f))] [(0, .ref h0), (1, .int (nI p))] [] 0
  refine r_iload_n C (i := 1) 1 dX4_understudies_0 rfl rfl ?_
  refine r_if_ltF C (y := 0) (tgt := 22) dX4_understudies_1 (by decide) (fun z => ((by omega) : ¬ (p < 0)) ((z_ltN (by omega)).mp z)) ?_
  refine r_iload_n C (i := 1) 1 dX4_understudies_4 rfl rfl ?_
  refine r_bipush C dX4_understudies_5 kb_6 ?_
  refine r_icmp_geF C (tgt := 22) dX4_understudies_7 (by decide) (fun z => ((by omega) : ¬ (6 ≤ p)) ((c_leNN (by omega) (by omega)).mp z)) ?_
  refine r_aload_n C (i := 0) 0 dX4_understudies_10 rfl rfl ?_
  refine r_get C 0 0 uX4 rfl rfl (by decide) w_1_38 rfl dX4_understudies_11 ?_
  refine r_bipush C dX4_understudies_14 kb_35 ?_
  refine r_iload_n C (i := 1) 1 dX4_understudies_16 rfl rfl ?_
  refine r_iadd (v := nI (35 + p)) C dX4_understudies_17 (nI_add _ _) ?_
  refine r_iald (j := 35 + p) (v := nI (sC σ p)) C 1 rfl (by omega) (by decide) (hR.C hp) dX4_understudies_18 ?_
  refine r_goto C 23 dX4_understudies_19 (by decide) ?_
  exact RT.1 _ _ _ _ _ dX4_understudies_23 rfl rfl (rd_i rfl) rfl
set_option maxRecDepth 100000 in
set_option maxHeartbeats 1000000 in
theorem c_X4_understudyAt {l : Launch} {E : Ev} {h0 q1 : Nat} {f : Nat → Int32} {σ : Sg} (hR : RepC σ f) (hW : Wf σ) {p k : Nat} (hp : p < sP σ) (hk : k < 2147483648) : Cr l E yX4_understudyAt cX4_understudyAt 3 (some FieldType.int) 0 0 [.ref h0, .int (nI p), .int (nI k)] [(h0, .inr (4, [.ref q1])), (q1, .inl (eI E, 265, .inl f))] (some (.int (mI (sUm σ p k)))) := by
  have hwP := hW.P
  have hwA := hW.A
  have hwS := hW.S
  have hwC := hW.C hp
  refine ct_of (by decide +kernel) (Nat.le_of_ble_eq_true rfl) (fun ω C RT => ?_)
  show ω [(h0, .inr (4, [.ref q1])), (q1, .inl (eI E, 265, .inl f))] [(0, .ref h0), (1, .int (nI p)), (2, .int (nI k))] [] 0
  refine r_iload_n C (i := 1) 1 dX4_understudyAt_0 rfl rfl ?_
  refine r_if_ltF C (y := 0) (tgt := 19) dX4_understudyAt_1 (by decide) (fun z => ((by omega) : ¬ (p < 0)) ((z_ltN (by omega)).mp z)) ?_
  refine r_iload_n C (i := 1) 1 dX4_understudyAt_4 rfl rfl ?_
  refine r_bipush C dX4_understudyAt_5 kb_6 ?_
  refine r_icmp_geF C (tgt := 19) dX4_understudyAt_7 (by decide) (fun z => ((by omega) : ¬ (6 ≤ p)) ((c_leNN (by omega) (by omega)).mp z)) ?_
  refine r_iload_n C (i := 2) 2 dX4_understudyAt_10 rfl rfl ?_
  refine r_if_ltF C (y := 0) (tgt := 19) dX4_understudyAt_11 (by decide) (fun z => ((by omega) : ¬ (k < 0)) ((z_ltN (by omega)).mp z)) ?_
  refine r_iload_n C (i := 2) 2 dX4_understudyAt_14 rfl rfl ?_
  refine r_iconst C dX4_understudyAt_15 ki_4 ?_
  refine r_icmp_lt C (c9 := k < 4) 21 dX4_understudyAt_16 (by decide) (c_ltNN (by omega) (by omega)) (fun h16_1 => ?_) (fun h16_1 => ?_)
  · refine r_iload_n C (i := 2) 2 dX4_understudyAt_21 rfl rfl ?_
    refine r_aload_n C (i := 0) 0 dX4_understudyAt_22 rfl rfl ?_
    refine r_get C 0 0 uX4 rfl rfl (by decide) w_1_38 rfl dX4_understudyAt_23 ?_
    refine r_bipush C dX4_understudyAt_26 kb_35 ?_
    refine r_iload_n C (i := 1) 1 dX4_understudyAt_28 rfl rfl ?_
    refine r_iadd (v := nI (35 + p)) C dX4_understudyAt_29 (nI_add _ _) ?_
    refine r_iald (j := 35 + p) (v := nI (sC σ p)) C 1 rfl (by omega) (by decide) (hR.C hp) dX4_understudyAt_30 ?_
    refine r_icmp_ge C (c9 := sC σ p ≤ k) 50 dX4_understudyAt_31 (by decide) (c_leNN (by omega) (by omega)) (fun h31_2 => ?_) (fun h31_2 => ?_)
    · refine r_iconst C dX4_understudyAt_50 ki_m1 ?_
      exact RT.1 _ _ _ _ _ dX4_understudyAt_51 rfl rfl (rd_i (congrArg mI (by rw [sUm, if_neg (by omega)]))) rfl
    · refine r_aload_n C (i := 0) 0 dX4_understudyAt_34 rfl rfl ?_
      refine r_get C 0 0 uX4 rfl rfl (by decide) w_1_38 rfl dX4_understudyAt_35 ?_
      refine r_bipush C dX4_understudyAt_38 kb_41 ?_
      refine r_iload_n C (i := 1) 1 dX4_understudyAt_40 rfl rfl ?_
      refine r_iconst C dX4_understudyAt_41 ki_4 ?_
      refine r_imul (v := nI (p * 4)) C dX4_understudyAt_42 (pk_mul _ _) ?_
      refine r_iadd (v := nI (41 + (p * 4))) C dX4_understudyAt_43 (nI_add _ _) ?_
      refine r_iload_n C (i := 2) 2 dX4_understudyAt_44 rfl rfl ?_
      refine r_iadd (v := nI ((41 + (p * 4)) + k)) C dX4_understudyAt_45 (nI_add _ _) ?_
      refine r_iald (j := (41 + (p * 4)) + k) (v := nI (sU σ p k)) C 1 rfl (by omega) (by decide) (hR.U hp (by omega)) dX4_understudyAt_46 ?_
      refine r_goto C 51 dX4_understudyAt_47 (by decide) ?_
      exact RT.1 _ _ _ _ _ dX4_understudyAt_51 rfl rfl (rd_i ((mI_s _).symm.trans (congrArg mI (by rw [sUm, if_pos (by omega)])))) rfl
  · refine r_iconst C dX4_understudyAt_19 ki_m1 ?_
    exact RT.1 _ _ _ _ _ dX4_understudyAt_20 rfl rfl (rd_i (congrArg mI (by rw [sUm, if_neg (by omega)]))) rfl
set_option maxRecDepth 100000 in
set_option maxHeartbeats 1000000 in
theorem c_X4_understudyAt__n {l : Launch} {E : Ev} {h0 q1 : Nat} {f : Nat → Int32} {σ : Sg} (hR : RepC σ f) (hW : Wf σ) {p k : Nat} (hp : p < sP σ) (hk : k < sC σ p) : Cr l E yX4_understudyAt cX4_understudyAt 3 (some FieldType.int) 0 0 [.ref h0, .int (nI p), .int (nI k)] [(h0, .inr (4, [.ref q1])), (q1, .inl (eI E, 265, .inl f))] (some (.int (nI (sU σ p k)))) := by
  have hwP := hW.P
  have hwA := hW.A
  have hwS := hW.S
  have hwC := hW.C hp
  refine ct_of (by decide +kernel) (Nat.le_of_ble_eq_true rfl) (fun ω C RT => ?_)
  show ω [(h0, .inr (4, [.ref q1])), (q1, .inl (eI E, 265, .inl f))] [(0, .ref h0), (1, .int (nI p)), (2, .int (nI k))] [] 0
  refine r_iload_n C (i := 1) 1 dX4_understudyAt_0 rfl rfl ?_
  refine r_if_ltF C (y := 0) (tgt := 19) dX4_understudyAt_1 (by decide) (fun z => ((by omega) : ¬ (p < 0)) ((z_ltN (by omega)).mp z)) ?_
  refine r_iload_n C (i := 1) 1 dX4_understudyAt_4 rfl rfl ?_
  refine r_bipush C dX4_understudyAt_5 kb_6 ?_
  refine r_icmp_geF C (tgt := 19) dX4_understudyAt_7 (by decide) (fun z => ((by omega) : ¬ (6 ≤ p)) ((c_leNN (by omega) (by omega)).mp z)) ?_
  refine r_iload_n C (i := 2) 2 dX4_understudyAt_10 rfl rfl ?_
  refine r_if_ltF C (y := 0) (tgt := 19) dX4_understudyAt_11 (by decide) (fun z => ((by omega) : ¬ (k < 0)) ((z_ltN (by omega)).mp z)) ?_
  refine r_iload_n C (i := 2) 2 dX4_understudyAt_14 rfl rfl ?_
  refine r_iconst C dX4_understudyAt_15 ki_4 ?_
  refine r_icmp_ltT C 21 dX4_understudyAt_16 (by decide) ((c_ltNN (by omega) (by omega)).mpr (by omega)) ?_
  refine r_iload_n C (i := 2) 2 dX4_understudyAt_21 rfl rfl ?_
  refine r_aload_n C (i := 0) 0 dX4_understudyAt_22 rfl rfl ?_
  refine r_get C 0 0 uX4 rfl rfl (by decide) w_1_38 rfl dX4_understudyAt_23 ?_
  refine r_bipush C dX4_understudyAt_26 kb_35 ?_
  refine r_iload_n C (i := 1) 1 dX4_understudyAt_28 rfl rfl ?_
  refine r_iadd (v := nI (35 + p)) C dX4_understudyAt_29 (nI_add _ _) ?_
  refine r_iald (j := 35 + p) (v := nI (sC σ p)) C 1 rfl (by omega) (by decide) (hR.C hp) dX4_understudyAt_30 ?_
  refine r_icmp_geF C (tgt := 50) dX4_understudyAt_31 (by decide) (fun z => ((by omega) : ¬ (sC σ p ≤ k)) ((c_leNN (by omega) (by omega)).mp z)) ?_
  refine r_aload_n C (i := 0) 0 dX4_understudyAt_34 rfl rfl ?_
  refine r_get C 0 0 uX4 rfl rfl (by decide) w_1_38 rfl dX4_understudyAt_35 ?_
  refine r_bipush C dX4_understudyAt_38 kb_41 ?_
  refine r_iload_n C (i := 1) 1 dX4_understudyAt_40 rfl rfl ?_
  refine r_iconst C dX4_understudyAt_41 ki_4 ?_
  refine r_imul (v := nI (p * 4)) C dX4_understudyAt_42 (pk_mul _ _) ?_
  refine r_iadd (v := nI (41 + (p * 4))) C dX4_understudyAt_43 (nI_add _ _) ?_
  refine r_iload_n C (i := 2) 2 dX4_understudyAt_44 rfl rfl ?_
  refine r_iadd (v := nI ((41 + (p * 4)) + k)) C dX4_understudyAt_45 (nI_add _ _) ?_
  refine r_iald (j := (41 + (p * 4)) + k) (v := nI (sU σ p k)) C 1 rfl (by omega) (by decide) (hR.U hp (by omega)) dX4_understudyAt_46 ?_
  refine r_goto C 51 dX4_understudyAt_47 (by decide) ?_
  exact RT.1 _ _ _ _ _ dX4_understudyAt_51 rfl rfl (rd_i rfl) rfl
theorem rk_no {σ : Sg} {p a : Nat} (h : ∀ k, k < sC σ p → sU σ p k ≠ a) : rk σ p a = 0 := by
  unfold rk
  rw [if_neg]
  intro z
  exact h _ z (of_decide_eq_true (fa_first_yes (fun k => decide (sU σ p k = a)) (sC σ p) z))
theorem fa_first_at {q : Nat → Bool} {n k : Nat} (hk : k < n) (h : q k = true) (h0 : ∀ j, j < k → q j = false) : fa_first q n = k := by
  rcases Nat.lt_trichotomy (fa_first q n) k with h1 | h1 | h1
  · have := fa_first_yes q n (by omega)
    rw [h0 _ h1] at this; cases this
  · exact h1
  · have := fa_first_no q n k h1
    rw [h] at this; cases this
theorem rk_yes {σ : Sg} {p a k : Nat} (hk : k < sC σ p) (h : sU σ p k = a) (h0 : ∀ j, j < k → sU σ p j ≠ a) : rk σ p a = k + 1 := by
  unfold rk
  rw [fa_first_at hk (decide_eq_true h) (fun j hj => decide_eq_false (h0 j hj)), if_pos hk]
theorem lt_step {P : Nat → Prop} {k : Nat} (h : ∀ j, j < k → P j) (hk : P k) : ∀ j, j < k + 1 → P j := fun j hj => by
  rcases Nat.lt_or_ge j k with q | q
  · exact h j q
  · rw [show j = k from by omega]; exact hk
set_option maxRecDepth 100000 in
set_option maxHeartbeats 1000000 in
theorem c_X4_rankOf {l : Launch} {E : Ev} {h0 q1 : Nat} {f : Nat → Int32} {σ : Sg} (hR : RepC σ f) (hW : Wf σ) {p a : Nat} (hp : p < sP σ) (ha : a < 2147483648) : Cr l E yX4_rankOf cX4_rankOf 4 (some FieldType.int) 1 22 [.ref h0, .int (nI p), .int (nI a)] [(h0, .inr (4, [.ref q1])), (q1, .inl (eI E, 265, .inl f))] (some (.int (mI (rk σ p a)))) := by
  have hwP := hW.P
  have hwA := hW.A
  have hwS := hW.S
  have hwC := hW.C hp
  refine ct_of (by decide +kernel) (Nat.le_of_ble_eq_true rfl) (fun ω C RT => ?_)
  show ω [(h0, .inr (4, [.ref q1])), (q1, .inl (eI E, 265, .inl f))] [(0, .ref h0), (1, .int (nI p)), (2, .int (nI a))] [] 0
  refine r_iconst C dX4_rankOf_0 ki_0 ?_
  refine r_istore_n C (lv' := [(3, .int (nI 0)), (0, .ref h0), (1, .int (nI p)), (2, .int (nI a))]) dX4_rankOf_1 rfl (by decide) rfl ?_
  have loop2_1 : ∀ (dd9 : Nat) (k : Nat), sC σ p - k < dd9 → (k ≤ sC σ p) → (∀ j, j < k → sU σ p j ≠ a) → ω [(h0, .inr (4, [.ref q1])), (q1, .inl (eI E, 265, .inl f))] [(3, .int (nI k)), (0, .ref h0), (1, .int (nI p)), (2, .int (nI a))] [] 2 := by
    intro dd9
    induction dd9 with
    | zero => intro k hd; exact absurd hd (Nat.not_lt_zero _)
    | succ dd9 ih2 =>
      intro k hd hle_k hno
      refine r_iload_n C (i := 3) 0 dX4_rankOf_2 rfl rfl ?_
      refine r_aload_n C (i := 0) 1 dX4_rankOf_3 rfl rfl ?_
      refine r_iload_n C (i := 1) 2 dX4_rankOf_4 rfl rfl ?_
      refine r_readV (rest := [.int (nI k)]) C (c_X4_understudies (h0 := h0) (q1 := q1) (f := f) (σ := σ) (p := p) (hR := hR) (hW := hW) (hp := (by omega))) lk_X4_understudies w_3_12 [0, 1] rfl dX4_rankOf_5 rfl rfl rfl rfl ⟨by decide, by decide⟩ (Nat.le_of_ble_eq_true rfl) (st' := [.int (nI (sC σ p)), .int (nI k)]) rfl ?_
      refine r_icmp_ge C (c9 := sC σ p ≤ k) 29 dX4_rankOf_8 (by decide) (c_leNN (by omega) (by omega)) (fun h8_3 => ?_) (fun h8_3 => ?_)
      · refine r_iconst C dX4_rankOf_29 ki_m1 ?_
        exact RT.1 _ _ _ _ _ dX4_rankOf_30 rfl rfl (rd_i (congrArg mI (rk_no (fun j hj => hno j (by omega))).symm)) rfl
      · refine r_aload_n C (i := 0) 1 dX4_rankOf_11 rfl rfl ?_
        refine r_iload_n C (i := 1) 2 dX4_rankOf_12 rfl rfl ?_
        refine r_iload_n C (i := 3) 0 dX4_rankOf_13 rfl rfl ?_
        have hu := hW.U hp (by omega : k < sC σ p)
        refine r_readV (rest := []) C (c_X4_understudyAt__n (h0 := h0) (q1 := q1) (f := f) (σ := σ) (p := p) (k := k) (hR := hR) (hW := hW) (hp := (by omega)) (hk := (by omega))) lk_X4_understudyAt w_3_16 [0, 1] rfl dX4_rankOf_14 rfl rfl rfl rfl ⟨by decide, by decide⟩ (Nat.le_of_ble_eq_true rfl) (st' := [.int (nI (sU σ p k))]) rfl ?_
        refine r_iload_n C (i := 2) 3 dX4_rankOf_17 rfl rfl ?_
        refine r_icmp_ne C (c9 := sU σ p k ≠ a) 23 dX4_rankOf_18 (by decide) (c_neNN (by omega) (by omega)) (fun h18_4 => ?_) (fun h18_4 => ?_)
        · refine r_iinc C (lv' := [(3, .int (nI (k + 1))), (0, .ref h0), (1, .int (nI p)), (2, .int (nI a))]) (v := nI (k + 1)) 0 dX4_rankOf_23 rfl (v_inc _) (by decide) rfl ?_
          refine r_goto C 2 dX4_rankOf_26 (by decide) ?_
          exact ih2 (k + 1) (by omega) (by omega) (lt_step hno h18_4)
        · refine r_iload_n C (i := 3) 0 dX4_rankOf_21 rfl rfl ?_
          exact RT.1 _ _ _ _ _ dX4_rankOf_22 rfl rfl (rd_i ((mI_s _).symm.trans (congrArg mI (rk_yes (by omega) (by omega) hno).symm))) rfl
  exact loop2_1 _ 0 (Nat.lt_succ_self _) (by omega) (fun j hj => absurd hj (Nat.not_lt_zero j))
theorem rk_le (σ : Sg) (p a : Nat) : rk σ p a ≤ sC σ p := by
  unfold rk
  split
  · omega
  · omega
set_option maxRecDepth 100000 in
set_option maxHeartbeats 1000000 in
theorem c_X4_canAddUnderstudy {l : Launch} {E : Ev} {h0 q1 : Nat} {f : Nat → Int32} {σ : Sg} (hR : RepC σ f) (hW : Wf σ) {p : Nat} (hp : p < 2147483648) {a : Nat} (ha : a < 2147483648) : Cr l E yX4_canAddUnderstudy cX4_canAddUnderstudy 3 (some FieldType.boolean) 2 45 [.ref h0, .int (nI p), .int (nI a)] [(h0, .inr (4, [.ref q1])), (q1, .inl (eI E, 265, .inl f))] (some (.int (bP (p < sP σ ∧ a < sA σ ∧ sC σ p < 4 ∧ rk σ p a = 0)))) := by
  have hwP := hW.P
  have hwA := hW.A
  have hwS := hW.S
  refine ct_of (by decide +kernel) (Nat.le_of_ble_eq_true rfl) (fun ω C RT => ?_)
  show ω [(h0, .inr (4, [.ref q1])), (q1, .inl (eI E, 265, .inl f))] [(0, .ref h0), (1, .int (nI p)), (2, .int (nI a))] [] 0
  refine r_aload_n C (i := 0) 0 dX4_canAddUnderstudy_0 rfl rfl ?_
  refine r_iload_n C (i := 1) 1 dX4_canAddUnderstudy_1 rfl rfl ?_
  refine r_readV (rest := []) C (c_X4_hasPart (h0 := h0) (q1 := q1) (f := f) (σ := σ) (p := p) (hR := hR) (hW := hW) (hp := (by omega))) lk_X4_hasPart w_2_230 [0, 1] rfl dX4_canAddUnderstudy_2 rfl rfl rfl rfl ⟨by decide, by decide⟩ (Nat.le_of_ble_eq_true rfl) (st' := [.int (bP (p < sP σ))]) rfl ?_
  refine r_if_eq C (y := 0) (c9 := ¬ (p < sP σ)) 46 dX4_canAddUnderstudy_5 (by decide) z_eqB (fun h5_1 => ?_) (fun h5_1 => ?_)
  · refine r_iconst C dX4_canAddUnderstudy_46 ki_0 ?_
    exact RT.1 _ _ _ _ _ dX4_canAddUnderstudy_47 rfl nar_0 (rd_i (bP_f (by omega))) rfl
  · replace h5_1 : p < sP σ := Decidable.not_not.mp h5_1
    refine r_aload_n C (i := 0) 0 dX4_canAddUnderstudy_8 rfl rfl ?_
    refine r_iload_n C (i := 2) 2 dX4_canAddUnderstudy_9 rfl rfl ?_
    refine r_readV (rest := []) C (c_X4_hasActor (h0 := h0) (q1 := q1) (f := f) (σ := σ) (p := a) (hR := hR) (hW := hW) (hp := (by omega))) lk_X4_hasActor w_2_31 [0, 1] rfl dX4_canAddUnderstudy_10 rfl rfl rfl rfl ⟨by decide, by decide⟩ (Nat.le_of_ble_eq_true rfl) (st' := [.int (bP (a < sA σ))]) rfl ?_
    refine r_if_eq C (y := 0) (c9 := ¬ (a < sA σ)) 46 dX4_canAddUnderstudy_13 (by decide) z_eqB (fun h13_2 => ?_) (fun h13_2 => ?_)
    · refine r_iconst C dX4_canAddUnderstudy_46 ki_0 ?_
      exact RT.1 _ _ _ _ _ dX4_canAddUnderstudy_47 rfl nar_0 (rd_i (bP_f (by omega))) rfl
    · replace h13_2 : a < sA σ := Decidable.not_not.mp h13_2
      have hwC := hW.C (by omega : p < sP σ)
      refine r_aload_n C (i := 0) 0 dX4_canAddUnderstudy_16 rfl rfl ?_
      refine r_get C 0 0 uX4 rfl rfl (by decide) w_1_38 rfl dX4_canAddUnderstudy_17 ?_
      refine r_bipush C dX4_canAddUnderstudy_20 kb_35 ?_
      refine r_iload_n C (i := 1) 1 dX4_canAddUnderstudy_22 rfl rfl ?_
      refine r_iadd (v := nI (35 + p)) C dX4_canAddUnderstudy_23 (nI_add _ _) ?_
      refine r_iald (j := 35 + p) (v := nI (sC σ p)) C 1 rfl (by omega) (by decide) (hR.C (by omega)) dX4_canAddUnderstudy_24 ?_
      refine r_iconst C dX4_canAddUnderstudy_25 ki_4 ?_
      refine r_readSN (rest := []) C (c_X5_isIndex (i := sC σ p) (n := 4) (hi := (by omega)) (hn := (by omega))) lk_X5_isIndex (List.mem_of_getElem? (i := 7) rfl) [] dX4_canAddUnderstudy_26 rfl rfl rfl ⟨by decide, by decide⟩ (Nat.le_of_ble_eq_true rfl) (st' := [.int (bP ((sC σ p) < 4))]) rfl ?_
      refine r_if_eq C (y := 0) (c9 := ¬ ((sC σ p) < 4)) 46 dX4_canAddUnderstudy_29 (by decide) z_eqB (fun h29_3 => ?_) (fun h29_3 => ?_)
      · refine r_iconst C dX4_canAddUnderstudy_46 ki_0 ?_
        exact RT.1 _ _ _ _ _ dX4_canAddUnderstudy_47 rfl nar_0 (rd_i (bP_f (by omega))) rfl
      · replace h29_3 : (sC σ p) < 4 := Decidable.not_not.mp h29_3
        refine r_aload_n C (i := 0) 0 dX4_canAddUnderstudy_32 rfl rfl ?_
        refine r_iload_n C (i := 1) 1 dX4_canAddUnderstudy_33 rfl rfl ?_
        refine r_iload_n C (i := 2) 2 dX4_canAddUnderstudy_34 rfl rfl ?_
        have hrk := rk_le σ p a
        refine r_readV (rest := []) C (c_X4_rankOf (h0 := h0) (q1 := q1) (f := f) (σ := σ) (p := p) (a := a) (hR := hR) (hW := hW) (hp := (by omega)) (ha := (by omega))) lk_X4_rankOf w_3_8 [0, 1] rfl dX4_canAddUnderstudy_35 rfl rfl rfl rfl ⟨by decide, by decide⟩ (Nat.le_of_ble_eq_true rfl) (st' := [.int (mI (rk σ p a))]) rfl ?_
        refine r_iconst C dX4_canAddUnderstudy_38 ki_m1 ?_
        refine r_icmp_ne C (c9 := rk σ p a ≠ 0) 46 dX4_canAddUnderstudy_39 (by decide) (c_neMM (by omega) (by omega)) (fun h39_4 => ?_) (fun h39_4 => ?_)
        · refine r_iconst C dX4_canAddUnderstudy_46 ki_0 ?_
          exact RT.1 _ _ _ _ _ dX4_canAddUnderstudy_47 rfl nar_0 (rd_i (bP_f (by omega))) rfl
        · refine r_iconst C dX4_canAddUnderstudy_42 ki_1 ?_
          refine r_goto C 47 dX4_canAddUnderstudy_43 (by decide) ?_
          exact RT.1 _ _ _ _ _ dX4_canAddUnderstudy_47 rfl nar_1 (rd_i (bP_t (by omega))) rfl
set_option maxRecDepth 100000 in
set_option maxHeartbeats 1000000 in
theorem c_X4_canAddSlip {l : Launch} {E : Ev} {h0 q1 : Nat} {f : Nat → Int32} {σ : Sg} (hR : RepC σ f) (hW : Wf σ) {n : Nat} (hn : n < 2147483648) {p : Nat} (hp : p < 2147483648) {a : Nat} (ha : a < 2147483648) {h : Nat} (hh : h < 2147483648) : Cr l E yX4_canAddSlip cX4_canAddSlip 5 (some FieldType.boolean) 2 41 [.ref h0, .int (nI n), .int (nI p), .int (nI a), .int (nI h)] [(h0, .inr (4, [.ref q1])), (q1, .inl (eI E, 265, .inl f))] (some (.int (bP (n < 20 ∧ p < sP σ ∧ a < sA σ ∧ h < 24 ∧ sS σ < 20)))) := by
  have hwP := hW.P
  have hwA := hW.A
  have hwS := hW.S
  refine ct_of (by decide +kernel) (Nat.le_of_ble_eq_true rfl) (fun ω C RT => ?_)
  show ω [(h0, .inr (4, [.ref q1])), (q1, .inl (eI E, 265, .inl f))] [(0, .ref h0), (1, .int (nI n)), (2, .int (nI p)), (3, .int (nI a)), (4, .int (nI h))] [] 0
  refine r_iload_n C (i := 1) 1 dX4_canAddSlip_0 rfl rfl ?_
  refine r_readSN (rest := []) C (c_X5_hasNight (i := n) (hi := (by omega))) lk_X5_hasNight (List.mem_of_getElem? (i := 5) rfl) [] dX4_canAddSlip_1 rfl rfl rfl ⟨by decide, by decide⟩ (Nat.le_of_ble_eq_true rfl) (st' := [.int (bP (n < 20))]) rfl ?_
  refine r_if_eq C (y := 0) (c9 := ¬ (n < 20)) 53 dX4_canAddSlip_4 (by decide) z_eqB (fun h4_1 => ?_) (fun h4_1 => ?_)
  · refine r_iconst C dX4_canAddSlip_53 ki_0 ?_
    exact RT.1 _ _ _ _ _ dX4_canAddSlip_54 rfl nar_0 (rd_i (bP_f (by omega))) rfl
  · replace h4_1 : n < 20 := Decidable.not_not.mp h4_1
    refine r_aload_n C (i := 0) 0 dX4_canAddSlip_7 rfl rfl ?_
    refine r_iload_n C (i := 2) 2 dX4_canAddSlip_8 rfl rfl ?_
    refine r_readV (rest := []) C (c_X4_hasPart (h0 := h0) (q1 := q1) (f := f) (σ := σ) (p := p) (hR := hR) (hW := hW) (hp := (by omega))) lk_X4_hasPart w_2_230 [0, 1] rfl dX4_canAddSlip_9 rfl rfl rfl rfl ⟨by decide, by decide⟩ (Nat.le_of_ble_eq_true rfl) (st' := [.int (bP (p < sP σ))]) rfl ?_
    refine r_if_eq C (y := 0) (c9 := ¬ (p < sP σ)) 53 dX4_canAddSlip_12 (by decide) z_eqB (fun h12_2 => ?_) (fun h12_2 => ?_)
    · refine r_iconst C dX4_canAddSlip_53 ki_0 ?_
      exact RT.1 _ _ _ _ _ dX4_canAddSlip_54 rfl nar_0 (rd_i (bP_f (by omega))) rfl
    · replace h12_2 : p < sP σ := Decidable.not_not.mp h12_2
      refine r_aload_n C (i := 0) 0 dX4_canAddSlip_15 rfl rfl ?_
      refine r_iload_n C (i := 3) 3 dX4_canAddSlip_16 rfl rfl ?_
      refine r_readV (rest := []) C (c_X4_hasActor (h0 := h0) (q1 := q1) (f := f) (σ := σ) (p := a) (hR := hR) (hW := hW) (hp := (by omega))) lk_X4_hasActor w_2_31 [0, 1] rfl dX4_canAddSlip_17 rfl rfl rfl rfl ⟨by decide, by decide⟩ (Nat.le_of_ble_eq_true rfl) (st' := [.int (bP (a < sA σ))]) rfl ?_
      refine r_if_eq C (y := 0) (c9 := ¬ (a < sA σ)) 53 dX4_canAddSlip_20 (by decide) z_eqB (fun h20_3 => ?_) (fun h20_3 => ?_)
      · refine r_iconst C dX4_canAddSlip_53 ki_0 ?_
        exact RT.1 _ _ _ _ _ dX4_canAddSlip_54 rfl nar_0 (rd_i (bP_f (by omega))) rfl
      · replace h20_3 : a < sA σ := Decidable.not_not.mp h20_3
        refine r_iload C (i := 4) 4 dX4_canAddSlip_23 rfl ?_
        refine r_if_ltF C (y := 0) (tgt := 53) dX4_canAddSlip_25 (by decide) (fun z => ((by omega) : ¬ (h < 0)) ((z_ltN (by omega)).mp z)) ?_
        refine r_iload C (i := 4) 4 dX4_canAddSlip_28 rfl ?_
        refine r_bipush C dX4_canAddSlip_30 kb_24 ?_
        refine r_icmp_ge C (c9 := 24 ≤ h) 53 dX4_canAddSlip_32 (by decide) (c_leNN (by omega) (by omega)) (fun h32_4 => ?_) (fun h32_4 => ?_)
        · refine r_iconst C dX4_canAddSlip_53 ki_0 ?_
          exact RT.1 _ _ _ _ _ dX4_canAddSlip_54 rfl nar_0 (rd_i (bP_f (by omega))) rfl
        · refine r_aload_n C (i := 0) 0 dX4_canAddSlip_35 rfl rfl ?_
          refine r_get C 0 0 uX4 rfl rfl (by decide) w_1_38 rfl dX4_canAddSlip_36 ?_
          refine r_iconst C dX4_canAddSlip_39 ki_2 ?_
          refine r_iald (j := 2) (v := nI (sS σ)) C 1 rfl (by omega) (by decide) hR.S dX4_canAddSlip_40 ?_
          refine r_bipush C dX4_canAddSlip_41 kb_20 ?_
          refine r_readSN (rest := []) C (c_X5_isIndex (i := sS σ) (n := 20) (hi := (by omega)) (hn := (by omega))) lk_X5_isIndex (List.mem_of_getElem? (i := 7) rfl) [] dX4_canAddSlip_43 rfl rfl rfl ⟨by decide, by decide⟩ (Nat.le_of_ble_eq_true rfl) (st' := [.int (bP ((sS σ) < 20))]) rfl ?_
          refine r_if_eq C (y := 0) (c9 := ¬ ((sS σ) < 20)) 53 dX4_canAddSlip_46 (by decide) z_eqB (fun h46_5 => ?_) (fun h46_5 => ?_)
          · refine r_iconst C dX4_canAddSlip_53 ki_0 ?_
            exact RT.1 _ _ _ _ _ dX4_canAddSlip_54 rfl nar_0 (rd_i (bP_f (by omega))) rfl
          · replace h46_5 : (sS σ) < 20 := Decidable.not_not.mp h46_5
            refine r_iconst C dX4_canAddSlip_49 ki_1 ?_
            refine r_goto C 54 dX4_canAddSlip_50 (by decide) ?_
            exact RT.1 _ _ _ _ _ dX4_canAddSlip_54 rfl nar_1 (rd_i (bP_t (by omega))) rfl
set_option maxRecDepth 100000 in
set_option maxHeartbeats 1000000 in
theorem c_X4_slipNight {l : Launch} {E : Ev} {h0 q1 : Nat} {f : Nat → Int32} {σ : Sg} (hR : RepC σ f) (hW : Wf σ) {k : Nat} (hk : k < sS σ) : Cr l E yX4_slipNight cX4_slipNight 2 (some FieldType.int) 0 0 [.ref h0, .int (nI k)] [(h0, .inr (4, [.ref q1])), (q1, .inl (eI E, 265, .inl f))] (some (.int (nI (sL σ k 0)))) := by
  have hwP := hW.P
  have hwA := hW.A
  have hwS := hW.S
  refine ct_of (by decide +kernel) (Nat.le_of_ble_eq_true rfl) (fun ω C RT => ?_)
  show ω [(h0, .inr (4, [.ref q1])), (q1, .inl (eI E, 265, .inl f))] [(0, .ref h0), (1, .int (nI k))] [] 0
  refine r_iload_n C (i := 1) 1 dX4_slipNight_0 rfl rfl ?_
  refine r_if_ltF C (y := 0) (tgt := 25) dX4_slipNight_1 (by decide) (fun z => ((by omega) : ¬ (k < 0)) ((z_ltN (by omega)).mp z)) ?_
  refine r_iload_n C (i := 1) 1 dX4_slipNight_4 rfl rfl ?_
  refine r_bipush C dX4_slipNight_5 kb_20 ?_
  refine r_icmp_geF C (tgt := 25) dX4_slipNight_7 (by decide) (fun z => ((by omega) : ¬ (20 ≤ k)) ((c_leNN (by omega) (by omega)).mp z)) ?_
  refine r_aload_n C (i := 0) 0 dX4_slipNight_10 rfl rfl ?_
  refine r_get C 0 0 uX4 rfl rfl (by decide) w_1_38 rfl dX4_slipNight_11 ?_
  refine r_sipush C dX4_slipNight_14 ks_185 ?_
  refine r_iload_n C (i := 1) 1 dX4_slipNight_17 rfl rfl ?_
  refine r_iconst C dX4_slipNight_18 ki_4 ?_
  refine r_imul (v := nI (k * 4)) C dX4_slipNight_19 (pk_mul _ _) ?_
  refine r_iadd (v := nI (185 + (k * 4))) C dX4_slipNight_20 (nI_add _ _) ?_
  refine r_iald (j := 185 + (k * 4)) (v := nI (sL σ k 0)) C 1 rfl (by omega) (by decide) (hR.L (j := 0) hk (by decide)) dX4_slipNight_21 ?_
  refine r_goto C 26 dX4_slipNight_22 (by decide) ?_
  exact RT.1 _ _ _ _ _ dX4_slipNight_26 rfl rfl (rd_i rfl) rfl
set_option maxRecDepth 100000 in
set_option maxHeartbeats 1000000 in
theorem c_X4_slipPart {l : Launch} {E : Ev} {h0 q1 : Nat} {f : Nat → Int32} {σ : Sg} (hR : RepC σ f) (hW : Wf σ) {k : Nat} (hk : k < sS σ) : Cr l E yX4_slipPart cX4_slipPart 2 (some FieldType.int) 0 0 [.ref h0, .int (nI k)] [(h0, .inr (4, [.ref q1])), (q1, .inl (eI E, 265, .inl f))] (some (.int (nI (sL σ k 1)))) := by
  have hwP := hW.P
  have hwA := hW.A
  have hwS := hW.S
  refine ct_of (by decide +kernel) (Nat.le_of_ble_eq_true rfl) (fun ω C RT => ?_)
  show ω [(h0, .inr (4, [.ref q1])), (q1, .inl (eI E, 265, .inl f))] [(0, .ref h0), (1, .int (nI k))] [] 0
  refine r_iload_n C (i := 1) 1 dX4_slipPart_0 rfl rfl ?_
  refine r_if_ltF C (y := 0) (tgt := 27) dX4_slipPart_1 (by decide) (fun z => ((by omega) : ¬ (k < 0)) ((z_ltN (by omega)).mp z)) ?_
  refine r_iload_n C (i := 1) 1 dX4_slipPart_4 rfl rfl ?_
  refine r_bipush C dX4_slipPart_5 kb_20 ?_
  refine r_icmp_geF C (tgt := 27) dX4_slipPart_7 (by decide) (fun z => ((by omega) : ¬ (20 ≤ k)) ((c_leNN (by omega) (by omega)).mp z)) ?_
  refine r_aload_n C (i := 0) 0 dX4_slipPart_10 rfl rfl ?_
  refine r_get C 0 0 uX4 rfl rfl (by decide) w_1_38 rfl dX4_slipPart_11 ?_
  refine r_sipush C dX4_slipPart_14 ks_185 ?_
  refine r_iload_n C (i := 1) 1 dX4_slipPart_17 rfl rfl ?_
  refine r_iconst C dX4_slipPart_18 ki_4 ?_
  refine r_imul (v := nI (k * 4)) C dX4_slipPart_19 (pk_mul _ _) ?_
  refine r_iadd (v := nI (185 + (k * 4))) C dX4_slipPart_20 (nI_add _ _) ?_
  refine r_iconst C dX4_slipPart_21 ki_1 ?_
  refine r_iadd (v := nI ((185 + (k * 4)) + 1)) C dX4_slipPart_22 (nI_add _ _) ?_
  refine r_iald (j := (185 + (k * 4)) + 1) (v := nI (sL σ k 1)) C 1 rfl (by omega) (by decide) (hR.L (j := 1) hk (by decide)) dX4_slipPart_23 ?_
  refine r_goto C 28 dX4_slipPart_24 (by decide) ?_
  exact RT.1 _ _ _ _ _ dX4_slipPart_28 rfl rfl (rd_i rfl) rfl
set_option maxRecDepth 100000 in
set_option maxHeartbeats 1000000 in
theorem c_X4_slipActor {l : Launch} {E : Ev} {h0 q1 : Nat} {f : Nat → Int32} {σ : Sg} (hR : RepC σ f) (hW : Wf σ) {k : Nat} (hk : k < sS σ) : Cr l E yX4_slipActor cX4_slipActor 2 (some FieldType.int) 0 0 [.ref h0, .int (nI k)] [(h0, .inr (4, [.ref q1])), (q1, .inl (eI E, 265, .inl f))] (some (.int (nI (sL σ k 2)))) := by
  have hwP := hW.P
  have hwA := hW.A
  have hwS := hW.S
  refine ct_of (by decide +kernel) (Nat.le_of_ble_eq_true rfl) (fun ω C RT => ?_)
  show ω [(h0, .inr (4, [.ref q1])), (q1, .inl (eI E, 265, .inl f))] [(0, .ref h0), (1, .int (nI k))] [] 0
  refine r_iload_n C (i := 1) 1 dX4_slipActor_0 rfl rfl ?_
  refine r_if_ltF C (y := 0) (tgt := 27) dX4_slipActor_1 (by decide) (fun z => ((by omega) : ¬ (k < 0)) ((z_ltN (by omega)).mp z)) ?_
  refine r_iload_n C (i := 1) 1 dX4_slipActor_4 rfl rfl ?_
  refine r_bipush C dX4_slipActor_5 kb_20 ?_
  refine r_icmp_geF C (tgt := 27) dX4_slipActor_7 (by decide) (fun z => ((by omega) : ¬ (20 ≤ k)) ((c_leNN (by omega) (by omega)).mp z)) ?_
  refine r_aload_n C (i := 0) 0 dX4_slipActor_10 rfl rfl ?_
  refine r_get C 0 0 uX4 rfl rfl (by decide) w_1_38 rfl dX4_slipActor_11 ?_
  refine r_sipush C dX4_slipActor_14 ks_185 ?_
  refine r_iload_n C (i := 1) 1 dX4_slipActor_17 rfl rfl ?_
  refine r_iconst C dX4_slipActor_18 ki_4 ?_
  refine r_imul (v := nI (k * 4)) C dX4_slipActor_19 (pk_mul _ _) ?_
  refine r_iadd (v := nI (185 + (k * 4))) C dX4_slipActor_20 (nI_add _ _) ?_
  refine r_iconst C dX4_slipActor_21 ki_2 ?_
  refine r_iadd (v := nI ((185 + (k * 4)) + 2)) C dX4_slipActor_22 (nI_add _ _) ?_
  refine r_iald (j := (185 + (k * 4)) + 2) (v := nI (sL σ k 2)) C 1 rfl (by omega) (by decide) (hR.L (j := 2) hk (by decide)) dX4_slipActor_23 ?_
  refine r_goto C 28 dX4_slipActor_24 (by decide) ?_
  exact RT.1 _ _ _ _ _ dX4_slipActor_28 rfl rfl (rd_i rfl) rfl
set_option maxRecDepth 100000 in
set_option maxHeartbeats 1000000 in
theorem c_X4_slipHour {l : Launch} {E : Ev} {h0 q1 : Nat} {f : Nat → Int32} {σ : Sg} (hR : RepC σ f) (hW : Wf σ) {k : Nat} (hk : k < sS σ) : Cr l E yX4_slipHour cX4_slipHour 2 (some FieldType.int) 0 0 [.ref h0, .int (nI k)] [(h0, .inr (4, [.ref q1])), (q1, .inl (eI E, 265, .inl f))] (some (.int (nI (sL σ k 3)))) := by
  have hwP := hW.P
  have hwA := hW.A
  have hwS := hW.S
  refine ct_of (by decide +kernel) (Nat.le_of_ble_eq_true rfl) (fun ω C RT => ?_)
  show ω [(h0, .inr (4, [.ref q1])), (q1, .inl (eI E, 265, .inl f))] [(0, .ref h0), (1, .int (nI k))] [] 0
  refine r_iload_n C (i := 1) 1 dX4_slipHour_0 rfl rfl ?_
  refine r_if_ltF C (y := 0) (tgt := 27) dX4_slipHour_1 (by decide) (fun z => ((by omega) : ¬ (k < 0)) ((z_ltN (by omega)).mp z)) ?_
  refine r_iload_n C (i := 1) 1 dX4_slipHour_4 rfl rfl ?_
  refine r_bipush C dX4_slipHour_5 kb_20 ?_
  refine r_icmp_geF C (tgt := 27) dX4_slipHour_7 (by decide) (fun z => ((by omega) : ¬ (20 ≤ k)) ((c_leNN (by omega) (by omega)).mp z)) ?_
  refine r_aload_n C (i := 0) 0 dX4_slipHour_10 rfl rfl ?_
  refine r_get C 0 0 uX4 rfl rfl (by decide) w_1_38 rfl dX4_slipHour_11 ?_
  refine r_sipush C dX4_slipHour_14 ks_185 ?_
  refine r_iload_n C (i := 1) 1 dX4_slipHour_17 rfl rfl ?_
  refine r_iconst C dX4_slipHour_18 ki_4 ?_
  refine r_imul (v := nI (k * 4)) C dX4_slipHour_19 (pk_mul _ _) ?_
  refine r_iadd (v := nI (185 + (k * 4))) C dX4_slipHour_20 (nI_add _ _) ?_
  refine r_iconst C dX4_slipHour_21 ki_3 ?_
  refine r_iadd (v := nI ((185 + (k * 4)) + 3)) C dX4_slipHour_22 (nI_add _ _) ?_
  refine r_iald (j := (185 + (k * 4)) + 3) (v := nI (sL σ k 3)) C 1 rfl (by omega) (by decide) (hR.L (j := 3) hk (by decide)) dX4_slipHour_23 ?_
  refine r_goto C 28 dX4_slipHour_24 (by decide) ?_
  exact RT.1 _ _ _ _ _ dX4_slipHour_28 rfl rfl (rd_i rfl) rfl
set_option maxRecDepth 100000 in
set_option maxHeartbeats 1000000 in
theorem c_X4_slipHour__m {l : Launch} {E : Ev} {h0 q1 : Nat} {f : Nat → Int32} {σ : Sg} (hR : RepC σ f) (hW : Wf σ) {x : Nat} (hx : x ≤ sS σ) : Cr l E yX4_slipHour cX4_slipHour 2 (some FieldType.int) 0 0 [.ref h0, .int (mI x)] [(h0, .inr (4, [.ref q1])), (q1, .inl (eI E, 265, .inl f))] (some (.int (mI (sHm σ x)))) := by
  have hwP := hW.P
  have hwA := hW.A
  have hwS := hW.S
  refine ct_of (by decide +kernel) (Nat.le_of_ble_eq_true rfl) (fun ω C RT => ?_)
  show ω [(h0, .inr (4, [.ref q1])), (q1, .inl (eI E, 265, .inl f))] [(0, .ref h0), (1, .int (mI x))] [] 0
  refine r_iload_n C (i := 1) 1 dX4_slipHour_0 rfl rfl ?_
  refine r_if_lt C (y := 0) (c9 := x = 0) 27 dX4_slipHour_1 (by decide) (z_ltM (by omega)) (fun h1_1 => ?_) (fun h1_1 => ?_)
  · refine r_iconst C dX4_slipHour_27 ki_m1 ?_
    exact RT.1 _ _ _ _ _ dX4_slipHour_28 rfl rfl (rd_i (congrArg mI (by rw [sHm, if_pos h1_1]))) rfl
  · obtain ⟨k, rfl⟩ : ∃ k, x = k + 1 := ⟨x - 1, by omega⟩
    refine r_lo (lv' := [(0, .ref h0), (1, .int (nI k))]) (by rw [mI_s]) ?_
    refine r_iload_n C (i := 1) 1 dX4_slipHour_4 rfl rfl ?_
    refine r_bipush C dX4_slipHour_5 kb_20 ?_
    refine r_icmp_geF C (tgt := 27) dX4_slipHour_7 (by decide) (fun z => ((by omega) : ¬ (20 ≤ k)) ((c_leNN (by omega) (by omega)).mp z)) ?_
    refine r_aload_n C (i := 0) 0 dX4_slipHour_10 rfl rfl ?_
    refine r_get C 0 0 uX4 rfl rfl (by decide) w_1_38 rfl dX4_slipHour_11 ?_
    refine r_sipush C dX4_slipHour_14 ks_185 ?_
    refine r_iload_n C (i := 1) 1 dX4_slipHour_17 rfl rfl ?_
    refine r_iconst C dX4_slipHour_18 ki_4 ?_
    refine r_imul (v := nI (k * 4)) C dX4_slipHour_19 (pk_mul _ _) ?_
    refine r_iadd (v := nI (185 + (k * 4))) C dX4_slipHour_20 (nI_add _ _) ?_
    refine r_iconst C dX4_slipHour_21 ki_3 ?_
    refine r_iadd (v := nI ((185 + (k * 4)) + 3)) C dX4_slipHour_22 (nI_add _ _) ?_
    refine r_iald (j := (185 + (k * 4)) + 3) (v := nI (sL σ k 3)) C 1 rfl (by omega) (by decide) (hR.L (j := 3) (by omega) (by decide)) dX4_slipHour_23 ?_
    refine r_goto C 28 dX4_slipHour_24 (by decide) ?_
    exact RT.1 _ _ _ _ _ dX4_slipHour_28 rfl rfl (rd_i ((mI_s _).symm.trans (congrArg mI (by rw [sHm, if_neg (by omega)]; rfl)))) rfl
set_option maxRecDepth 100000 in
set_option maxHeartbeats 1000000 in
theorem c_X4_slipsOn {l : Launch} {E : Ev} {h0 q1 : Nat} {f : Nat → Int32} {σ : Sg} (hR : RepC σ f) (hW : Wf σ) {n : Nat} (hn : n < 20) : Cr l E yX4_slipsOn cX4_slipsOn 4 (some FieldType.int) 1 21 [.ref h0, .int (nI n)] [(h0, .inr (4, [.ref q1])), (q1, .inl (eI E, 265, .inl f))] (some (.int (nI (slM σ n (sS σ))))) := by
  have hwP := hW.P
  have hwA := hW.A
  have hwS := hW.S
  refine ct_of (by decide +kernel) (Nat.le_of_ble_eq_true rfl) (fun ω C RT => ?_)
  show ω [(h0, .inr (4, [.ref q1])), (q1, .inl (eI E, 265, .inl f))] [(0, .ref h0), (1, .int (nI n))] [] 0
  refine r_iconst C dX4_slipsOn_0 ki_0 ?_
  refine r_istore_n C (lv' := [(2, .int (nI 0)), (0, .ref h0), (1, .int (nI n))]) dX4_slipsOn_1 rfl (by decide) rfl ?_
  refine r_iconst C dX4_slipsOn_2 ki_0 ?_
  refine r_istore_n C (lv' := [(3, .int (nI 0)), (2, .int (nI 0)), (0, .ref h0), (1, .int (nI n))]) dX4_slipsOn_3 rfl (by decide) rfl ?_
  have loop4_1 : ∀ (dd9 : Nat) (k : Nat) (r : Nat), sS σ - k < dd9 → (k ≤ sS σ) → (r = slM σ n k) → ω [(h0, .inr (4, [.ref q1])), (q1, .inl (eI E, 265, .inl f))] [(3, .int (nI k)), (2, .int (nI r)), (0, .ref h0), (1, .int (nI n))] [] 4 := by
    intro dd9
    induction dd9 with
    | zero => intro k r hd; exact absurd hd (Nat.not_lt_zero _)
    | succ dd9 ih2 =>
      intro k r hd hle_k he_r
      refine r_iload_n C (i := 3) 0 dX4_slipsOn_4 rfl rfl ?_
      refine r_aload_n C (i := 0) 2 dX4_slipsOn_5 rfl rfl ?_
      refine r_get C 0 0 uX4 rfl rfl (by decide) w_1_38 rfl dX4_slipsOn_6 ?_
      refine r_iconst C dX4_slipsOn_9 ki_2 ?_
      refine r_iald (j := 2) (v := nI (sS σ)) C 1 rfl (by omega) (by decide) hR.S dX4_slipsOn_10 ?_
      refine r_icmp_ge C (c9 := sS σ ≤ k) 35 dX4_slipsOn_11 (by decide) (c_leNN (by omega) (by omega)) (fun h11_3 => ?_) (fun h11_3 => ?_)
      · refine r_iload_n C (i := 2) 1 dX4_slipsOn_35 rfl rfl ?_
        exact RT.1 _ _ _ _ _ dX4_slipsOn_36 rfl rfl (rd_i (congrArg nI (by rw [he_r, (by omega : k = sS σ)]))) rfl
      · have hsl := hW.L (by omega : k < sS σ)
        refine r_aload_n C (i := 0) 2 dX4_slipsOn_14 rfl rfl ?_
        refine r_iload_n C (i := 3) 0 dX4_slipsOn_15 rfl rfl ?_
        refine r_readV (rest := []) C (c_X4_slipNight (h0 := h0) (q1 := q1) (f := f) (σ := σ) (k := k) (hR := hR) (hW := hW) (hk := (by omega))) lk_X4_slipNight w_3_77 [0, 1] rfl dX4_slipsOn_16 rfl rfl rfl rfl ⟨by decide, by decide⟩ (Nat.le_of_ble_eq_true rfl) (st' := [.int (nI (sL σ k 0))]) rfl ?_
        refine r_iload_n C (i := 1) 3 dX4_slipsOn_19 rfl rfl ?_
        refine r_icmp_ne C (c9 := sL σ k 0 ≠ n) 29 dX4_slipsOn_20 (by decide) (c_neNN (by omega) (by omega)) (fun h20_4 => ?_) (fun h20_4 => ?_)
        · refine r_iinc C (lv' := [(3, .int (nI (k + 1))), (2, .int (nI r)), (0, .ref h0), (1, .int (nI n))]) (v := nI (k + 1)) 0 dX4_slipsOn_29 rfl (v_inc _) (by decide) rfl ?_
          refine r_goto C 4 dX4_slipsOn_32 (by decide) ?_
          exact ih2 (k + 1) r (by omega) (by omega) (by rw [slM, if_neg h20_4, he_r])
        · refine r_iload_n C (i := 2) 1 dX4_slipsOn_23 rfl rfl ?_
          refine r_iconst C dX4_slipsOn_24 ki_1 ?_
          refine r_iload_n C (i := 3) 0 dX4_slipsOn_25 rfl rfl ?_
          refine r_ishl (v := nI (2 ^ k)) C dX4_slipsOn_26 (v_shl (by omega)) ?_
          refine r_ior (v := nI (r ||| (2 ^ k))) C dX4_slipsOn_27 (v_or _ _) ?_
          refine r_istore_n C (lv' := [(2, .int (nI (r ||| (2 ^ k)))), (3, .int (nI k)), (0, .ref h0), (1, .int (nI n))]) dX4_slipsOn_28 rfl (by decide) rfl ?_
          refine r_iinc C (lv' := [(3, .int (nI (k + 1))), (2, .int (nI (r ||| (2 ^ k)))), (0, .ref h0), (1, .int (nI n))]) (v := nI (k + 1)) 1 dX4_slipsOn_29 rfl (v_inc _) (by decide) rfl ?_
          refine r_goto C 4 dX4_slipsOn_32 (by decide) ?_
          exact ih2 (k + 1) (r ||| (2 ^ k)) (by omega) (by omega) (by rw [slM, if_pos (by omega), he_r])
  exact loop4_1 _ 0 0 (Nat.lt_succ_self _) (by omega) rfl
set_option maxRecDepth 100000 in
set_option maxHeartbeats 1000000 in
theorem c_X4_slipsFor {l : Launch} {E : Ev} {h0 q1 : Nat} {f : Nat → Int32} {σ : Sg} (hR : RepC σ f) (hW : Wf σ) {n p : Nat} (hn : n < 20) (hp : p < 2147483648) : Cr l E yX4_slipsFor cX4_slipsFor 5 (some FieldType.int) 1 21 [.ref h0, .int (nI n), .int (nI p)] [(h0, .inr (4, [.ref q1])), (q1, .inl (eI E, 265, .inl f))] (some (.int (nI (slC σ n p (sS σ))))) := by
  have hwP := hW.P
  have hwA := hW.A
  have hwS := hW.S
  refine ct_of (by decide +kernel) (Nat.le_of_ble_eq_true rfl) (fun ω C RT => ?_)
  show ω [(h0, .inr (4, [.ref q1])), (q1, .inl (eI E, 265, .inl f))] [(0, .ref h0), (1, .int (nI n)), (2, .int (nI p))] [] 0
  refine r_iconst C dX4_slipsFor_0 ki_0 ?_
  refine r_istore_n C (lv' := [(3, .int (nI 0)), (0, .ref h0), (1, .int (nI n)), (2, .int (nI p))]) dX4_slipsFor_1 rfl (by decide) rfl ?_
  refine r_iconst C dX4_slipsFor_2 ki_0 ?_
  refine r_istore C (lv' := [(4, .int (nI 0)), (3, .int (nI 0)), (0, .ref h0), (1, .int (nI n)), (2, .int (nI p))]) dX4_slipsFor_3 (by decide) rfl ?_
  have loop5_1 : ∀ (dd9 : Nat) (k : Nat) (r : Nat), sS σ - k < dd9 → (k ≤ sS σ) → (r = slC σ n p k) → ω [(h0, .inr (4, [.ref q1])), (q1, .inl (eI E, 265, .inl f))] [(4, .int (nI k)), (3, .int (nI r)), (0, .ref h0), (1, .int (nI n)), (2, .int (nI p))] [] 5 := by
    intro dd9
    induction dd9 with
    | zero => intro k r hd; exact absurd hd (Nat.not_lt_zero _)
    | succ dd9 ih2 =>
      intro k r hd hle_k he_r
      have hsc := slC_le σ n p k
      refine r_iload C (i := 4) 0 dX4_slipsFor_5 rfl ?_
      refine r_aload_n C (i := 0) 2 dX4_slipsFor_7 rfl rfl ?_
      refine r_get C 0 0 uX4 rfl rfl (by decide) w_1_38 rfl dX4_slipsFor_8 ?_
      refine r_iconst C dX4_slipsFor_11 ki_2 ?_
      refine r_iald (j := 2) (v := nI (sS σ)) C 1 rfl (by omega) (by decide) hR.S dX4_slipsFor_12 ?_
      refine r_icmp_ge C (c9 := sS σ ≤ k) 45 dX4_slipsFor_13 (by decide) (c_leNN (by omega) (by omega)) (fun h13_3 => ?_) (fun h13_3 => ?_)
      · refine r_iload_n C (i := 3) 1 dX4_slipsFor_45 rfl rfl ?_
        exact RT.1 _ _ _ _ _ dX4_slipsFor_46 rfl rfl (rd_i (congrArg nI (by rw [he_r, (by omega : k = sS σ)]))) rfl
      · have hsl := hW.L (by omega : k < sS σ)
        refine r_aload_n C (i := 0) 2 dX4_slipsFor_16 rfl rfl ?_
        refine r_iload C (i := 4) 0 dX4_slipsFor_17 rfl ?_
        refine r_readV (rest := []) C (c_X4_slipNight (h0 := h0) (q1 := q1) (f := f) (σ := σ) (k := k) (hR := hR) (hW := hW) (hk := (by omega))) lk_X4_slipNight w_3_77 [0, 1] rfl dX4_slipsFor_19 rfl rfl rfl rfl ⟨by decide, by decide⟩ (Nat.le_of_ble_eq_true rfl) (st' := [.int (nI (sL σ k 0))]) rfl ?_
        refine r_iload_n C (i := 1) 3 dX4_slipsFor_22 rfl rfl ?_
        refine r_icmp_ne C (c9 := sL σ k 0 ≠ n) 39 dX4_slipsFor_23 (by decide) (c_neNN (by omega) (by omega)) (fun h23_4 => ?_) (fun h23_4 => ?_)
        · refine r_iinc C (lv' := [(4, .int (nI (k + 1))), (3, .int (nI r)), (0, .ref h0), (1, .int (nI n)), (2, .int (nI p))]) (v := nI (k + 1)) 0 dX4_slipsFor_39 rfl (v_inc _) (by decide) rfl ?_
          refine r_goto C 5 dX4_slipsFor_42 (by decide) ?_
          exact ih2 (k + 1) r (by omega) (by omega) (by rw [slC, if_neg (by omega), he_r])
        · refine r_aload_n C (i := 0) 2 dX4_slipsFor_26 rfl rfl ?_
          refine r_iload C (i := 4) 0 dX4_slipsFor_27 rfl ?_
          refine r_readV (rest := []) C (c_X4_slipPart (h0 := h0) (q1 := q1) (f := f) (σ := σ) (k := k) (hR := hR) (hW := hW) (hk := (by omega))) lk_X4_slipPart w_3_207 [0, 1] rfl dX4_slipsFor_29 rfl rfl rfl rfl ⟨by decide, by decide⟩ (Nat.le_of_ble_eq_true rfl) (st' := [.int (nI (sL σ k 1))]) rfl ?_
          refine r_iload_n C (i := 2) 4 dX4_slipsFor_32 rfl rfl ?_
          refine r_icmp_ne C (c9 := sL σ k 1 ≠ p) 39 dX4_slipsFor_33 (by decide) (c_neNN (by omega) (by omega)) (fun h33_5 => ?_) (fun h33_5 => ?_)
          · refine r_iinc C (lv' := [(4, .int (nI (k + 1))), (3, .int (nI r)), (0, .ref h0), (1, .int (nI n)), (2, .int (nI p))]) (v := nI (k + 1)) 0 dX4_slipsFor_39 rfl (v_inc _) (by decide) rfl ?_
            refine r_goto C 5 dX4_slipsFor_42 (by decide) ?_
            exact ih2 (k + 1) r (by omega) (by omega) (by rw [slC, if_neg (by omega), he_r])
          · refine r_iinc C (lv' := [(3, .int (nI (r + 1))), (4, .int (nI k)), (0, .ref h0), (1, .int (nI n)), (2, .int (nI p))]) (v := nI (r + 1)) 1 dX4_slipsFor_36 rfl (v_inc _) (by decide) rfl ?_
            refine r_iinc C (lv' := [(4, .int (nI (k + 1))), (3, .int (nI (r + 1))), (0, .ref h0), (1, .int (nI n)), (2, .int (nI p))]) (v := nI (k + 1)) 1 dX4_slipsFor_39 rfl (v_inc _) (by decide) rfl ?_
            refine r_goto C 5 dX4_slipsFor_42 (by decide) ?_
            exact ih2 (k + 1) (r + 1) (by omega) (by omega) (by rw [slC, if_pos ⟨by omega, by omega⟩, he_r])
  exact loop5_1 _ 0 0 (Nat.lt_succ_self _) (by omega) rfl
